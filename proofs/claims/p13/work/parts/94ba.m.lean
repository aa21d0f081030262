/-! ===== methods ===== -/
set_option maxHeartbeats 0 in
/-- LentNames$Table.addRow()I -/
theorem c67_T5 {sc : Nat × Nat} {d ra0 : Nat} {h : xh} (hJ : J h) (ta0 : tw ra0) (hr0 : (h (ra0 + 5) 2) + 1 ≤ 2147483658) : X sc 67 (d + 1) (xI fun r h' => J h' ∧ Fr 281474976710784 h h' ∧ (2147483648 ≤ r ∧ r ≤ 2147483657) ∧ (h' ra0 7 = h ra0 7) ∧ (h' ra0 8 = h ra0 8) ∧ (h' (ra0 + 1) 2 = h (ra0 + 1) 2) ∧ (h' (ra0 + 3) 2 = h (ra0 + 3) 2) ∧ (h' (ra0 + 5) 2 = h (ra0 + 5) 2 + 1) ∧ (h' (ra0 + 7) 2 = h (ra0 + 7) 2) ∧ (r + 1 = h' (ra0 + 5) 2) ∧ Ot ra0 h h') 0 0 0 [x_r (ra0 + 5), 147573952589676412928] [] h := by
  have hF := Fr.refl 281474976710784 h
  have b1 := jB (e := 2) 0 hJ (rg_T5_2_0_1 ta0) (by first | decide | omega) (by first | decide | omega)
  refine x_aload (np := 1) (x := 0) (by decide +kernel) rfl (x_nc_le (tn_5 ta0)) ?_
  refine x_nI (t := 6) (mj := 66) (n := 1) (rc := 7) (ml := 1) (nr := 0) (np := 4) (as := [x_r (ra0 + 5)]) (rest := []) (lo1 := [x_r (ra0 + 5)]) (by decide +kernel) (by decide) (by decide +kernel) (x_rb_of (tr_5_7 ta0)) rfl rfl (x_wr (tn_5 ta0) x_wn) x_wn (by decide) rfl ?_
  refine x_aload (np := 1) (x := 0) (by decide +kernel) rfl (x_nc_le (tn_5 ta0)) ?_
  refine x_getC (np := 4) (x := 386) (f := 2) (q := (h (ra0 + 5) 2)) (by decide +kernel) (by decide) (tg_5_386_2_0 ta0) rfl (fun l2 => ?_)
  refine x_const (np := 5) (x := 9223372043297226753) (a := 2147483649) (by decide +kernel) (by decide) (by decide) ?_
  refine x_iadd (np := 6) (x := 0) (v := (1 + (h (ra0 + 5) 2))) (by decide +kernel) l2 (by decide) (by first | decide | omega) (by first | decide | omega) ?_
  refine x_aload (np := 7) (x := 0) (by decide +kernel) rfl (x_nc_le (tn_5 ta0)) ?_
  have b3 := jB (e := 0) 0 hJ (rg_T5_0_0_1 ta0) (by first | decide | omega) (by first | decide | omega)
  have q4 : (h (ra0 + 5) 0) = 2147483652 := by first | decide | omega
  refine x_getC (np := 10) (x := 384) (f := 0) (q := 2147483652) (by decide +kernel) (by decide) (tg_5_384_0_0 ta0) q4 (fun l5 => ?_)
  obtain ⟨u6, q7⟩ : ∃ z, (h (ra0 + 5) 2) = 2147483648 + z := ⟨(h (ra0 + 5) 2) - 2147483648, by first | decide | omega⟩
  refine x_imul (np := 11) (x := 0) (i := (1 + u6)) (j := 4) (v := (2147483652 + 4 * u6)) (by decide +kernel) (by first | decide | omega) (by first | decide | omega) (by first | decide | omega) (by first | decide | omega) (by first | decide | omega) (by decide) ?_
  refine x_aload (np := 12) (x := 0) (by decide +kernel) rfl (x_nc_le (tn_5 ta0)) ?_
  have q9 : h (ra0 + 5) 1 = (ra0 + 6) := tf_5_1 hJ ta0
  refine x_getR (np := 15) (x := 385) (f := 1) (q := (ra0 + 6)) (by decide +kernel) (by decide) (tg_5_385_1_1 ta0) q9 ?_
  refine x_alen (np := 16) (x := 0) (n := 40) (by decide +kernel) (tn_6 ta0) (tl_6 ta0).1 (tl_6 ta0).2 (by decide) ?_
  show X _ _ _ _ _ _ _ _ [iv_c 2147483688, iv_c (2147483652 + 4 * u6)] _
  refine x_icmp (k := 5) (tg := 23) (np := 19) (by decide +kernel) (by decide) (by first | decide | omega) (by decide) (fun q10 => ?_) (fun q11 => ?_)
  · have q10 : (2147483652 + 4 * u6) ≤ 2147483688 := q10
    refine x_const (np := 24) (x := 9223372039002259456) (a := 2147483648) (by decide +kernel) (by decide) (by decide) ?_
    refine x_retI (np := 25) (x := 0) (by decide +kernel) (by decide) (Or.inr ⟨by decide +kernel, by first | decide | omega, by first | decide | omega⟩) ⟨_, rfl, (by decide), ?_⟩
    refine x_ifz (k := 0) (tg := 9) (np := 7) (by decide +kernel) (by decide) (by decide) (fun q12 => ?_) (fun q13 => ?_)
    · have q12 : 2147483648 = 2147483648 := q12
      refine x_aload (np := 10) (x := 0) (by decide +kernel) rfl (x_nc_le (tn_5 ta0)) ?_
      refine x_dup (np := 11) (x := 0) (by decide +kernel) (by have z := x_nc_le (k := (ra0 + 5)) (tn_5 ta0); unfold x_r; omega) ?_
      refine x_getC (np := 14) (x := 386) (f := 2) (q := (h (ra0 + 5) 2)) (by decide +kernel) (by decide) (tg_5_386_2_0 ta0) rfl (fun l14 => ?_)
      refine x_const (np := 15) (x := 9223372043297226753) (a := 2147483649) (by decide +kernel) (by decide) (by decide) ?_
      refine x_iadd (np := 16) (x := 0) (v := (1 + (h (ra0 + 5) 2))) (by decide +kernel) l2 (by decide) (by first | decide | omega) (by first | decide | omega) ?_
      refine x_putI (np := 19) (x := 386) (f := 2) (by decide +kernel) (tg_5_386_2_0 ta0) (by first | decide | omega) (Or.inl (by decide)) ?_
      have j16 := jU (e := 2) (v := (1 + (h (ra0 + 5) 2))) 0 hJ (rg_T5_2_0_1 ta0) (by first | decide | omega) (by first | decide | omega) (by first | decide | omega)
      have f18 := jF (e := 2) (v := (1 + (h (ra0 + 5) 2))) 0 hF (rg_T5_2_0_1 ta0) (by first | decide | omega) (by first | decide | omega) (by decide)
      generalize e17 : x_up h (ra0 + 5) 2 (1 + (h (ra0 + 5) 2)) = h15 at j16 f18 ⊢
      refine x_const (np := 20) (x := 9223372039002259456) (a := 2147483648) (by decide +kernel) (by decide) (by decide) ?_
      refine x_istore (np := 21) (x := 1) (lo' := [x_r (ra0 + 5), iv_c 2147483648]) (by decide +kernel) (by decide) (Nat.le_of_ble_eq_true rfl) rfl ?_
      have p168 : ∀ (n : Nat) (v163 : Nat) (h165 : xh), 4294967296 - v163 < n → (2147483648 ≤ v163 ∧ v163 ≤ 2147483652) → J h165 → Fr 128 h15 h165 → Ot ra0 h h165 → X sc 67 (d + 1) (xI fun r h' => J h' ∧ Fr 281474976710784 h h' ∧ (2147483648 ≤ r ∧ r ≤ 2147483657) ∧ (h' ra0 7 = h ra0 7) ∧ (h' ra0 8 = h ra0 8) ∧ (h' (ra0 + 1) 2 = h (ra0 + 1) 2) ∧ (h' (ra0 + 3) 2 = h (ra0 + 3) 2) ∧ (h' (ra0 + 5) 2 = h (ra0 + 5) 2 + 1) ∧ (h' (ra0 + 7) 2 = h (ra0 + 7) 2) ∧ (r + 1 = h' (ra0 + 5) 2) ∧ Ot ra0 h h') 0 0 21 [x_r (ra0 + 5), iv_c v163] [] h165 := by
        intro n
        induction n with
        | zero => intro v163 h165 q170; exact absurd q170 (Nat.not_lt_zero _)
        | succ n i171 =>
          intro v163 h165 q170 b164 j167 f166 m169
          have f172 := Fr.trans f18 f166 (by decide)
          refine x_iload (np := 22) (x := 1) (by decide +kernel) rfl (by first | decide | omega) ?_
          refine x_aload (np := 23) (x := 0) (by decide +kernel) rfl (x_nc_le (tn_5 ta0)) ?_
          have b173 := jB (e := 0) 0 j167 (rg_T5_0_0_1 ta0) (by first | decide | omega) (by first | decide | omega)
          have q174 : (h165 (ra0 + 5) 0) = 2147483652 := by first | decide | omega
          refine x_getC (np := 26) (x := 384) (f := 0) (q := 2147483652) (by decide +kernel) (by decide) (tg_5_384_0_0 ta0) q174 (fun l175 => ?_)
          refine x_icmp (k := 3) (tg := 47) (np := 29) (by decide +kernel) (by decide) (by first | decide | omega) (by decide) (fun q176 => ?_) (fun q177 => ?_)
          · have q176 : 2147483652 ≤ v163 := q176
            refine x_aload (np := 48) (x := 0) (by decide +kernel) rfl (x_nc_le (tn_5 ta0)) ?_
            have q178 : h165 (ra0 + 5) 2 = h15 (ra0 + 5) 2 := jK 0 f166 (rg_T5_2_0_1 ta0) (by first | decide | omega) (by first | decide | omega) (by decide)
            have q179 : h15 (ra0 + 5) 2 = (1 + (h (ra0 + 5) 2)) := by rw [← e17]; exact x_up_at
            refine x_getC (np := 51) (x := 386) (f := 2) (q := (1 + (h (ra0 + 5) 2))) (by decide +kernel) (by decide) (tg_5_386_2_0 ta0) (q178.trans q179) (fun l180 => ?_)
            refine x_const (np := 52) (x := 9223372043297226753) (a := 2147483649) (by decide +kernel) (by decide) (by decide) ?_
            refine x_isub (np := 53) (x := 0) (v := (h (ra0 + 5) 2)) (by decide +kernel) (by first | decide | omega) (by decide) (by first | decide | omega) (by first | decide | omega) ?_
            have b181 := jB (e := 7) 0 hJ (rg_T0_7_0_1 ta0) (by first | decide | omega) (by first | decide | omega)
            have q182 : h165 ra0 7 = h15 ra0 7 := jK 0 f166 (rg_T0_7_0_1 ta0) (by first | decide | omega) (by first | decide | omega) (by decide)
            have q183 : h15 ra0 7 = h ra0 7 := by rw [← e17]; exact x_up_k tof_0_5
            have q184 : h165 ra0 8 = h15 ra0 8 := jK 0 f166 (rg_T0_8_0_1 ta0) (by first | decide | omega) (by first | decide | omega) (by decide)
            have q185 : h15 ra0 8 = h ra0 8 := by rw [← e17]; exact x_up_k tof_0_5
            have b186 := jB (e := 2) 0 hJ (rg_T1_2_0_1 ta0) (by first | decide | omega) (by first | decide | omega)
            have q187 : h165 (ra0 + 1) 2 = h15 (ra0 + 1) 2 := jK 0 f166 (rg_T1_2_0_1 ta0) (by first | decide | omega) (by first | decide | omega) (by decide)
            have q188 : h15 (ra0 + 1) 2 = h (ra0 + 1) 2 := by rw [← e17]; exact x_up_k tof_1_5
            have b189 := jB (e := 2) 0 hJ (rg_T3_2_0_1 ta0) (by first | decide | omega) (by first | decide | omega)
            have q190 : h165 (ra0 + 3) 2 = h15 (ra0 + 3) 2 := jK 0 f166 (rg_T3_2_0_1 ta0) (by first | decide | omega) (by first | decide | omega) (by decide)
            have q191 : h15 (ra0 + 3) 2 = h (ra0 + 3) 2 := by rw [← e17]; exact x_up_k tof_3_5
            have q192 : h165 (ra0 + 5) 2 = h15 (ra0 + 5) 2 := jK 0 f166 (rg_T5_2_0_1 ta0) (by first | decide | omega) (by first | decide | omega) (by decide)
            have q193 : h15 (ra0 + 5) 2 = (1 + (h (ra0 + 5) 2)) := by rw [← e17]; exact x_up_at
            have b194 := jB (e := 2) 0 hJ (rg_T7_2_0_1 ta0) (by first | decide | omega) (by first | decide | omega)
            have q195 : h165 (ra0 + 7) 2 = h15 (ra0 + 7) 2 := jK 0 f166 (rg_T7_2_0_1 ta0) (by first | decide | omega) (by first | decide | omega) (by decide)
            have q196 : h15 (ra0 + 7) 2 = h (ra0 + 7) 2 := by rw [← e17]; exact x_up_k tof_7_5
            have q197 : h165 (ra0 + 5) 2 = h15 (ra0 + 5) 2 := jK 0 f166 (rg_T5_2_0_1 ta0) (by first | decide | omega) (by first | decide | omega) (by decide)
            have q198 : h15 (ra0 + 5) 2 = (1 + (h (ra0 + 5) 2)) := by rw [← e17]; exact x_up_at
            refine x_retI (np := 54) (x := 0) (by decide +kernel) l2 (Or.inl (by decide +kernel)) ⟨_, rfl, l2, ?_⟩
            exact ⟨j167, f172, (by first | decide | omega), (by first | decide | omega), (by first | decide | omega), (by first | decide | omega), (by first | decide | omega), (by first | decide | omega), (by first | decide | omega), (by first | decide | omega), m169⟩
          have q177 : ¬ (2147483652 ≤ v163) := q177
          refine x_aload (np := 30) (x := 0) (by decide +kernel) rfl (x_nc_le (tn_5 ta0)) ?_
          refine x_aload (np := 31) (x := 0) (by decide +kernel) rfl (x_nc_le (tn_5 ta0)) ?_
          have q199 : h165 (ra0 + 5) 2 = h15 (ra0 + 5) 2 := jK 0 f166 (rg_T5_2_0_1 ta0) (by first | decide | omega) (by first | decide | omega) (by decide)
          have q200 : h15 (ra0 + 5) 2 = (1 + (h (ra0 + 5) 2)) := by rw [← e17]; exact x_up_at
          refine x_getC (np := 34) (x := 386) (f := 2) (q := (1 + (h (ra0 + 5) 2))) (by decide +kernel) (by decide) (tg_5_386_2_0 ta0) (q199.trans q200) (fun l201 => ?_)
          refine x_const (np := 35) (x := 9223372043297226753) (a := 2147483649) (by decide +kernel) (by decide) (by decide) ?_
          refine x_isub (np := 36) (x := 0) (v := (h (ra0 + 5) 2)) (by decide +kernel) (by first | decide | omega) (by decide) (by first | decide | omega) (by first | decide | omega) ?_
          refine x_iload (np := 37) (x := 1) (by decide +kernel) rfl (by first | decide | omega) ?_
          refine x_const (np := 38) (x := 9223372039002259456) (a := 2147483648) (by decide +kernel) (by decide) (by decide) ?_
          refine x_nV (t := 6) (mj := 69) (n := 4) (rc := 7) (ml := 5) (nr := 0) (np := 41) (as := [x_r (ra0 + 5), iv_c (h (ra0 + 5) 2), iv_c v163, iv_c 2147483648]) (rest := []) (lo1 := [x_r (ra0 + 5), iv_c (h (ra0 + 5) 2), iv_c v163, iv_c 2147483648, 147573952589676412928]) (by decide +kernel) (by decide) (by decide +kernel) (x_rb_of (tr_5_7 ta0)) rfl rfl (x_wr (tn_5 ta0) (x_wi l2 (x_wi (by first | decide | omega) (x_wi (by decide) x_wn)))) x_wn (by decide) rfl ?_
          refine x_iload (np := 1) (x := 1) (by decide +kernel) rfl l2 ?_
          refine x_ifz (k := 2) (tg := 28) (np := 4) (by decide +kernel) (by decide) l2 (fun q202 => ?_) (fun q203 => ?_)
          · have q202 : (h (ra0 + 5) 2) < 2147483648 := q202
            exfalso; omega
          have q203 : ¬ ((h (ra0 + 5) 2) < 2147483648) := q203
          refine x_iload (np := 5) (x := 1) (by decide +kernel) rfl l2 ?_
          refine x_aload (np := 6) (x := 0) (by decide +kernel) rfl (x_nc_le (tn_5 ta0)) ?_
          have q204 : h165 (ra0 + 5) 2 = h15 (ra0 + 5) 2 := jK 0 f166 (rg_T5_2_0_1 ta0) (by first | decide | omega) (by first | decide | omega) (by decide)
          have q205 : h15 (ra0 + 5) 2 = (1 + (h (ra0 + 5) 2)) := by rw [← e17]; exact x_up_at
          refine x_getC (np := 9) (x := 386) (f := 2) (q := (1 + (h (ra0 + 5) 2))) (by decide +kernel) (by decide) (tg_5_386_2_0 ta0) (q204.trans q205) (fun l206 => ?_)
          refine x_icmp (k := 3) (tg := 28) (np := 12) (by decide +kernel) (by decide) l2 (by first | decide | omega) (fun q207 => ?_) (fun q208 => ?_)
          · have q207 : (1 + (h (ra0 + 5) 2)) ≤ (h (ra0 + 5) 2) := q207
            exfalso; omega
          have q208 : ¬ ((1 + (h (ra0 + 5) 2)) ≤ (h (ra0 + 5) 2)) := q208
          refine x_iload (np := 13) (x := 2) (by decide +kernel) rfl (by first | decide | omega) ?_
          refine x_ifz (k := 2) (tg := 28) (np := 16) (by decide +kernel) (by decide) (by first | decide | omega) (fun q209 => ?_) (fun q210 => ?_)
          · have q209 : v163 < 2147483648 := q209
            exfalso; omega
          have q210 : ¬ (v163 < 2147483648) := q210
          refine x_iload (np := 17) (x := 2) (by decide +kernel) rfl (by first | decide | omega) ?_
          refine x_aload (np := 18) (x := 0) (by decide +kernel) rfl (x_nc_le (tn_5 ta0)) ?_
          refine x_getC (np := 21) (x := 384) (f := 0) (q := 2147483652) (by decide +kernel) (by decide) (tg_5_384_0_0 ta0) q174 (fun l211 => ?_)
          refine x_icmp (k := 3) (tg := 28) (np := 24) (by decide +kernel) (by decide) (by first | decide | omega) (by decide) (fun q212 => ?_) (fun q213 => ?_)
          · have q212 : 2147483652 ≤ v163 := q212
            exfalso; omega
          have q213 : ¬ (2147483652 ≤ v163) := q213
          refine x_const (np := 25) (x := 9223372043297226753) (a := 2147483649) (by decide +kernel) (by decide) (by decide) ?_
          refine x_goto (np := 28) (x := 29) (by decide +kernel) ?_
          refine x_istore (np := 31) (x := 4) (lo' := [x_r (ra0 + 5), iv_c (h (ra0 + 5) 2), iv_c v163, iv_c 2147483648, iv_c 2147483649]) (by decide +kernel) (by decide) (Nat.le_of_ble_eq_true rfl) rfl ?_
          refine x_iload (np := 33) (x := 4) (by decide +kernel) rfl (by decide) ?_
          refine x_ifz (k := 0) (tg := 50) (np := 36) (by decide +kernel) (by decide) (by decide) (fun q214 => ?_) (fun q215 => ?_)
          · have q214 : 2147483649 = 2147483648 := q214
            exfalso; omega
          have q215 : ¬ (2147483649 = 2147483648) := q215
          refine x_aload (np := 37) (x := 0) (by decide +kernel) rfl (x_nc_le (tn_5 ta0)) ?_
          have q216 : h165 (ra0 + 5) 1 = (ra0 + 6) := tf_5_1 j167 ta0
          refine x_getR (np := 40) (x := 385) (f := 1) (q := (ra0 + 6)) (by decide +kernel) (by decide) (tg_5_385_1_1 ta0) q216 ?_
          refine x_iload (np := 41) (x := 1) (by decide +kernel) rfl l2 ?_
          refine x_aload (np := 42) (x := 0) (by decide +kernel) rfl (x_nc_le (tn_5 ta0)) ?_
          refine x_getC (np := 45) (x := 384) (f := 0) (q := 2147483652) (by decide +kernel) (by decide) (tg_5_384_0_0 ta0) q174 (fun l217 => ?_)
          refine x_imul (np := 46) (x := 0) (i := u6) (j := 4) (v := (2147483648 + 4 * u6)) (by decide +kernel) (by first | decide | omega) (by first | decide | omega) (by first | decide | omega) (by first | decide | omega) l2 (by decide) ?_
          refine x_iload (np := 47) (x := 2) (by decide +kernel) rfl (by first | decide | omega) ?_
          refine x_iadd (np := 48) (x := 0) (v := (4 * u6 + v163)) (by decide +kernel) (by first | decide | omega) (by first | decide | omega) (by first | decide | omega) (by first | decide | omega) ?_
          refine x_iload (np := 49) (x := 3) (by decide +kernel) rfl (by decide) ?_
          obtain ⟨u219, q220⟩ : ∃ z, v163 = 2147483648 + z := ⟨v163 - 2147483648, by first | decide | omega⟩
          refine x_ast (np := 50) (x := 0) (kd := 1) (n := 40) (i := (4 * u6 + u219)) (by decide +kernel) (Or.inl rfl) (ta_6_40 ta0) (by first | decide | omega) (by first | decide | omega) (by decide) (by decide) (fun z => absurd z (by decide)) ?_
          have j222 := jU (e := (4 * u6 + u219)) (v := 2147483648) (4 * u6 + u219) j167 (rg_T6_0_1_40 ta0) (by first | decide | omega) (by first | decide | omega) (by first | decide | omega)
          have f224 := jF (e := (4 * u6 + u219)) (v := 2147483648) (4 * u6 + u219) f172 (rg_T6_0_1_40 ta0) (by first | decide | omega) (by first | decide | omega) (by decide)
          have f225 := jF (e := (4 * u6 + u219)) (v := 2147483648) (4 * u6 + u219) f166 (rg_T6_0_1_40 ta0) (by first | decide | omega) (by first | decide | omega) (by decide)
          generalize e223 : x_up h165 (ra0 + 6) (4 * u6 + u219) 2147483648 = h221 at j222 f224 f225 ⊢
          refine x_retV (np := 51) (x := 0) (by decide +kernel) (by decide +kernel) ⟨rfl, ?_⟩
          refine x_iinc (np := 44) (i := 1) (j := 2147483649) (v := (1 + v163)) (lo' := [x_r (ra0 + 5), iv_c (1 + v163)]) (by decide +kernel) (by decide) (by decide) rfl (by first | decide | omega) (by first | decide | omega) (by first | decide | omega) rfl ?_
          refine x_goto (np := 47) (x := 21) (by decide +kernel) ?_
          have m226 : Ot ra0 h h221 := by rw [← e223]; exact Ot.up (o := 6) m169 ta0 (by decide) rfl
          exact i171 (1 + v163) h221 (by first | decide | omega) (by first | decide | omega) j222 f225 m226
      have m227 : Ot ra0 h h15 := by rw [← e17]; exact Ot.up (o := 5) Ot.refl ta0 (by decide) rfl
      exact p168 _ 2147483648 h15 (Nat.lt_succ_self _) (by first | decide | omega) j16 (Fr.refl _ _) m227
    have q13 : ¬ (2147483648 = 2147483648) := q13
    exfalso; omega
  have q11 : ¬ ((2147483652 + 4 * u6) ≤ 2147483688) := q11
  exfalso; omega
set_option maxHeartbeats 0 in
/-- LentNames$Table.put(III)V -/
theorem c69_T5_c1 {sc : Nat × Nat} {d ra0 a1 a3 : Nat} {h : xh} (hJ : J h) (ta0 : tw ra0) (ba1 : 2147483648 ≤ a1 ∧ a1 ≤ 2147483657) (ba3 : 2147483648 ≤ a3 ∧ a3 ≤ 2147483653) : X sc 69 d (xV fun h' => J h' ∧ Fr 129 h h') 0 0 0 [x_r (ra0 + 5), iv_c a1, iv_c 2147483649, iv_c a3, 147573952589676412928] [] h := by
  have la1 : a1 < 4294967296 := by first | decide | omega
  have la3 : a3 < 4294967296 := by first | decide | omega
  have hF := Fr.refl 129 h
  refine x_iload (np := 1) (x := 1) (by decide +kernel) rfl la1 ?_
  refine x_ifz (k := 2) (tg := 28) (np := 4) (by decide +kernel) (by decide) la1 (fun q1 => ?_) (fun q2 => ?_)
  · have q1 : a1 < 2147483648 := q1
    exfalso; omega
  have q2 : ¬ (a1 < 2147483648) := q2
  refine x_iload (np := 5) (x := 1) (by decide +kernel) rfl la1 ?_
  refine x_aload (np := 6) (x := 0) (by decide +kernel) rfl (x_nc_le (tn_5 ta0)) ?_
  have b3 := jB (e := 2) 0 hJ (rg_T5_2_0_1 ta0) (by first | decide | omega) (by first | decide | omega)
  refine x_getC (np := 9) (x := 386) (f := 2) (q := (h (ra0 + 5) 2)) (by decide +kernel) (by decide) (tg_5_386_2_0 ta0) rfl (fun l4 => ?_)
  refine x_icmp (k := 3) (tg := 28) (np := 12) (by decide +kernel) (by decide) la1 l4 (fun q5 => ?_) (fun q6 => ?_)
  · have q5 : (h (ra0 + 5) 2) ≤ a1 := q5
    refine x_const (np := 29) (x := 9223372039002259456) (a := 2147483648) (by decide +kernel) (by decide) (by decide) ?_
    refine x_istore (np := 31) (x := 4) (lo' := [x_r (ra0 + 5), iv_c a1, iv_c 2147483649, iv_c a3, iv_c 2147483648]) (by decide +kernel) (by decide) (Nat.le_of_ble_eq_true rfl) rfl ?_
    refine x_iload (np := 33) (x := 4) (by decide +kernel) rfl (by decide) ?_
    refine x_ifz (k := 0) (tg := 50) (np := 36) (by decide +kernel) (by decide) (by decide) (fun q7 => ?_) (fun q8 => ?_)
    · have q7 : 2147483648 = 2147483648 := q7
      refine x_retV (np := 51) (x := 0) (by decide +kernel) (by decide +kernel) ⟨rfl, ?_⟩
      exact ⟨hJ, hF⟩
    have q8 : ¬ (2147483648 = 2147483648) := q8
    exfalso; omega
  have q6 : ¬ ((h (ra0 + 5) 2) ≤ a1) := q6
  refine x_iload (np := 13) (x := 2) (by decide +kernel) rfl (by decide) ?_
  refine x_ifz (k := 2) (tg := 28) (np := 16) (by decide +kernel) (by decide) (by decide) (fun q9 => ?_) (fun q10 => ?_)
  · have q9 : 2147483649 < 2147483648 := q9
    exfalso; omega
  have q10 : ¬ (2147483649 < 2147483648) := q10
  refine x_iload (np := 17) (x := 2) (by decide +kernel) rfl (by decide) ?_
  refine x_aload (np := 18) (x := 0) (by decide +kernel) rfl (x_nc_le (tn_5 ta0)) ?_
  have b11 := jB (e := 0) 0 hJ (rg_T5_0_0_1 ta0) (by first | decide | omega) (by first | decide | omega)
  have q12 : (h (ra0 + 5) 0) = 2147483652 := by first | decide | omega
  refine x_getC (np := 21) (x := 384) (f := 0) (q := 2147483652) (by decide +kernel) (by decide) (tg_5_384_0_0 ta0) q12 (fun l13 => ?_)
  refine x_icmp (k := 3) (tg := 28) (np := 24) (by decide +kernel) (by decide) (by decide) (by decide) (fun q14 => ?_) (fun q15 => ?_)
  · have q14 : 2147483652 ≤ 2147483649 := q14
    exfalso; omega
  have q15 : ¬ (2147483652 ≤ 2147483649) := q15
  refine x_const (np := 25) (x := 9223372043297226753) (a := 2147483649) (by decide +kernel) (by decide) (by decide) ?_
  refine x_goto (np := 28) (x := 29) (by decide +kernel) ?_
  refine x_istore (np := 31) (x := 4) (lo' := [x_r (ra0 + 5), iv_c a1, iv_c 2147483649, iv_c a3, iv_c 2147483649]) (by decide +kernel) (by decide) (Nat.le_of_ble_eq_true rfl) rfl ?_
  refine x_iload (np := 33) (x := 4) (by decide +kernel) rfl (by decide) ?_
  refine x_ifz (k := 0) (tg := 50) (np := 36) (by decide +kernel) (by decide) (by decide) (fun q16 => ?_) (fun q17 => ?_)
  · have q16 : 2147483649 = 2147483648 := q16
    exfalso; omega
  have q17 : ¬ (2147483649 = 2147483648) := q17
  refine x_aload (np := 37) (x := 0) (by decide +kernel) rfl (x_nc_le (tn_5 ta0)) ?_
  have q18 : h (ra0 + 5) 1 = (ra0 + 6) := tf_5_1 hJ ta0
  refine x_getR (np := 40) (x := 385) (f := 1) (q := (ra0 + 6)) (by decide +kernel) (by decide) (tg_5_385_1_1 ta0) q18 ?_
  refine x_iload (np := 41) (x := 1) (by decide +kernel) rfl la1 ?_
  refine x_aload (np := 42) (x := 0) (by decide +kernel) rfl (x_nc_le (tn_5 ta0)) ?_
  refine x_getC (np := 45) (x := 384) (f := 0) (q := 2147483652) (by decide +kernel) (by decide) (tg_5_384_0_0 ta0) q12 (fun l19 => ?_)
  obtain ⟨u20, q21⟩ : ∃ z, a1 = 2147483648 + z := ⟨a1 - 2147483648, by first | decide | omega⟩
  refine x_imul (np := 46) (x := 0) (i := u20) (j := 4) (v := (2147483648 + 4 * u20)) (by decide +kernel) (by first | decide | omega) (by first | decide | omega) (by first | decide | omega) (by first | decide | omega) la1 (by decide) ?_
  refine x_iload (np := 47) (x := 2) (by decide +kernel) rfl (by decide) ?_
  refine x_iadd (np := 48) (x := 0) (v := (2147483649 + 4 * u20)) (by decide +kernel) (by first | decide | omega) (by decide) (by first | decide | omega) (by first | decide | omega) ?_
  refine x_iload (np := 49) (x := 3) (by decide +kernel) rfl la3 ?_
  refine x_ast (np := 50) (x := 0) (kd := 1) (n := 40) (i := (1 + 4 * u20)) (by decide +kernel) (Or.inl rfl) (ta_6_40 ta0) (by first | decide | omega) (by first | decide | omega) (by decide) la3 (fun z => absurd z (by decide)) ?_
  have j24 := jU (e := (1 + 4 * u20)) (v := a3) (1 + 4 * u20) hJ (rg_T6_0_1_40 ta0) (by first | decide | omega) (by first | decide | omega) (by first | decide | omega)
  have f26 := jF (e := (1 + 4 * u20)) (v := a3) (1 + 4 * u20) hF (rg_T6_0_1_40 ta0) (by first | decide | omega) (by first | decide | omega) (by decide)
  generalize e25 : x_up h (ra0 + 6) (1 + 4 * u20) a3 = h23 at j24 f26 ⊢
  refine x_retV (np := 51) (x := 0) (by decide +kernel) (by decide +kernel) ⟨rfl, ?_⟩
  exact ⟨j24, f26⟩
set_option maxHeartbeats 0 in
/-- LentNames$Table.put(III)V -/
theorem c69_T5_c2 {sc : Nat × Nat} {d ra0 a1 a3 : Nat} {h : xh} (hJ : J h) (ta0 : tw ra0) (ba1 : 2147483648 ≤ a1 ∧ a1 ≤ 2147483657) (ba3 : 2147483648 ≤ a3 ∧ a3 ≤ 2147483659) : X sc 69 d (xV fun h' => J h' ∧ Fr 129 h h') 0 0 0 [x_r (ra0 + 5), iv_c a1, iv_c 2147483650, iv_c a3, 147573952589676412928] [] h := by
  have la1 : a1 < 4294967296 := by first | decide | omega
  have la3 : a3 < 4294967296 := by first | decide | omega
  have hF := Fr.refl 129 h
  refine x_iload (np := 1) (x := 1) (by decide +kernel) rfl la1 ?_
  refine x_ifz (k := 2) (tg := 28) (np := 4) (by decide +kernel) (by decide) la1 (fun q1 => ?_) (fun q2 => ?_)
  · have q1 : a1 < 2147483648 := q1
    exfalso; omega
  have q2 : ¬ (a1 < 2147483648) := q2
  refine x_iload (np := 5) (x := 1) (by decide +kernel) rfl la1 ?_
  refine x_aload (np := 6) (x := 0) (by decide +kernel) rfl (x_nc_le (tn_5 ta0)) ?_
  have b3 := jB (e := 2) 0 hJ (rg_T5_2_0_1 ta0) (by first | decide | omega) (by first | decide | omega)
  refine x_getC (np := 9) (x := 386) (f := 2) (q := (h (ra0 + 5) 2)) (by decide +kernel) (by decide) (tg_5_386_2_0 ta0) rfl (fun l4 => ?_)
  refine x_icmp (k := 3) (tg := 28) (np := 12) (by decide +kernel) (by decide) la1 l4 (fun q5 => ?_) (fun q6 => ?_)
  · have q5 : (h (ra0 + 5) 2) ≤ a1 := q5
    refine x_const (np := 29) (x := 9223372039002259456) (a := 2147483648) (by decide +kernel) (by decide) (by decide) ?_
    refine x_istore (np := 31) (x := 4) (lo' := [x_r (ra0 + 5), iv_c a1, iv_c 2147483650, iv_c a3, iv_c 2147483648]) (by decide +kernel) (by decide) (Nat.le_of_ble_eq_true rfl) rfl ?_
    refine x_iload (np := 33) (x := 4) (by decide +kernel) rfl (by decide) ?_
    refine x_ifz (k := 0) (tg := 50) (np := 36) (by decide +kernel) (by decide) (by decide) (fun q7 => ?_) (fun q8 => ?_)
    · have q7 : 2147483648 = 2147483648 := q7
      refine x_retV (np := 51) (x := 0) (by decide +kernel) (by decide +kernel) ⟨rfl, ?_⟩
      exact ⟨hJ, hF⟩
    have q8 : ¬ (2147483648 = 2147483648) := q8
    exfalso; omega
  have q6 : ¬ ((h (ra0 + 5) 2) ≤ a1) := q6
  refine x_iload (np := 13) (x := 2) (by decide +kernel) rfl (by decide) ?_
  refine x_ifz (k := 2) (tg := 28) (np := 16) (by decide +kernel) (by decide) (by decide) (fun q9 => ?_) (fun q10 => ?_)
  · have q9 : 2147483650 < 2147483648 := q9
    exfalso; omega
  have q10 : ¬ (2147483650 < 2147483648) := q10
  refine x_iload (np := 17) (x := 2) (by decide +kernel) rfl (by decide) ?_
  refine x_aload (np := 18) (x := 0) (by decide +kernel) rfl (x_nc_le (tn_5 ta0)) ?_
  have b11 := jB (e := 0) 0 hJ (rg_T5_0_0_1 ta0) (by first | decide | omega) (by first | decide | omega)
  have q12 : (h (ra0 + 5) 0) = 2147483652 := by first | decide | omega
  refine x_getC (np := 21) (x := 384) (f := 0) (q := 2147483652) (by decide +kernel) (by decide) (tg_5_384_0_0 ta0) q12 (fun l13 => ?_)
  refine x_icmp (k := 3) (tg := 28) (np := 24) (by decide +kernel) (by decide) (by decide) (by decide) (fun q14 => ?_) (fun q15 => ?_)
  · have q14 : 2147483652 ≤ 2147483650 := q14
    exfalso; omega
  have q15 : ¬ (2147483652 ≤ 2147483650) := q15
  refine x_const (np := 25) (x := 9223372043297226753) (a := 2147483649) (by decide +kernel) (by decide) (by decide) ?_
  refine x_goto (np := 28) (x := 29) (by decide +kernel) ?_
  refine x_istore (np := 31) (x := 4) (lo' := [x_r (ra0 + 5), iv_c a1, iv_c 2147483650, iv_c a3, iv_c 2147483649]) (by decide +kernel) (by decide) (Nat.le_of_ble_eq_true rfl) rfl ?_
  refine x_iload (np := 33) (x := 4) (by decide +kernel) rfl (by decide) ?_
  refine x_ifz (k := 0) (tg := 50) (np := 36) (by decide +kernel) (by decide) (by decide) (fun q16 => ?_) (fun q17 => ?_)
  · have q16 : 2147483649 = 2147483648 := q16
    exfalso; omega
  have q17 : ¬ (2147483649 = 2147483648) := q17
  refine x_aload (np := 37) (x := 0) (by decide +kernel) rfl (x_nc_le (tn_5 ta0)) ?_
  have q18 : h (ra0 + 5) 1 = (ra0 + 6) := tf_5_1 hJ ta0
  refine x_getR (np := 40) (x := 385) (f := 1) (q := (ra0 + 6)) (by decide +kernel) (by decide) (tg_5_385_1_1 ta0) q18 ?_
  refine x_iload (np := 41) (x := 1) (by decide +kernel) rfl la1 ?_
  refine x_aload (np := 42) (x := 0) (by decide +kernel) rfl (x_nc_le (tn_5 ta0)) ?_
  refine x_getC (np := 45) (x := 384) (f := 0) (q := 2147483652) (by decide +kernel) (by decide) (tg_5_384_0_0 ta0) q12 (fun l19 => ?_)
  obtain ⟨u20, q21⟩ : ∃ z, a1 = 2147483648 + z := ⟨a1 - 2147483648, by first | decide | omega⟩
  refine x_imul (np := 46) (x := 0) (i := u20) (j := 4) (v := (2147483648 + 4 * u20)) (by decide +kernel) (by first | decide | omega) (by first | decide | omega) (by first | decide | omega) (by first | decide | omega) la1 (by decide) ?_
  refine x_iload (np := 47) (x := 2) (by decide +kernel) rfl (by decide) ?_
  refine x_iadd (np := 48) (x := 0) (v := (2147483650 + 4 * u20)) (by decide +kernel) (by first | decide | omega) (by decide) (by first | decide | omega) (by first | decide | omega) ?_
  refine x_iload (np := 49) (x := 3) (by decide +kernel) rfl la3 ?_
  refine x_ast (np := 50) (x := 0) (kd := 1) (n := 40) (i := (2 + 4 * u20)) (by decide +kernel) (Or.inl rfl) (ta_6_40 ta0) (by first | decide | omega) (by first | decide | omega) (by decide) la3 (fun z => absurd z (by decide)) ?_
  have j24 := jU (e := (2 + 4 * u20)) (v := a3) (2 + 4 * u20) hJ (rg_T6_0_1_40 ta0) (by first | decide | omega) (by first | decide | omega) (by first | decide | omega)
  have f26 := jF (e := (2 + 4 * u20)) (v := a3) (2 + 4 * u20) hF (rg_T6_0_1_40 ta0) (by first | decide | omega) (by first | decide | omega) (by decide)
  generalize e25 : x_up h (ra0 + 6) (2 + 4 * u20) a3 = h23 at j24 f26 ⊢
  refine x_retV (np := 51) (x := 0) (by decide +kernel) (by decide +kernel) ⟨rfl, ?_⟩
  exact ⟨j24, f26⟩
set_option maxHeartbeats 0 in
/-- LentNames$Table.put(III)V -/
theorem c69_T5_c3 {sc : Nat × Nat} {d ra0 a1 a3 : Nat} {h : xh} (hJ : J h) (ta0 : tw ra0) (ba1 : 2147483648 ≤ a1 ∧ a1 ≤ 2147483657) (ba3 : 2147483648 ≤ a3 ∧ a3 ≤ 2147484769) : X sc 69 d (xV fun h' => J h' ∧ Fr 129 h h') 0 0 0 [x_r (ra0 + 5), iv_c a1, iv_c 2147483651, iv_c a3, 147573952589676412928] [] h := by
  have la1 : a1 < 4294967296 := by first | decide | omega
  have la3 : a3 < 4294967296 := by first | decide | omega
  have hF := Fr.refl 129 h
  refine x_iload (np := 1) (x := 1) (by decide +kernel) rfl la1 ?_
  refine x_ifz (k := 2) (tg := 28) (np := 4) (by decide +kernel) (by decide) la1 (fun q1 => ?_) (fun q2 => ?_)
  · have q1 : a1 < 2147483648 := q1
    exfalso; omega
  have q2 : ¬ (a1 < 2147483648) := q2
  refine x_iload (np := 5) (x := 1) (by decide +kernel) rfl la1 ?_
  refine x_aload (np := 6) (x := 0) (by decide +kernel) rfl (x_nc_le (tn_5 ta0)) ?_
  have b3 := jB (e := 2) 0 hJ (rg_T5_2_0_1 ta0) (by first | decide | omega) (by first | decide | omega)
  refine x_getC (np := 9) (x := 386) (f := 2) (q := (h (ra0 + 5) 2)) (by decide +kernel) (by decide) (tg_5_386_2_0 ta0) rfl (fun l4 => ?_)
  refine x_icmp (k := 3) (tg := 28) (np := 12) (by decide +kernel) (by decide) la1 l4 (fun q5 => ?_) (fun q6 => ?_)
  · have q5 : (h (ra0 + 5) 2) ≤ a1 := q5
    refine x_const (np := 29) (x := 9223372039002259456) (a := 2147483648) (by decide +kernel) (by decide) (by decide) ?_
    refine x_istore (np := 31) (x := 4) (lo' := [x_r (ra0 + 5), iv_c a1, iv_c 2147483651, iv_c a3, iv_c 2147483648]) (by decide +kernel) (by decide) (Nat.le_of_ble_eq_true rfl) rfl ?_
    refine x_iload (np := 33) (x := 4) (by decide +kernel) rfl (by decide) ?_
    refine x_ifz (k := 0) (tg := 50) (np := 36) (by decide +kernel) (by decide) (by decide) (fun q7 => ?_) (fun q8 => ?_)
    · have q7 : 2147483648 = 2147483648 := q7
      refine x_retV (np := 51) (x := 0) (by decide +kernel) (by decide +kernel) ⟨rfl, ?_⟩
      exact ⟨hJ, hF⟩
    have q8 : ¬ (2147483648 = 2147483648) := q8
    exfalso; omega
  have q6 : ¬ ((h (ra0 + 5) 2) ≤ a1) := q6
  refine x_iload (np := 13) (x := 2) (by decide +kernel) rfl (by decide) ?_
  refine x_ifz (k := 2) (tg := 28) (np := 16) (by decide +kernel) (by decide) (by decide) (fun q9 => ?_) (fun q10 => ?_)
  · have q9 : 2147483651 < 2147483648 := q9
    exfalso; omega
  have q10 : ¬ (2147483651 < 2147483648) := q10
  refine x_iload (np := 17) (x := 2) (by decide +kernel) rfl (by decide) ?_
  refine x_aload (np := 18) (x := 0) (by decide +kernel) rfl (x_nc_le (tn_5 ta0)) ?_
  have b11 := jB (e := 0) 0 hJ (rg_T5_0_0_1 ta0) (by first | decide | omega) (by first | decide | omega)
  have q12 : (h (ra0 + 5) 0) = 2147483652 := by first | decide | omega
  refine x_getC (np := 21) (x := 384) (f := 0) (q := 2147483652) (by decide +kernel) (by decide) (tg_5_384_0_0 ta0) q12 (fun l13 => ?_)
  refine x_icmp (k := 3) (tg := 28) (np := 24) (by decide +kernel) (by decide) (by decide) (by decide) (fun q14 => ?_) (fun q15 => ?_)
  · have q14 : 2147483652 ≤ 2147483651 := q14
    exfalso; omega
  have q15 : ¬ (2147483652 ≤ 2147483651) := q15
  refine x_const (np := 25) (x := 9223372043297226753) (a := 2147483649) (by decide +kernel) (by decide) (by decide) ?_
  refine x_goto (np := 28) (x := 29) (by decide +kernel) ?_
  refine x_istore (np := 31) (x := 4) (lo' := [x_r (ra0 + 5), iv_c a1, iv_c 2147483651, iv_c a3, iv_c 2147483649]) (by decide +kernel) (by decide) (Nat.le_of_ble_eq_true rfl) rfl ?_
  refine x_iload (np := 33) (x := 4) (by decide +kernel) rfl (by decide) ?_
  refine x_ifz (k := 0) (tg := 50) (np := 36) (by decide +kernel) (by decide) (by decide) (fun q16 => ?_) (fun q17 => ?_)
  · have q16 : 2147483649 = 2147483648 := q16
    exfalso; omega
  have q17 : ¬ (2147483649 = 2147483648) := q17
  refine x_aload (np := 37) (x := 0) (by decide +kernel) rfl (x_nc_le (tn_5 ta0)) ?_
  have q18 : h (ra0 + 5) 1 = (ra0 + 6) := tf_5_1 hJ ta0
  refine x_getR (np := 40) (x := 385) (f := 1) (q := (ra0 + 6)) (by decide +kernel) (by decide) (tg_5_385_1_1 ta0) q18 ?_
  refine x_iload (np := 41) (x := 1) (by decide +kernel) rfl la1 ?_
  refine x_aload (np := 42) (x := 0) (by decide +kernel) rfl (x_nc_le (tn_5 ta0)) ?_
  refine x_getC (np := 45) (x := 384) (f := 0) (q := 2147483652) (by decide +kernel) (by decide) (tg_5_384_0_0 ta0) q12 (fun l19 => ?_)
  obtain ⟨u20, q21⟩ : ∃ z, a1 = 2147483648 + z := ⟨a1 - 2147483648, by first | decide | omega⟩
  refine x_imul (np := 46) (x := 0) (i := u20) (j := 4) (v := (2147483648 + 4 * u20)) (by decide +kernel) (by first | decide | omega) (by first | decide | omega) (by first | decide | omega) (by first | decide | omega) la1 (by decide) ?_
  refine x_iload (np := 47) (x := 2) (by decide +kernel) rfl (by decide) ?_
  refine x_iadd (np := 48) (x := 0) (v := (2147483651 + 4 * u20)) (by decide +kernel) (by first | decide | omega) (by decide) (by first | decide | omega) (by first | decide | omega) ?_
  refine x_iload (np := 49) (x := 3) (by decide +kernel) rfl la3 ?_
  refine x_ast (np := 50) (x := 0) (kd := 1) (n := 40) (i := (3 + 4 * u20)) (by decide +kernel) (Or.inl rfl) (ta_6_40 ta0) (by first | decide | omega) (by first | decide | omega) (by decide) la3 (fun z => absurd z (by decide)) ?_
  have j24 := jU (e := (3 + 4 * u20)) (v := a3) (3 + 4 * u20) hJ (rg_T6_0_1_40 ta0) (by first | decide | omega) (by first | decide | omega) (by first | decide | omega)
  have f26 := jF (e := (3 + 4 * u20)) (v := a3) (3 + 4 * u20) hF (rg_T6_0_1_40 ta0) (by first | decide | omega) (by first | decide | omega) (by decide)
  generalize e25 : x_up h (ra0 + 6) (3 + 4 * u20) a3 = h23 at j24 f26 ⊢
  refine x_retV (np := 51) (x := 0) (by decide +kernel) (by decide +kernel) ⟨rfl, ?_⟩
  exact ⟨j24, f26⟩
set_option maxHeartbeats 0 in
/-- LentNames$Table.put(III)V -/
theorem c69_T5_c0 {sc : Nat × Nat} {d ra0 a1 a3 : Nat} {h : xh} (hJ : J h) (ta0 : tw ra0) (ba1 : 2147483648 ≤ a1 ∧ a1 ≤ 2147483657) (ba3 : 2147483649 ≤ a3 ∧ a3 ≤ 2147483649) : X sc 69 d (xV fun h' => J h' ∧ Fr 129 h h') 0 0 0 [x_r (ra0 + 5), iv_c a1, iv_c 2147483648, iv_c a3, 147573952589676412928] [] h := by
  have la1 : a1 < 4294967296 := by first | decide | omega
  have la3 : a3 < 4294967296 := by first | decide | omega
  have hF := Fr.refl 129 h
  refine x_iload (np := 1) (x := 1) (by decide +kernel) rfl la1 ?_
  refine x_ifz (k := 2) (tg := 28) (np := 4) (by decide +kernel) (by decide) la1 (fun q1 => ?_) (fun q2 => ?_)
  · have q1 : a1 < 2147483648 := q1
    exfalso; omega
  have q2 : ¬ (a1 < 2147483648) := q2
  refine x_iload (np := 5) (x := 1) (by decide +kernel) rfl la1 ?_
  refine x_aload (np := 6) (x := 0) (by decide +kernel) rfl (x_nc_le (tn_5 ta0)) ?_
  have b3 := jB (e := 2) 0 hJ (rg_T5_2_0_1 ta0) (by first | decide | omega) (by first | decide | omega)
  refine x_getC (np := 9) (x := 386) (f := 2) (q := (h (ra0 + 5) 2)) (by decide +kernel) (by decide) (tg_5_386_2_0 ta0) rfl (fun l4 => ?_)
  refine x_icmp (k := 3) (tg := 28) (np := 12) (by decide +kernel) (by decide) la1 l4 (fun q5 => ?_) (fun q6 => ?_)
  · have q5 : (h (ra0 + 5) 2) ≤ a1 := q5
    refine x_const (np := 29) (x := 9223372039002259456) (a := 2147483648) (by decide +kernel) (by decide) (by decide) ?_
    refine x_istore (np := 31) (x := 4) (lo' := [x_r (ra0 + 5), iv_c a1, iv_c 2147483648, iv_c a3, iv_c 2147483648]) (by decide +kernel) (by decide) (Nat.le_of_ble_eq_true rfl) rfl ?_
    refine x_iload (np := 33) (x := 4) (by decide +kernel) rfl (by decide) ?_
    refine x_ifz (k := 0) (tg := 50) (np := 36) (by decide +kernel) (by decide) (by decide) (fun q7 => ?_) (fun q8 => ?_)
    · have q7 : 2147483648 = 2147483648 := q7
      refine x_retV (np := 51) (x := 0) (by decide +kernel) (by decide +kernel) ⟨rfl, ?_⟩
      exact ⟨hJ, hF⟩
    have q8 : ¬ (2147483648 = 2147483648) := q8
    exfalso; omega
  have q6 : ¬ ((h (ra0 + 5) 2) ≤ a1) := q6
  refine x_iload (np := 13) (x := 2) (by decide +kernel) rfl (by decide) ?_
  refine x_ifz (k := 2) (tg := 28) (np := 16) (by decide +kernel) (by decide) (by decide) (fun q9 => ?_) (fun q10 => ?_)
  · have q9 : 2147483648 < 2147483648 := q9
    exfalso; omega
  have q10 : ¬ (2147483648 < 2147483648) := q10
  refine x_iload (np := 17) (x := 2) (by decide +kernel) rfl (by decide) ?_
  refine x_aload (np := 18) (x := 0) (by decide +kernel) rfl (x_nc_le (tn_5 ta0)) ?_
  have b11 := jB (e := 0) 0 hJ (rg_T5_0_0_1 ta0) (by first | decide | omega) (by first | decide | omega)
  have q12 : (h (ra0 + 5) 0) = 2147483652 := by first | decide | omega
  refine x_getC (np := 21) (x := 384) (f := 0) (q := 2147483652) (by decide +kernel) (by decide) (tg_5_384_0_0 ta0) q12 (fun l13 => ?_)
  refine x_icmp (k := 3) (tg := 28) (np := 24) (by decide +kernel) (by decide) (by decide) (by decide) (fun q14 => ?_) (fun q15 => ?_)
  · have q14 : 2147483652 ≤ 2147483648 := q14
    exfalso; omega
  have q15 : ¬ (2147483652 ≤ 2147483648) := q15
  refine x_const (np := 25) (x := 9223372043297226753) (a := 2147483649) (by decide +kernel) (by decide) (by decide) ?_
  refine x_goto (np := 28) (x := 29) (by decide +kernel) ?_
  refine x_istore (np := 31) (x := 4) (lo' := [x_r (ra0 + 5), iv_c a1, iv_c 2147483648, iv_c a3, iv_c 2147483649]) (by decide +kernel) (by decide) (Nat.le_of_ble_eq_true rfl) rfl ?_
  refine x_iload (np := 33) (x := 4) (by decide +kernel) rfl (by decide) ?_
  refine x_ifz (k := 0) (tg := 50) (np := 36) (by decide +kernel) (by decide) (by decide) (fun q16 => ?_) (fun q17 => ?_)
  · have q16 : 2147483649 = 2147483648 := q16
    exfalso; omega
  have q17 : ¬ (2147483649 = 2147483648) := q17
  refine x_aload (np := 37) (x := 0) (by decide +kernel) rfl (x_nc_le (tn_5 ta0)) ?_
  have q18 : h (ra0 + 5) 1 = (ra0 + 6) := tf_5_1 hJ ta0
  refine x_getR (np := 40) (x := 385) (f := 1) (q := (ra0 + 6)) (by decide +kernel) (by decide) (tg_5_385_1_1 ta0) q18 ?_
  refine x_iload (np := 41) (x := 1) (by decide +kernel) rfl la1 ?_
  refine x_aload (np := 42) (x := 0) (by decide +kernel) rfl (x_nc_le (tn_5 ta0)) ?_
  refine x_getC (np := 45) (x := 384) (f := 0) (q := 2147483652) (by decide +kernel) (by decide) (tg_5_384_0_0 ta0) q12 (fun l19 => ?_)
  obtain ⟨u20, q21⟩ : ∃ z, a1 = 2147483648 + z := ⟨a1 - 2147483648, by first | decide | omega⟩
  refine x_imul (np := 46) (x := 0) (i := u20) (j := 4) (v := (2147483648 + 4 * u20)) (by decide +kernel) (by first | decide | omega) (by first | decide | omega) (by first | decide | omega) (by first | decide | omega) la1 (by decide) ?_
  refine x_iload (np := 47) (x := 2) (by decide +kernel) rfl (by decide) ?_
  refine x_iadd (np := 48) (x := 0) (v := (2147483648 + 4 * u20)) (by decide +kernel) (by first | decide | omega) (by decide) (by first | decide | omega) (by first | decide | omega) ?_
  refine x_iload (np := 49) (x := 3) (by decide +kernel) rfl la3 ?_
  refine x_ast (np := 50) (x := 0) (kd := 1) (n := 40) (i := (4 * u20)) (by decide +kernel) (Or.inl rfl) (ta_6_40 ta0) (by first | decide | omega) (by first | decide | omega) (by decide) la3 (fun z => absurd z (by decide)) ?_
  have j24 := jU (e := (4 * u20)) (v := a3) (4 * u20) hJ (rg_T6_0_1_40 ta0) (by first | decide | omega) (by first | decide | omega) (by first | decide | omega)
  have f26 := jF (e := (4 * u20)) (v := a3) (4 * u20) hF (rg_T6_0_1_40 ta0) (by first | decide | omega) (by first | decide | omega) (by decide)
  generalize e25 : x_up h (ra0 + 6) (4 * u20) a3 = h23 at j24 f26 ⊢
  refine x_retV (np := 51) (x := 0) (by decide +kernel) (by decide +kernel) ⟨rfl, ?_⟩
  exact ⟨j24, f26⟩
set_option maxHeartbeats 0 in
/-- LentNames$TownReader.readDebt()Z -/
theorem c99_61 {sc : Nat × Nat} {d  : Nat} {h : xh} {tB : Nat → Nat} {tN : Nat} (hJ : J h) (hr0 : (rv h 4) + 1 ≤ 2147483658) (hT : Tp tB tN h) : X sc 99 (d + 6) (xI fun r h' => J h' ∧ Fr 281474976710817 h h' ∧ (2147483648 ≤ r ∧ r ≤ 2147483649) ∧ (rv h' 0 = rv h 0) ∧ (rv h' 1 = rv h 1) ∧ (rv h' 2 = rv h 2) ∧ (rv h' 3 = rv h 3) ∧ (r = 2147483649 → rv h' 4 = rv h 4 + 1) ∧ (rv h' 5 = rv h 5) ∧ debt9 tB tN (rv h 0) (h 1 2) (rs r (h' 1 2)) ∧ Ot (h 61 1) h h') 0 0 0 [x_r 61, 147573952589676412928, 147573952589676412928] [] h := by
  have hF := Fr.refl 281474976710817 h
  have t1 : tw (h 61 1) := hJ.2.2.2.2.1
  have b2 := jB (e := 2) 0 hJ (rg_T5_2_0_1 t1) (by first | decide | omega) (by first | decide | omega)
  have e3 : rv h 4 = (h ((h 61 1) + 5) 2) := (congrArg (fun z => svq h z 4) rfl).trans rfl
  refine x_aload (np := 1) (x := 0) (by decide +kernel) rfl (x_nc_le (by decide)) ?_
  refine x_getR (np := 4) (x := 577) (f := 1) (q := (h 61 1)) (by decide +kernel) (by decide) (by decide +kernel) rfl ?_
  have q4 : h (h 61 1) 2 = ((h 61 1) + 5) := tf_0_2 hJ t1
  refine x_getR (np := 7) (x := 514) (f := 2) (q := ((h 61 1) + 5)) (by decide +kernel) (by decide) (tg_0_514_2_1 t1) q4 ?_
  refine x_cI (t := 6) (mj := 67) (n := 1) (rc := 7) (ml := 2) (nr := 0) (np := 10) (as := [x_r ((h 61 1) + 5)]) (rest := []) (lo1 := [x_r ((h 61 1) + 5), 147573952589676412928]) (by decide +kernel) (by decide) (by decide +kernel) (x_rb_of (tr_5_7 t1)) rfl rfl (x_wr (tn_5 t1) x_wn) x_wn (by decide) rfl (c67_T5 hJ t1 (by first | decide | omega)) (fun v5 h8 l6 q7 => ?_)
  obtain ⟨j9, f10, b11, c12, c13, c14, c15, c16, c17, c18, c19⟩ := q7
  have f20 := Fr.trans hF f10 (by decide)
  have b21 := jB (e := 7) 0 hJ (rg_T0_7_0_1 t1) (by first | decide | omega) (by first | decide | omega)
  have b22 := jB (e := 7) 0 j9 (rg_T0_7_0_1 t1) (by first | decide | omega) (by first | decide | omega)
  have b23 := jB (e := 2) 0 hJ (rg_T1_2_0_1 t1) (by first | decide | omega) (by first | decide | omega)
  have b24 := jB (e := 2) 0 j9 (rg_T1_2_0_1 t1) (by first | decide | omega) (by first | decide | omega)
  have b25 := jB (e := 2) 0 hJ (rg_T3_2_0_1 t1) (by first | decide | omega) (by first | decide | omega)
  have b26 := jB (e := 2) 0 j9 (rg_T3_2_0_1 t1) (by first | decide | omega) (by first | decide | omega)
  have b27 := jB (e := 2) 0 j9 (rg_T5_2_0_1 t1) (by first | decide | omega) (by first | decide | omega)
  have b28 := jB (e := 2) 0 hJ (rg_T7_2_0_1 t1) (by first | decide | omega) (by first | decide | omega)
  have b29 := jB (e := 2) 0 j9 (rg_T7_2_0_1 t1) (by first | decide | omega) (by first | decide | omega)
  refine x_istore (np := 11) (x := 1) (lo' := [x_r 61, iv_c v5, 147573952589676412928]) (by decide +kernel) l6 (Nat.le_of_ble_eq_true rfl) rfl ?_
  refine x_aload (np := 12) (x := 0) (by decide +kernel) rfl (x_nc_le (by decide)) ?_
  have q30 : h8 61 0 = 1 := by have z := jB (e := 0) 0 j9 rg_61_0_0_1 (by decide) (by decide); omega
  refine x_getR (np := 15) (x := 576) (f := 0) (q := 1) (by decide +kernel) (by decide) (by decide +kernel) q30 ?_
  refine x_ldcB (i := 9) (idx := 149) (tx := "body") (by rw [tb_y99]; exact List.mem_of_getElem? (i := 9) rfl) (by decide) (by rw [tb_b99]; decide +kernel) ?_
  have m34 := Tp.fr hT f10 (by decide) (by decide)
  refine x_cI (t := 6) (mj := 78) (n := 2) (rc := 8) (ml := 2) (nr := 0) (np := 20) (as := [x_r 1, x_b (9 + 1)]) (rest := []) (lo1 := [x_r 1, x_b (9 + 1)]) (by decide +kernel) (by decide) (by decide +kernel) (x_rb_of (by decide +kernel)) rfl rfl (x_wr (by decide) (x_wB (by decide) x_wn)) x_wn (by decide) rfl (c78_1_S0 j9  (by decide) m34) (fun v31 h35 l32 q33 => ?_)
  obtain ⟨j36, f37, b38, c39, c40, c41⟩ := q33
  have f42 := Fr.trans f20 f37 (by decide)
  have q43 : h8 1 2 = h 1 2 := jK 0 f10 rg_1_2_0_1 (by first | decide | omega) (by first | decide | omega) (by decide)
  have b44 := jB (e := 2) 0 hJ rg_1_2_0_1 (by first | decide | omega) (by first | decide | omega)
  have b45 := jB (e := 2) 0 j36 rg_1_2_0_1 (by first | decide | omega) (by first | decide | omega)
  have b46 : iv_tl 9 = 4 := by decide
  have q47 : h8 1 2 = h 1 2 := jK 0 f10 rg_1_2_0_1 (by first | decide | omega) (by first | decide | omega) (by decide)
  refine x_ifz (k := 0) (tg := 39) (np := 23) (by decide +kernel) (by decide) l32 (fun q48 => ?_) (fun q49 => ?_)
  · have q48 : v31 = 2147483648 := q48
    have b50 := c40 (by first | decide | omega)
    refine x_aload (np := 40) (x := 0) (by decide +kernel) rfl (x_nc_le (by decide)) ?_
    have q51 : h35 61 0 = 1 := by have z := jB (e := 0) 0 j36 rg_61_0_0_1 (by decide) (by decide); omega
    refine x_getR (np := 43) (x := 576) (f := 0) (q := 1) (by decide +kernel) (by decide) (by decide +kernel) q51 ?_
    refine x_ldcB (i := 10) (idx := 151) (tx := "name") (by rw [tb_y99]; exact List.mem_of_getElem? (i := 10) rfl) (by decide) (by rw [tb_b99]; decide +kernel) ?_
    have m55 := Tp.fr m34 f37 (by decide) (by decide)
    refine x_cI (t := 6) (mj := 78) (n := 2) (rc := 8) (ml := 2) (nr := 0) (np := 48) (as := [x_r 1, x_b (10 + 1)]) (rest := []) (lo1 := [x_r 1, x_b (10 + 1)]) (by decide +kernel) (by decide) (by decide +kernel) (x_rb_of (by decide +kernel)) rfl rfl (x_wr (by decide) (x_wB (by decide) x_wn)) x_wn (by decide) rfl (c78_1_S0 j36  (by decide) m55) (fun v52 h56 l53 q54 => ?_)
    obtain ⟨j57, f58, b59, c60, c61, c62⟩ := q54
    have f63 := Fr.trans f42 f58 (by decide)
    have b64 := jB (e := 2) 0 j57 rg_1_2_0_1 (by first | decide | omega) (by first | decide | omega)
    have b65 : iv_tl 10 = 4 := by decide
    refine x_ifz (k := 1) (tg := 53) (np := 51) (by decide +kernel) (by decide) l53 (fun q66 => ?_) (fun q67 => ?_)
    · have q66 : v52 ≠ 2147483648 := q66
      have b68 := c60 (by first | decide | omega)
      refine x_aload (np := 54) (x := 0) (by decide +kernel) rfl (x_nc_le (by decide)) ?_
      refine x_aload (np := 55) (x := 0) (by decide +kernel) rfl (x_nc_le (by decide)) ?_
      have q69 : h56 61 1 = h35 61 1 := f58 61 1 (by decide +kernel)
      have q70 : h35 61 1 = h8 61 1 := f37 61 1 (by decide +kernel)
      have q71 : h8 61 1 = h 61 1 := f10 61 1 (by decide +kernel)
      refine x_getR (np := 58) (x := 577) (f := 1) (q := (h 61 1)) (by decide +kernel) (by decide) (by decide +kernel) ((q69.trans q70).trans q71) ?_
      have q72 : h56 (h 61 1) 2 = ((h 61 1) + 5) := tf_0_2 j57 t1
      refine x_getR (np := 61) (x := 514) (f := 2) (q := ((h 61 1) + 5)) (by decide +kernel) (by decide) (tg_0_514_2_1 t1) q72 ?_
      refine x_iload (np := 62) (x := 1) (by decide +kernel) rfl l6 ?_
      refine x_const (np := 63) (x := 9223372043297226753) (a := 2147483649) (by decide +kernel) (by decide) (by decide) ?_
      refine x_const (np := 64) (x := 9223372039002259456) (a := 2147483648) (by decide +kernel) (by decide) (by decide) ?_
      refine x_aload (np := 65) (x := 0) (by decide +kernel) rfl (x_nc_le (by decide)) ?_
      have q73 : h56 61 1 = h35 61 1 := f58 61 1 (by decide +kernel)
      have q74 : h35 61 1 = h8 61 1 := f37 61 1 (by decide +kernel)
      have q75 : h8 61 1 = h 61 1 := f10 61 1 (by decide +kernel)
      refine x_getR (np := 68) (x := 577) (f := 1) (q := (h 61 1)) (by decide +kernel) (by decide) (by decide +kernel) ((q73.trans q74).trans q75) ?_
      have q76 : h56 (h 61 1) 7 = h35 (h 61 1) 7 := jK 0 f58 (rg_T0_7_0_1 t1) (by first | decide | omega) (by first | decide | omega) (by decide)
      have q77 : h35 (h 61 1) 7 = h8 (h 61 1) 7 := jK 0 f37 (rg_T0_7_0_1 t1) (by first | decide | omega) (by first | decide | omega) (by decide)
      refine x_getC (np := 71) (x := 519) (f := 7) (q := (h8 (h 61 1) 7)) (by decide +kernel) (by decide) (tg_0_519_7_0 t1) (q76.trans q77) (fun l78 => ?_)
      refine x_const (np := 72) (x := 9223372043297226753) (a := 2147483649) (by decide +kernel) (by decide) (by decide) ?_
      obtain ⟨v79, q80⟩ : ∃ z, z + 2147483649 = (h8 (h 61 1) 7) + 2147483648 := ⟨(h8 (h 61 1) 7) + 2147483648 - 2147483649, by first | decide | omega⟩
      refine x_isub (np := 73) (x := 0) (v := v79) (by decide +kernel) l78 (by decide) (by first | decide | omega) (by first | decide | omega) ?_
      refine x_nI (t := 6) (mj := 102) (n := 6) (rc := 10) (ml := 7) (nr := 0) (np := 76) (as := [x_r 61, x_r ((h 61 1) + 5), iv_c v5, iv_c 2147483649, iv_c 2147483648, iv_c v79]) (rest := []) (lo1 := [x_r 61, x_r ((h 61 1) + 5), iv_c v5, iv_c 2147483649, iv_c 2147483648, iv_c v79, 147573952589676412928]) (by decide +kernel) (by decide) (by decide +kernel) (x_rb_of (by decide +kernel)) rfl rfl (x_wr (by decide) (x_wr (tn_5 t1) (x_wi l6 (x_wi (by decide) (x_wi (by decide) (x_wi (by first | decide | omega) x_wn)))))) x_wn (by decide) rfl ?_
      refine x_aload (np := 1) (x := 0) (by decide +kernel) rfl (x_nc_le (by decide)) ?_
      have q81 : h56 61 0 = 1 := by have z := jB (e := 0) 0 j57 rg_61_0_0_1 (by decide) (by decide); omega
      refine x_getR (np := 4) (x := 576) (f := 0) (q := 1) (by decide +kernel) (by decide) (by decide +kernel) q81 ?_
      refine x_iload (np := 6) (x := 4) (by decide +kernel) rfl (by decide) ?_
      refine x_iload (np := 8) (x := 5) (by decide +kernel) rfl (by first | decide | omega) ?_
      have m85 := Tp.fr m55 f58 (by decide) (by decide)
      refine x_cI (t := 6) (mj := 79) (n := 3) (rc := 8) (ml := 5) (nr := 0) (np := 11) (as := [x_r 1, iv_c 2147483648, iv_c v79]) (rest := []) (lo1 := [x_r 1, iv_c 2147483648, iv_c v79, 147573952589676412928, 147573952589676412928]) (by decide +kernel) (by decide) (by decide +kernel) (x_rb_of (by decide +kernel)) rfl rfl (x_wr (by decide) (x_wi (by decide) (x_wi (by first | decide | omega) x_wn))) x_wn (by decide) rfl (c79_1_c0 j57   (by first | decide | omega) m85) (fun v82 h86 l83 q84 => ?_)
      obtain ⟨j87, f88, b89, c90, c91, c92, c93⟩ := q84
      have f94 := Fr.trans f63 f88 (by decide)
      have b95 := jB (e := 2) 0 j87 rg_1_2_0_1 (by first | decide | omega) (by first | decide | omega)
      refine x_istore (np := 13) (x := 6) (lo' := [x_r 61, x_r ((h 61 1) + 5), iv_c v5, iv_c 2147483649, iv_c 2147483648, iv_c v79, iv_c v82]) (by decide +kernel) l83 (Nat.le_of_ble_eq_true rfl) rfl ?_
      refine x_iload (np := 15) (x := 6) (by decide +kernel) rfl l83 ?_
      refine x_const (np := 16) (x := 9223372034707292159) (a := 2147483647) (by decide +kernel) (by decide) (by decide) ?_
      refine x_icmp (k := 1) (tg := 21) (np := 19) (by decide +kernel) (by decide) l83 (by decide) (fun q96 => ?_) (fun q97 => ?_)
      · have q96 : v82 ≠ 2147483647 := q96
        have b98 := c91 (by first | decide | omega)
        refine x_aload (np := 22) (x := 1) (by decide +kernel) rfl (x_nc_le (tn_5 t1)) ?_
        refine x_iload (np := 23) (x := 2) (by decide +kernel) rfl l6 ?_
        refine x_iload (np := 24) (x := 3) (by decide +kernel) rfl (by decide) ?_
        refine x_iload (np := 26) (x := 6) (by decide +kernel) rfl l83 ?_
        refine x_cV (t := 6) (mj := 69) (n := 4) (rc := 7) (ml := 5) (nr := 0) (np := 29) (as := [x_r ((h 61 1) + 5), iv_c v5, iv_c 2147483649, iv_c v82]) (rest := []) (lo1 := [x_r ((h 61 1) + 5), iv_c v5, iv_c 2147483649, iv_c v82, 147573952589676412928]) (by decide +kernel) (by decide) (by decide +kernel) (x_rb_of (tr_5_7 t1)) rfl rfl (x_wr (tn_5 t1) (x_wi l6 (x_wi (by decide) (x_wi l83 x_wn)))) x_wn (by decide) rfl (c69_T5_c1 j87 t1 (by first | decide | omega)  (by first | decide | omega)) (fun h102 q101 => ?_)
        obtain ⟨j103, f104⟩ := q101
        have f107 := Fr.trans f94 f104 (by decide)
        refine x_const (np := 30) (x := 9223372043297226753) (a := 2147483649) (by decide +kernel) (by decide) (by decide) ?_
        refine x_retI (np := 31) (x := 0) (by decide +kernel) (by decide) (Or.inr ⟨by decide +kernel, by first | decide | omega, by first | decide | omega⟩) ⟨_, rfl, (by decide), ?_⟩
        refine x_ifz (k := 0) (tg := 91) (np := 79) (by decide +kernel) (by decide) (by decide) (fun q108 => ?_) (fun q109 => ?_)
        · have q108 : 2147483649 = 2147483648 := q108
          exfalso; omega
        have q109 : ¬ (2147483649 = 2147483648) := q109
        refine x_aload (np := 80) (x := 0) (by decide +kernel) rfl (x_nc_le (by decide)) ?_
        have q110 : h102 61 0 = 1 := by have z := jB (e := 0) 0 j103 rg_61_0_0_1 (by decide) (by decide); omega
        refine x_getR (np := 83) (x := 576) (f := 0) (q := 1) (by decide +kernel) (by decide) (by decide +kernel) q110 ?_
        refine x_ldcB (i := 2) (idx := 111) (tx := "day") (by rw [tb_y99]; exact List.mem_of_getElem? (i := 2) rfl) (by decide) (by rw [tb_b99]; decide +kernel) ?_
        have m115 := Tp.fr m85 f88 (by decide) (by decide)
        have m114 := Tp.fr m115 f104 (by decide) (by decide)
        refine x_cI (t := 6) (mj := 78) (n := 2) (rc := 8) (ml := 2) (nr := 0) (np := 88) (as := [x_r 1, x_b (2 + 1)]) (rest := []) (lo1 := [x_r 1, x_b (2 + 1)]) (by decide +kernel) (by decide) (by decide +kernel) (x_rb_of (by decide +kernel)) rfl rfl (x_wr (by decide) (x_wB (by decide) x_wn)) x_wn (by decide) rfl (c78_1_S0 j103  (by decide) m114) (fun v111 h116 l112 q113 => ?_)
        obtain ⟨j117, f118, b119, c120, c121, c122⟩ := q113
        have f123 := Fr.trans f107 f118 (by decide)
        have q124 : h102 1 2 = h86 1 2 := jK 0 f104 rg_1_2_0_1 (by first | decide | omega) (by first | decide | omega) (by decide)
        have b125 := jB (e := 2) 0 j117 rg_1_2_0_1 (by first | decide | omega) (by first | decide | omega)
        have b126 : iv_tl 2 = 3 := by decide
        have q127 : h102 1 2 = h86 1 2 := jK 0 f104 rg_1_2_0_1 (by first | decide | omega) (by first | decide | omega) (by decide)
        refine x_ifz (k := 1) (tg := 93) (np := 91) (by decide +kernel) (by decide) l112 (fun q128 => ?_) (fun q129 => ?_)
        · have q128 : v111 ≠ 2147483648 := q128
          have b130 := c120 (by first | decide | omega)
          refine x_aload (np := 94) (x := 0) (by decide +kernel) rfl (x_nc_le (by decide)) ?_
          have q131 : h116 61 0 = 1 := by have z := jB (e := 0) 0 j117 rg_61_0_0_1 (by decide) (by decide); omega
          refine x_getR (np := 97) (x := 576) (f := 0) (q := 1) (by decide +kernel) (by decide) (by decide +kernel) q131 ?_
          refine x_const (np := 98) (x := 9223372039002259456) (a := 2147483648) (by decide +kernel) (by decide) (by decide) ?_
          refine x_const (np := 100) (x := 9223372086246899723) (a := 2147483659) (by decide +kernel) (by decide) (by decide) ?_
          have m135 := Tp.fr m114 f118 (by decide) (by decide)
          refine x_cI (t := 6) (mj := 79) (n := 3) (rc := 8) (ml := 5) (nr := 0) (np := 103) (as := [x_r 1, iv_c 2147483648, iv_c 2147483659]) (rest := []) (lo1 := [x_r 1, iv_c 2147483648, iv_c 2147483659, 147573952589676412928, 147573952589676412928]) (by decide +kernel) (by decide) (by decide +kernel) (x_rb_of (by decide +kernel)) rfl rfl (x_wr (by decide) (x_wi (by decide) (x_wi (by decide) x_wn))) x_wn (by decide) rfl (c79_1_c0 j117   (by first | decide | omega) m135) (fun v132 h136 l133 q134 => ?_)
          obtain ⟨j137, f138, b139, c140, c141, c142, c143⟩ := q134
          have f144 := Fr.trans f123 f138 (by decide)
          have b145 := jB (e := 2) 0 j137 rg_1_2_0_1 (by first | decide | omega) (by first | decide | omega)
          refine x_istore (np := 104) (x := 2) (lo' := [x_r 61, iv_c v5, iv_c v132]) (by decide +kernel) l133 (Nat.le_of_ble_eq_true rfl) rfl ?_
          refine x_iload (np := 105) (x := 2) (by decide +kernel) rfl l133 ?_
          refine x_const (np := 106) (x := 9223372034707292159) (a := 2147483647) (by decide +kernel) (by decide) (by decide) ?_
          refine x_icmp (k := 0) (tg := 176) (np := 109) (by decide +kernel) (by decide) l133 (by decide) (fun q146 => ?_) (fun q147 => ?_)
          · have q146 : v132 = 2147483647 := q146
            have b148 := c142 (by first | decide | omega)
            refine x_const (np := 177) (x := 9223372039002259456) (a := 2147483648) (by decide +kernel) (by decide) (by decide) ?_
            have e149 : rv h 0 = (h (h 61 1) 7) := (congrArg (fun z => svq h z 0) rfl).trans rfl
            have q150 : h136 61 1 = h116 61 1 := f138 61 1 (by decide +kernel)
            have q151 : h116 61 1 = h102 61 1 := f118 61 1 (by decide +kernel)
            have q152 : h102 61 1 = h86 61 1 := f104 61 1 (by decide +kernel)
            have q153 : h86 61 1 = h56 61 1 := f88 61 1 (by decide +kernel)
            have q154 : h56 61 1 = h35 61 1 := f58 61 1 (by decide +kernel)
            have q155 : h35 61 1 = h8 61 1 := f37 61 1 (by decide +kernel)
            have q156 : h8 61 1 = h 61 1 := f10 61 1 (by decide +kernel)
            have q157 : h136 (h 61 1) 7 = h116 (h 61 1) 7 := jK 0 f138 (rg_T0_7_0_1 t1) (by first | decide | omega) (by first | decide | omega) (by decide)
            have q158 : h116 (h 61 1) 7 = h102 (h 61 1) 7 := jK 0 f118 (rg_T0_7_0_1 t1) (by first | decide | omega) (by first | decide | omega) (by decide)
            have q159 : h102 (h 61 1) 7 = h86 (h 61 1) 7 := jK 0 f104 (rg_T0_7_0_1 t1) (by first | decide | omega) (by first | decide | omega) (by decide)
            have q160 : h86 (h 61 1) 7 = h56 (h 61 1) 7 := jK 0 f88 (rg_T0_7_0_1 t1) (by first | decide | omega) (by first | decide | omega) (by decide)
            have q161 : h56 (h 61 1) 7 = h35 (h 61 1) 7 := jK 0 f58 (rg_T0_7_0_1 t1) (by first | decide | omega) (by first | decide | omega) (by decide)
            have q162 : h35 (h 61 1) 7 = h8 (h 61 1) 7 := jK 0 f37 (rg_T0_7_0_1 t1) (by first | decide | omega) (by first | decide | omega) (by decide)
            have e163 : rv h136 0 = (h8 (h 61 1) 7) := (congrArg (fun z => svq h136 z 0) ((((((q150.trans q151).trans q152).trans q153).trans q154).trans q155).trans q156)).trans (((((q157.trans q158).trans q159).trans q160).trans q161).trans q162)
            have e164 : rv h 1 = (h (h 61 1) 8) := (congrArg (fun z => svq h z 1) rfl).trans rfl
            have q165 : h136 61 1 = h116 61 1 := f138 61 1 (by decide +kernel)
            have q166 : h116 61 1 = h102 61 1 := f118 61 1 (by decide +kernel)
            have q167 : h102 61 1 = h86 61 1 := f104 61 1 (by decide +kernel)
            have q168 : h86 61 1 = h56 61 1 := f88 61 1 (by decide +kernel)
            have q169 : h56 61 1 = h35 61 1 := f58 61 1 (by decide +kernel)
            have q170 : h35 61 1 = h8 61 1 := f37 61 1 (by decide +kernel)
            have q171 : h8 61 1 = h 61 1 := f10 61 1 (by decide +kernel)
            have q172 : h136 (h 61 1) 8 = h116 (h 61 1) 8 := jK 0 f138 (rg_T0_8_0_1 t1) (by first | decide | omega) (by first | decide | omega) (by decide)
            have q173 : h116 (h 61 1) 8 = h102 (h 61 1) 8 := jK 0 f118 (rg_T0_8_0_1 t1) (by first | decide | omega) (by first | decide | omega) (by decide)
            have q174 : h102 (h 61 1) 8 = h86 (h 61 1) 8 := jK 0 f104 (rg_T0_8_0_1 t1) (by first | decide | omega) (by first | decide | omega) (by decide)
            have q175 : h86 (h 61 1) 8 = h56 (h 61 1) 8 := jK 0 f88 (rg_T0_8_0_1 t1) (by first | decide | omega) (by first | decide | omega) (by decide)
            have q176 : h56 (h 61 1) 8 = h35 (h 61 1) 8 := jK 0 f58 (rg_T0_8_0_1 t1) (by first | decide | omega) (by first | decide | omega) (by decide)
            have q177 : h35 (h 61 1) 8 = h8 (h 61 1) 8 := jK 0 f37 (rg_T0_8_0_1 t1) (by first | decide | omega) (by first | decide | omega) (by decide)
            have e178 : rv h136 1 = (h8 (h 61 1) 8) := (congrArg (fun z => svq h136 z 1) ((((((q165.trans q166).trans q167).trans q168).trans q169).trans q170).trans q171)).trans (((((q172.trans q173).trans q174).trans q175).trans q176).trans q177)
            have e179 : rv h 2 = (h ((h 61 1) + 1) 2) := (congrArg (fun z => svq h z 2) rfl).trans rfl
            have q180 : h136 61 1 = h116 61 1 := f138 61 1 (by decide +kernel)
            have q181 : h116 61 1 = h102 61 1 := f118 61 1 (by decide +kernel)
            have q182 : h102 61 1 = h86 61 1 := f104 61 1 (by decide +kernel)
            have q183 : h86 61 1 = h56 61 1 := f88 61 1 (by decide +kernel)
            have q184 : h56 61 1 = h35 61 1 := f58 61 1 (by decide +kernel)
            have q185 : h35 61 1 = h8 61 1 := f37 61 1 (by decide +kernel)
            have q186 : h8 61 1 = h 61 1 := f10 61 1 (by decide +kernel)
            have q187 : h136 ((h 61 1) + 1) 2 = h116 ((h 61 1) + 1) 2 := jK 0 f138 (rg_T1_2_0_1 t1) (by first | decide | omega) (by first | decide | omega) (by decide)
            have q188 : h116 ((h 61 1) + 1) 2 = h102 ((h 61 1) + 1) 2 := jK 0 f118 (rg_T1_2_0_1 t1) (by first | decide | omega) (by first | decide | omega) (by decide)
            have q189 : h102 ((h 61 1) + 1) 2 = h86 ((h 61 1) + 1) 2 := jK 0 f104 (rg_T1_2_0_1 t1) (by first | decide | omega) (by first | decide | omega) (by decide)
            have q190 : h86 ((h 61 1) + 1) 2 = h56 ((h 61 1) + 1) 2 := jK 0 f88 (rg_T1_2_0_1 t1) (by first | decide | omega) (by first | decide | omega) (by decide)
            have q191 : h56 ((h 61 1) + 1) 2 = h35 ((h 61 1) + 1) 2 := jK 0 f58 (rg_T1_2_0_1 t1) (by first | decide | omega) (by first | decide | omega) (by decide)
            have q192 : h35 ((h 61 1) + 1) 2 = h8 ((h 61 1) + 1) 2 := jK 0 f37 (rg_T1_2_0_1 t1) (by first | decide | omega) (by first | decide | omega) (by decide)
            have e193 : rv h136 2 = (h8 ((h 61 1) + 1) 2) := (congrArg (fun z => svq h136 z 2) ((((((q180.trans q181).trans q182).trans q183).trans q184).trans q185).trans q186)).trans (((((q187.trans q188).trans q189).trans q190).trans q191).trans q192)
            have e194 : rv h 3 = (h ((h 61 1) + 3) 2) := (congrArg (fun z => svq h z 3) rfl).trans rfl
            have q195 : h136 61 1 = h116 61 1 := f138 61 1 (by decide +kernel)
            have q196 : h116 61 1 = h102 61 1 := f118 61 1 (by decide +kernel)
            have q197 : h102 61 1 = h86 61 1 := f104 61 1 (by decide +kernel)
            have q198 : h86 61 1 = h56 61 1 := f88 61 1 (by decide +kernel)
            have q199 : h56 61 1 = h35 61 1 := f58 61 1 (by decide +kernel)
            have q200 : h35 61 1 = h8 61 1 := f37 61 1 (by decide +kernel)
            have q201 : h8 61 1 = h 61 1 := f10 61 1 (by decide +kernel)
            have q202 : h136 ((h 61 1) + 3) 2 = h116 ((h 61 1) + 3) 2 := jK 0 f138 (rg_T3_2_0_1 t1) (by first | decide | omega) (by first | decide | omega) (by decide)
            have q203 : h116 ((h 61 1) + 3) 2 = h102 ((h 61 1) + 3) 2 := jK 0 f118 (rg_T3_2_0_1 t1) (by first | decide | omega) (by first | decide | omega) (by decide)
            have q204 : h102 ((h 61 1) + 3) 2 = h86 ((h 61 1) + 3) 2 := jK 0 f104 (rg_T3_2_0_1 t1) (by first | decide | omega) (by first | decide | omega) (by decide)
            have q205 : h86 ((h 61 1) + 3) 2 = h56 ((h 61 1) + 3) 2 := jK 0 f88 (rg_T3_2_0_1 t1) (by first | decide | omega) (by first | decide | omega) (by decide)
            have q206 : h56 ((h 61 1) + 3) 2 = h35 ((h 61 1) + 3) 2 := jK 0 f58 (rg_T3_2_0_1 t1) (by first | decide | omega) (by first | decide | omega) (by decide)
            have q207 : h35 ((h 61 1) + 3) 2 = h8 ((h 61 1) + 3) 2 := jK 0 f37 (rg_T3_2_0_1 t1) (by first | decide | omega) (by first | decide | omega) (by decide)
            have e208 : rv h136 3 = (h8 ((h 61 1) + 3) 2) := (congrArg (fun z => svq h136 z 3) ((((((q195.trans q196).trans q197).trans q198).trans q199).trans q200).trans q201)).trans (((((q202.trans q203).trans q204).trans q205).trans q206).trans q207)
            have q209 : h136 61 1 = h116 61 1 := f138 61 1 (by decide +kernel)
            have q210 : h116 61 1 = h102 61 1 := f118 61 1 (by decide +kernel)
            have q211 : h102 61 1 = h86 61 1 := f104 61 1 (by decide +kernel)
            have q212 : h86 61 1 = h56 61 1 := f88 61 1 (by decide +kernel)
            have q213 : h56 61 1 = h35 61 1 := f58 61 1 (by decide +kernel)
            have q214 : h35 61 1 = h8 61 1 := f37 61 1 (by decide +kernel)
            have q215 : h8 61 1 = h 61 1 := f10 61 1 (by decide +kernel)
            have q216 : h136 ((h 61 1) + 5) 2 = h116 ((h 61 1) + 5) 2 := jK 0 f138 (rg_T5_2_0_1 t1) (by first | decide | omega) (by first | decide | omega) (by decide)
            have q217 : h116 ((h 61 1) + 5) 2 = h102 ((h 61 1) + 5) 2 := jK 0 f118 (rg_T5_2_0_1 t1) (by first | decide | omega) (by first | decide | omega) (by decide)
            have q218 : h102 ((h 61 1) + 5) 2 = h86 ((h 61 1) + 5) 2 := jK 0 f104 (rg_T5_2_0_1 t1) (by first | decide | omega) (by first | decide | omega) (by decide)
            have q219 : h86 ((h 61 1) + 5) 2 = h56 ((h 61 1) + 5) 2 := jK 0 f88 (rg_T5_2_0_1 t1) (by first | decide | omega) (by first | decide | omega) (by decide)
            have q220 : h56 ((h 61 1) + 5) 2 = h35 ((h 61 1) + 5) 2 := jK 0 f58 (rg_T5_2_0_1 t1) (by first | decide | omega) (by first | decide | omega) (by decide)
            have q221 : h35 ((h 61 1) + 5) 2 = h8 ((h 61 1) + 5) 2 := jK 0 f37 (rg_T5_2_0_1 t1) (by first | decide | omega) (by first | decide | omega) (by decide)
            have e222 : rv h136 4 = (h8 ((h 61 1) + 5) 2) := (congrArg (fun z => svq h136 z 4) ((((((q209.trans q210).trans q211).trans q212).trans q213).trans q214).trans q215)).trans (((((q216.trans q217).trans q218).trans q219).trans q220).trans q221)
            have e223 : rv h 5 = (h ((h 61 1) + 7) 2) := (congrArg (fun z => svq h z 5) rfl).trans rfl
            have q224 : h136 61 1 = h116 61 1 := f138 61 1 (by decide +kernel)
            have q225 : h116 61 1 = h102 61 1 := f118 61 1 (by decide +kernel)
            have q226 : h102 61 1 = h86 61 1 := f104 61 1 (by decide +kernel)
            have q227 : h86 61 1 = h56 61 1 := f88 61 1 (by decide +kernel)
            have q228 : h56 61 1 = h35 61 1 := f58 61 1 (by decide +kernel)
            have q229 : h35 61 1 = h8 61 1 := f37 61 1 (by decide +kernel)
            have q230 : h8 61 1 = h 61 1 := f10 61 1 (by decide +kernel)
            have q231 : h136 ((h 61 1) + 7) 2 = h116 ((h 61 1) + 7) 2 := jK 0 f138 (rg_T7_2_0_1 t1) (by first | decide | omega) (by first | decide | omega) (by decide)
            have q232 : h116 ((h 61 1) + 7) 2 = h102 ((h 61 1) + 7) 2 := jK 0 f118 (rg_T7_2_0_1 t1) (by first | decide | omega) (by first | decide | omega) (by decide)
            have q233 : h102 ((h 61 1) + 7) 2 = h86 ((h 61 1) + 7) 2 := jK 0 f104 (rg_T7_2_0_1 t1) (by first | decide | omega) (by first | decide | omega) (by decide)
            have q234 : h86 ((h 61 1) + 7) 2 = h56 ((h 61 1) + 7) 2 := jK 0 f88 (rg_T7_2_0_1 t1) (by first | decide | omega) (by first | decide | omega) (by decide)
            have q235 : h56 ((h 61 1) + 7) 2 = h35 ((h 61 1) + 7) 2 := jK 0 f58 (rg_T7_2_0_1 t1) (by first | decide | omega) (by first | decide | omega) (by decide)
            have q236 : h35 ((h 61 1) + 7) 2 = h8 ((h 61 1) + 7) 2 := jK 0 f37 (rg_T7_2_0_1 t1) (by first | decide | omega) (by first | decide | omega) (by decide)
            have e237 : rv h136 5 = (h8 ((h 61 1) + 7) 2) := (congrArg (fun z => svq h136 z 5) ((((((q224.trans q225).trans q226).trans q227).trans q228).trans q229).trans q230)).trans (((((q231.trans q232).trans q233).trans q234).trans q235).trans q236)
            have q238 : h8 1 2 = h 1 2 := jK 0 f10 rg_1_2_0_1 (by first | decide | omega) (by first | decide | omega) (by decide)
            obtain ⟨w239, e240⟩ := Tk.no c41 (by first | decide | omega)
            obtain ⟨w241, e242⟩ := Tk.yes c62 (by first | decide | omega)
            have q243 : h102 1 2 = h86 1 2 := jK 0 f104 rg_1_2_0_1 (by first | decide | omega) (by first | decide | omega) (by decide)
            obtain ⟨w244, e245⟩ := Tk.yes c122 (by first | decide | omega)
            have m246 : Ot (h 61 1) h h8 := Ot.trans Ot.refl (c19)
            have m247 : Ot (h 61 1) h h35 := Ot.fr m246 f37 (by decide)
            have m248 : Ot (h 61 1) h h56 := Ot.fr m247 f58 (by decide)
            have m249 : Ot (h 61 1) h h86 := Ot.fr m248 f88 (by decide)
            have m250 : Ot (h 61 1) h h102 := Ot.fr m249 f104 (by decide)
            have m251 : Ot (h 61 1) h h116 := Ot.fr m250 f118 (by decide)
            have m252 : Ot (h 61 1) h h136 := Ot.fr m251 f138 (by decide)
            refine x_retI (np := 178) (x := 0) (by decide +kernel) (by decide) (Or.inr ⟨by decide +kernel, by first | decide | omega, by first | decide | omega⟩) ⟨_, rfl, (by decide), ?_⟩
            exact ⟨j137, f144, (by first | decide | omega), (by first | decide | omega), (by first | decide | omega), (by first | decide | omega), (by first | decide | omega), (fun z => by first | decide | omega), (by first | decide | omega), (or9.f w239 (show h8 1 2 = h 1 2 by first | decide | omega) (show h35 1 2 = h 1 2 by first | decide | omega) (wd9.y w241 rfl e242 rfl (nm9.y c93 (by first | decide | omega) (by first | decide | omega) rfl (by first | decide | omega) rfl (wd9.y w244 (show h102 1 2 = h86 1 2 by first | decide | omega) e245 rfl (nm9.f c143 (by first | decide | omega) (by first | decide | omega) rfl (by first | decide | omega) (by first | decide | omega)))))), m252⟩
          have q147 : ¬ (v132 = 2147483647) := q147
          have b253 := c141 (by first | decide | omega)
          refine x_aload (np := 110) (x := 0) (by decide +kernel) rfl (x_nc_le (by decide)) ?_
          have q254 : h136 61 0 = 1 := by have z := jB (e := 0) 0 j137 rg_61_0_0_1 (by decide) (by decide); omega
          refine x_getR (np := 113) (x := 576) (f := 0) (q := 1) (by decide +kernel) (by decide) (by decide +kernel) q254 ?_
          refine x_ldcB (i := 11) (idx := 153) (tx := "judged") (by rw [tb_y99]; exact List.mem_of_getElem? (i := 11) rfl) (by decide) (by rw [tb_b99]; decide +kernel) ?_
          have m258 := Tp.fr m135 f138 (by decide) (by decide)
          refine x_cI (t := 6) (mj := 78) (n := 2) (rc := 8) (ml := 2) (nr := 0) (np := 118) (as := [x_r 1, x_b (11 + 1)]) (rest := []) (lo1 := [x_r 1, x_b (11 + 1)]) (by decide +kernel) (by decide) (by decide +kernel) (x_rb_of (by decide +kernel)) rfl rfl (x_wr (by decide) (x_wB (by decide) x_wn)) x_wn (by decide) rfl (c78_1_S0 j137  (by decide) m258) (fun v255 h259 l256 q257 => ?_)
          obtain ⟨j260, f261, b262, c263, c264, c265⟩ := q257
          have f266 := Fr.trans f144 f261 (by decide)
          have b267 := jB (e := 2) 0 j260 rg_1_2_0_1 (by first | decide | omega) (by first | decide | omega)
          have b268 : iv_tl 11 = 6 := by decide
          refine x_ifz (k := 0) (tg := 176) (np := 121) (by decide +kernel) (by decide) l256 (fun q269 => ?_) (fun q270 => ?_)
          · have q269 : v255 = 2147483648 := q269
            have b271 := c264 (by first | decide | omega)
            refine x_const (np := 177) (x := 9223372039002259456) (a := 2147483648) (by decide +kernel) (by decide) (by decide) ?_
            have e272 : rv h 0 = (h (h 61 1) 7) := (congrArg (fun z => svq h z 0) rfl).trans rfl
            have q273 : h259 61 1 = h136 61 1 := f261 61 1 (by decide +kernel)
            have q274 : h136 61 1 = h116 61 1 := f138 61 1 (by decide +kernel)
            have q275 : h116 61 1 = h102 61 1 := f118 61 1 (by decide +kernel)
            have q276 : h102 61 1 = h86 61 1 := f104 61 1 (by decide +kernel)
            have q277 : h86 61 1 = h56 61 1 := f88 61 1 (by decide +kernel)
            have q278 : h56 61 1 = h35 61 1 := f58 61 1 (by decide +kernel)
            have q279 : h35 61 1 = h8 61 1 := f37 61 1 (by decide +kernel)
            have q280 : h8 61 1 = h 61 1 := f10 61 1 (by decide +kernel)
            have q281 : h259 (h 61 1) 7 = h136 (h 61 1) 7 := jK 0 f261 (rg_T0_7_0_1 t1) (by first | decide | omega) (by first | decide | omega) (by decide)
            have q282 : h136 (h 61 1) 7 = h116 (h 61 1) 7 := jK 0 f138 (rg_T0_7_0_1 t1) (by first | decide | omega) (by first | decide | omega) (by decide)
            have q283 : h116 (h 61 1) 7 = h102 (h 61 1) 7 := jK 0 f118 (rg_T0_7_0_1 t1) (by first | decide | omega) (by first | decide | omega) (by decide)
            have q284 : h102 (h 61 1) 7 = h86 (h 61 1) 7 := jK 0 f104 (rg_T0_7_0_1 t1) (by first | decide | omega) (by first | decide | omega) (by decide)
            have q285 : h86 (h 61 1) 7 = h56 (h 61 1) 7 := jK 0 f88 (rg_T0_7_0_1 t1) (by first | decide | omega) (by first | decide | omega) (by decide)
            have q286 : h56 (h 61 1) 7 = h35 (h 61 1) 7 := jK 0 f58 (rg_T0_7_0_1 t1) (by first | decide | omega) (by first | decide | omega) (by decide)
            have q287 : h35 (h 61 1) 7 = h8 (h 61 1) 7 := jK 0 f37 (rg_T0_7_0_1 t1) (by first | decide | omega) (by first | decide | omega) (by decide)
            have e288 : rv h259 0 = (h8 (h 61 1) 7) := (congrArg (fun z => svq h259 z 0) (((((((q273.trans q274).trans q275).trans q276).trans q277).trans q278).trans q279).trans q280)).trans ((((((q281.trans q282).trans q283).trans q284).trans q285).trans q286).trans q287)
            have e289 : rv h 1 = (h (h 61 1) 8) := (congrArg (fun z => svq h z 1) rfl).trans rfl
            have q290 : h259 61 1 = h136 61 1 := f261 61 1 (by decide +kernel)
            have q291 : h136 61 1 = h116 61 1 := f138 61 1 (by decide +kernel)
            have q292 : h116 61 1 = h102 61 1 := f118 61 1 (by decide +kernel)
            have q293 : h102 61 1 = h86 61 1 := f104 61 1 (by decide +kernel)
            have q294 : h86 61 1 = h56 61 1 := f88 61 1 (by decide +kernel)
            have q295 : h56 61 1 = h35 61 1 := f58 61 1 (by decide +kernel)
            have q296 : h35 61 1 = h8 61 1 := f37 61 1 (by decide +kernel)
            have q297 : h8 61 1 = h 61 1 := f10 61 1 (by decide +kernel)
            have q298 : h259 (h 61 1) 8 = h136 (h 61 1) 8 := jK 0 f261 (rg_T0_8_0_1 t1) (by first | decide | omega) (by first | decide | omega) (by decide)
            have q299 : h136 (h 61 1) 8 = h116 (h 61 1) 8 := jK 0 f138 (rg_T0_8_0_1 t1) (by first | decide | omega) (by first | decide | omega) (by decide)
            have q300 : h116 (h 61 1) 8 = h102 (h 61 1) 8 := jK 0 f118 (rg_T0_8_0_1 t1) (by first | decide | omega) (by first | decide | omega) (by decide)
            have q301 : h102 (h 61 1) 8 = h86 (h 61 1) 8 := jK 0 f104 (rg_T0_8_0_1 t1) (by first | decide | omega) (by first | decide | omega) (by decide)
            have q302 : h86 (h 61 1) 8 = h56 (h 61 1) 8 := jK 0 f88 (rg_T0_8_0_1 t1) (by first | decide | omega) (by first | decide | omega) (by decide)
            have q303 : h56 (h 61 1) 8 = h35 (h 61 1) 8 := jK 0 f58 (rg_T0_8_0_1 t1) (by first | decide | omega) (by first | decide | omega) (by decide)
            have q304 : h35 (h 61 1) 8 = h8 (h 61 1) 8 := jK 0 f37 (rg_T0_8_0_1 t1) (by first | decide | omega) (by first | decide | omega) (by decide)
            have e305 : rv h259 1 = (h8 (h 61 1) 8) := (congrArg (fun z => svq h259 z 1) (((((((q290.trans q291).trans q292).trans q293).trans q294).trans q295).trans q296).trans q297)).trans ((((((q298.trans q299).trans q300).trans q301).trans q302).trans q303).trans q304)
            have e306 : rv h 2 = (h ((h 61 1) + 1) 2) := (congrArg (fun z => svq h z 2) rfl).trans rfl
            have q307 : h259 61 1 = h136 61 1 := f261 61 1 (by decide +kernel)
            have q308 : h136 61 1 = h116 61 1 := f138 61 1 (by decide +kernel)
            have q309 : h116 61 1 = h102 61 1 := f118 61 1 (by decide +kernel)
            have q310 : h102 61 1 = h86 61 1 := f104 61 1 (by decide +kernel)
            have q311 : h86 61 1 = h56 61 1 := f88 61 1 (by decide +kernel)
            have q312 : h56 61 1 = h35 61 1 := f58 61 1 (by decide +kernel)
            have q313 : h35 61 1 = h8 61 1 := f37 61 1 (by decide +kernel)
            have q314 : h8 61 1 = h 61 1 := f10 61 1 (by decide +kernel)
            have q315 : h259 ((h 61 1) + 1) 2 = h136 ((h 61 1) + 1) 2 := jK 0 f261 (rg_T1_2_0_1 t1) (by first | decide | omega) (by first | decide | omega) (by decide)
            have q316 : h136 ((h 61 1) + 1) 2 = h116 ((h 61 1) + 1) 2 := jK 0 f138 (rg_T1_2_0_1 t1) (by first | decide | omega) (by first | decide | omega) (by decide)
            have q317 : h116 ((h 61 1) + 1) 2 = h102 ((h 61 1) + 1) 2 := jK 0 f118 (rg_T1_2_0_1 t1) (by first | decide | omega) (by first | decide | omega) (by decide)
            have q318 : h102 ((h 61 1) + 1) 2 = h86 ((h 61 1) + 1) 2 := jK 0 f104 (rg_T1_2_0_1 t1) (by first | decide | omega) (by first | decide | omega) (by decide)
            have q319 : h86 ((h 61 1) + 1) 2 = h56 ((h 61 1) + 1) 2 := jK 0 f88 (rg_T1_2_0_1 t1) (by first | decide | omega) (by first | decide | omega) (by decide)
            have q320 : h56 ((h 61 1) + 1) 2 = h35 ((h 61 1) + 1) 2 := jK 0 f58 (rg_T1_2_0_1 t1) (by first | decide | omega) (by first | decide | omega) (by decide)
            have q321 : h35 ((h 61 1) + 1) 2 = h8 ((h 61 1) + 1) 2 := jK 0 f37 (rg_T1_2_0_1 t1) (by first | decide | omega) (by first | decide | omega) (by decide)
            have e322 : rv h259 2 = (h8 ((h 61 1) + 1) 2) := (congrArg (fun z => svq h259 z 2) (((((((q307.trans q308).trans q309).trans q310).trans q311).trans q312).trans q313).trans q314)).trans ((((((q315.trans q316).trans q317).trans q318).trans q319).trans q320).trans q321)
            have e323 : rv h 3 = (h ((h 61 1) + 3) 2) := (congrArg (fun z => svq h z 3) rfl).trans rfl
            have q324 : h259 61 1 = h136 61 1 := f261 61 1 (by decide +kernel)
            have q325 : h136 61 1 = h116 61 1 := f138 61 1 (by decide +kernel)
            have q326 : h116 61 1 = h102 61 1 := f118 61 1 (by decide +kernel)
            have q327 : h102 61 1 = h86 61 1 := f104 61 1 (by decide +kernel)
            have q328 : h86 61 1 = h56 61 1 := f88 61 1 (by decide +kernel)
            have q329 : h56 61 1 = h35 61 1 := f58 61 1 (by decide +kernel)
            have q330 : h35 61 1 = h8 61 1 := f37 61 1 (by decide +kernel)
            have q331 : h8 61 1 = h 61 1 := f10 61 1 (by decide +kernel)
            have q332 : h259 ((h 61 1) + 3) 2 = h136 ((h 61 1) + 3) 2 := jK 0 f261 (rg_T3_2_0_1 t1) (by first | decide | omega) (by first | decide | omega) (by decide)
            have q333 : h136 ((h 61 1) + 3) 2 = h116 ((h 61 1) + 3) 2 := jK 0 f138 (rg_T3_2_0_1 t1) (by first | decide | omega) (by first | decide | omega) (by decide)
            have q334 : h116 ((h 61 1) + 3) 2 = h102 ((h 61 1) + 3) 2 := jK 0 f118 (rg_T3_2_0_1 t1) (by first | decide | omega) (by first | decide | omega) (by decide)
            have q335 : h102 ((h 61 1) + 3) 2 = h86 ((h 61 1) + 3) 2 := jK 0 f104 (rg_T3_2_0_1 t1) (by first | decide | omega) (by first | decide | omega) (by decide)
            have q336 : h86 ((h 61 1) + 3) 2 = h56 ((h 61 1) + 3) 2 := jK 0 f88 (rg_T3_2_0_1 t1) (by first | decide | omega) (by first | decide | omega) (by decide)
            have q337 : h56 ((h 61 1) + 3) 2 = h35 ((h 61 1) + 3) 2 := jK 0 f58 (rg_T3_2_0_1 t1) (by first | decide | omega) (by first | decide | omega) (by decide)
            have q338 : h35 ((h 61 1) + 3) 2 = h8 ((h 61 1) + 3) 2 := jK 0 f37 (rg_T3_2_0_1 t1) (by first | decide | omega) (by first | decide | omega) (by decide)
            have e339 : rv h259 3 = (h8 ((h 61 1) + 3) 2) := (congrArg (fun z => svq h259 z 3) (((((((q324.trans q325).trans q326).trans q327).trans q328).trans q329).trans q330).trans q331)).trans ((((((q332.trans q333).trans q334).trans q335).trans q336).trans q337).trans q338)
            have q340 : h259 61 1 = h136 61 1 := f261 61 1 (by decide +kernel)
            have q341 : h136 61 1 = h116 61 1 := f138 61 1 (by decide +kernel)
            have q342 : h116 61 1 = h102 61 1 := f118 61 1 (by decide +kernel)
            have q343 : h102 61 1 = h86 61 1 := f104 61 1 (by decide +kernel)
            have q344 : h86 61 1 = h56 61 1 := f88 61 1 (by decide +kernel)
            have q345 : h56 61 1 = h35 61 1 := f58 61 1 (by decide +kernel)
            have q346 : h35 61 1 = h8 61 1 := f37 61 1 (by decide +kernel)
            have q347 : h8 61 1 = h 61 1 := f10 61 1 (by decide +kernel)
            have q348 : h259 ((h 61 1) + 5) 2 = h136 ((h 61 1) + 5) 2 := jK 0 f261 (rg_T5_2_0_1 t1) (by first | decide | omega) (by first | decide | omega) (by decide)
            have q349 : h136 ((h 61 1) + 5) 2 = h116 ((h 61 1) + 5) 2 := jK 0 f138 (rg_T5_2_0_1 t1) (by first | decide | omega) (by first | decide | omega) (by decide)
            have q350 : h116 ((h 61 1) + 5) 2 = h102 ((h 61 1) + 5) 2 := jK 0 f118 (rg_T5_2_0_1 t1) (by first | decide | omega) (by first | decide | omega) (by decide)
            have q351 : h102 ((h 61 1) + 5) 2 = h86 ((h 61 1) + 5) 2 := jK 0 f104 (rg_T5_2_0_1 t1) (by first | decide | omega) (by first | decide | omega) (by decide)
            have q352 : h86 ((h 61 1) + 5) 2 = h56 ((h 61 1) + 5) 2 := jK 0 f88 (rg_T5_2_0_1 t1) (by first | decide | omega) (by first | decide | omega) (by decide)
            have q353 : h56 ((h 61 1) + 5) 2 = h35 ((h 61 1) + 5) 2 := jK 0 f58 (rg_T5_2_0_1 t1) (by first | decide | omega) (by first | decide | omega) (by decide)
            have q354 : h35 ((h 61 1) + 5) 2 = h8 ((h 61 1) + 5) 2 := jK 0 f37 (rg_T5_2_0_1 t1) (by first | decide | omega) (by first | decide | omega) (by decide)
            have e355 : rv h259 4 = (h8 ((h 61 1) + 5) 2) := (congrArg (fun z => svq h259 z 4) (((((((q340.trans q341).trans q342).trans q343).trans q344).trans q345).trans q346).trans q347)).trans ((((((q348.trans q349).trans q350).trans q351).trans q352).trans q353).trans q354)
            have e356 : rv h 5 = (h ((h 61 1) + 7) 2) := (congrArg (fun z => svq h z 5) rfl).trans rfl
            have q357 : h259 61 1 = h136 61 1 := f261 61 1 (by decide +kernel)
            have q358 : h136 61 1 = h116 61 1 := f138 61 1 (by decide +kernel)
            have q359 : h116 61 1 = h102 61 1 := f118 61 1 (by decide +kernel)
            have q360 : h102 61 1 = h86 61 1 := f104 61 1 (by decide +kernel)
            have q361 : h86 61 1 = h56 61 1 := f88 61 1 (by decide +kernel)
            have q362 : h56 61 1 = h35 61 1 := f58 61 1 (by decide +kernel)
            have q363 : h35 61 1 = h8 61 1 := f37 61 1 (by decide +kernel)
            have q364 : h8 61 1 = h 61 1 := f10 61 1 (by decide +kernel)
            have q365 : h259 ((h 61 1) + 7) 2 = h136 ((h 61 1) + 7) 2 := jK 0 f261 (rg_T7_2_0_1 t1) (by first | decide | omega) (by first | decide | omega) (by decide)
            have q366 : h136 ((h 61 1) + 7) 2 = h116 ((h 61 1) + 7) 2 := jK 0 f138 (rg_T7_2_0_1 t1) (by first | decide | omega) (by first | decide | omega) (by decide)
            have q367 : h116 ((h 61 1) + 7) 2 = h102 ((h 61 1) + 7) 2 := jK 0 f118 (rg_T7_2_0_1 t1) (by first | decide | omega) (by first | decide | omega) (by decide)
            have q368 : h102 ((h 61 1) + 7) 2 = h86 ((h 61 1) + 7) 2 := jK 0 f104 (rg_T7_2_0_1 t1) (by first | decide | omega) (by first | decide | omega) (by decide)
            have q369 : h86 ((h 61 1) + 7) 2 = h56 ((h 61 1) + 7) 2 := jK 0 f88 (rg_T7_2_0_1 t1) (by first | decide | omega) (by first | decide | omega) (by decide)
            have q370 : h56 ((h 61 1) + 7) 2 = h35 ((h 61 1) + 7) 2 := jK 0 f58 (rg_T7_2_0_1 t1) (by first | decide | omega) (by first | decide | omega) (by decide)
            have q371 : h35 ((h 61 1) + 7) 2 = h8 ((h 61 1) + 7) 2 := jK 0 f37 (rg_T7_2_0_1 t1) (by first | decide | omega) (by first | decide | omega) (by decide)
            have e372 : rv h259 5 = (h8 ((h 61 1) + 7) 2) := (congrArg (fun z => svq h259 z 5) (((((((q357.trans q358).trans q359).trans q360).trans q361).trans q362).trans q363).trans q364)).trans ((((((q365.trans q366).trans q367).trans q368).trans q369).trans q370).trans q371)
            have q373 : h8 1 2 = h 1 2 := jK 0 f10 rg_1_2_0_1 (by first | decide | omega) (by first | decide | omega) (by decide)
            obtain ⟨w374, e375⟩ := Tk.no c41 (by first | decide | omega)
            obtain ⟨w376, e377⟩ := Tk.yes c62 (by first | decide | omega)
            have q378 : h102 1 2 = h86 1 2 := jK 0 f104 rg_1_2_0_1 (by first | decide | omega) (by first | decide | omega) (by decide)
            obtain ⟨w379, e380⟩ := Tk.yes c122 (by first | decide | omega)
            obtain ⟨w381, e382⟩ := Tk.no c265 (by first | decide | omega)
            have m383 : Ot (h 61 1) h h8 := Ot.trans Ot.refl (c19)
            have m384 : Ot (h 61 1) h h35 := Ot.fr m383 f37 (by decide)
            have m385 : Ot (h 61 1) h h56 := Ot.fr m384 f58 (by decide)
            have m386 : Ot (h 61 1) h h86 := Ot.fr m385 f88 (by decide)
            have m387 : Ot (h 61 1) h h102 := Ot.fr m386 f104 (by decide)
            have m388 : Ot (h 61 1) h h116 := Ot.fr m387 f118 (by decide)
            have m389 : Ot (h 61 1) h h136 := Ot.fr m388 f138 (by decide)
            have m390 : Ot (h 61 1) h h259 := Ot.fr m389 f261 (by decide)
            refine x_retI (np := 178) (x := 0) (by decide +kernel) (by decide) (Or.inr ⟨by decide +kernel, by first | decide | omega, by first | decide | omega⟩) ⟨_, rfl, (by decide), ?_⟩
            exact ⟨j260, f266, (by first | decide | omega), (by first | decide | omega), (by first | decide | omega), (by first | decide | omega), (by first | decide | omega), (fun z => by first | decide | omega), (by first | decide | omega), (or9.f w374 (show h8 1 2 = h 1 2 by first | decide | omega) (show h35 1 2 = h 1 2 by first | decide | omega) (wd9.y w376 rfl e377 rfl (nm9.y c93 (by first | decide | omega) (by first | decide | omega) rfl (by first | decide | omega) rfl (wd9.y w379 (show h102 1 2 = h86 1 2 by first | decide | omega) e380 rfl (nm9.y c143 (by first | decide | omega) (by first | decide | omega) rfl (by first | decide | omega) rfl (wd9.f w381 rfl (by first | decide | omega))))))), m390⟩
          have q270 : ¬ (v255 = 2147483648) := q270
          have b391 := c263 (by first | decide | omega)
          refine x_aload (np := 122) (x := 0) (by decide +kernel) rfl (x_nc_le (by decide)) ?_
          refine x_aload (np := 123) (x := 0) (by decide +kernel) rfl (x_nc_le (by decide)) ?_
          have q392 : h259 61 1 = h136 61 1 := f261 61 1 (by decide +kernel)
          have q393 : h136 61 1 = h116 61 1 := f138 61 1 (by decide +kernel)
          have q394 : h116 61 1 = h102 61 1 := f118 61 1 (by decide +kernel)
          have q395 : h102 61 1 = h86 61 1 := f104 61 1 (by decide +kernel)
          have q396 : h86 61 1 = h56 61 1 := f88 61 1 (by decide +kernel)
          have q397 : h56 61 1 = h35 61 1 := f58 61 1 (by decide +kernel)
          have q398 : h35 61 1 = h8 61 1 := f37 61 1 (by decide +kernel)
          have q399 : h8 61 1 = h 61 1 := f10 61 1 (by decide +kernel)
          refine x_getR (np := 126) (x := 577) (f := 1) (q := (h 61 1)) (by decide +kernel) (by decide) (by decide +kernel) (((((((q392.trans q393).trans q394).trans q395).trans q396).trans q397).trans q398).trans q399) ?_
          have q400 : h259 (h 61 1) 2 = ((h 61 1) + 5) := tf_0_2 j260 t1
          refine x_getR (np := 129) (x := 514) (f := 2) (q := ((h 61 1) + 5)) (by decide +kernel) (by decide) (tg_0_514_2_1 t1) q400 ?_
          refine x_iload (np := 130) (x := 1) (by decide +kernel) rfl l6 ?_
          refine x_const (np := 131) (x := 9223372047592194050) (a := 2147483650) (by decide +kernel) (by decide) (by decide) ?_
          refine x_iload (np := 132) (x := 2) (by decide +kernel) rfl l133 ?_
          refine x_const (np := 134) (x := 9223372086246899723) (a := 2147483659) (by decide +kernel) (by decide) (by decide) ?_
          refine x_nI (t := 6) (mj := 102) (n := 6) (rc := 10) (ml := 7) (nr := 0) (np := 137) (as := [x_r 61, x_r ((h 61 1) + 5), iv_c v5, iv_c 2147483650, iv_c v132, iv_c 2147483659]) (rest := []) (lo1 := [x_r 61, x_r ((h 61 1) + 5), iv_c v5, iv_c 2147483650, iv_c v132, iv_c 2147483659, 147573952589676412928]) (by decide +kernel) (by decide) (by decide +kernel) (x_rb_of (by decide +kernel)) rfl rfl (x_wr (by decide) (x_wr (tn_5 t1) (x_wi l6 (x_wi (by decide) (x_wi l133 (x_wi (by decide) x_wn)))))) x_wn (by decide) rfl ?_
          refine x_aload (np := 1) (x := 0) (by decide +kernel) rfl (x_nc_le (by decide)) ?_
          have q401 : h259 61 0 = 1 := by have z := jB (e := 0) 0 j260 rg_61_0_0_1 (by decide) (by decide); omega
          refine x_getR (np := 4) (x := 576) (f := 0) (q := 1) (by decide +kernel) (by decide) (by decide +kernel) q401 ?_
          refine x_iload (np := 6) (x := 4) (by decide +kernel) rfl l133 ?_
          refine x_iload (np := 8) (x := 5) (by decide +kernel) rfl (by decide) ?_
          have m405 := Tp.fr m258 f261 (by decide) (by decide)
          refine x_cI (t := 6) (mj := 79) (n := 3) (rc := 8) (ml := 5) (nr := 0) (np := 11) (as := [x_r 1, iv_c v132, iv_c 2147483659]) (rest := []) (lo1 := [x_r 1, iv_c v132, iv_c 2147483659, 147573952589676412928, 147573952589676412928]) (by decide +kernel) (by decide) (by decide +kernel) (x_rb_of (by decide +kernel)) rfl rfl (x_wr (by decide) (x_wi l133 (x_wi (by decide) x_wn))) x_wn (by decide) rfl (c79_1 j260  (by first | decide | omega) (by first | decide | omega) m405) (fun v402 h406 l403 q404 => ?_)
          obtain ⟨j407, f408, b409, c410, c411, c412, c413⟩ := q404
          have f414 := Fr.trans f266 f408 (by decide)
          have b415 := jB (e := 2) 0 j407 rg_1_2_0_1 (by first | decide | omega) (by first | decide | omega)
          refine x_istore (np := 13) (x := 6) (lo' := [x_r 61, x_r ((h 61 1) + 5), iv_c v5, iv_c 2147483650, iv_c v132, iv_c 2147483659, iv_c v402]) (by decide +kernel) l403 (Nat.le_of_ble_eq_true rfl) rfl ?_
          refine x_iload (np := 15) (x := 6) (by decide +kernel) rfl l403 ?_
          refine x_const (np := 16) (x := 9223372034707292159) (a := 2147483647) (by decide +kernel) (by decide) (by decide) ?_
          refine x_icmp (k := 1) (tg := 21) (np := 19) (by decide +kernel) (by decide) l403 (by decide) (fun q416 => ?_) (fun q417 => ?_)
          · have q416 : v402 ≠ 2147483647 := q416
            have b418 := c411 (by first | decide | omega)
            refine x_aload (np := 22) (x := 1) (by decide +kernel) rfl (x_nc_le (tn_5 t1)) ?_
            refine x_iload (np := 23) (x := 2) (by decide +kernel) rfl l6 ?_
            refine x_iload (np := 24) (x := 3) (by decide +kernel) rfl (by decide) ?_
            refine x_iload (np := 26) (x := 6) (by decide +kernel) rfl l403 ?_
            refine x_cV (t := 6) (mj := 69) (n := 4) (rc := 7) (ml := 5) (nr := 0) (np := 29) (as := [x_r ((h 61 1) + 5), iv_c v5, iv_c 2147483650, iv_c v402]) (rest := []) (lo1 := [x_r ((h 61 1) + 5), iv_c v5, iv_c 2147483650, iv_c v402, 147573952589676412928]) (by decide +kernel) (by decide) (by decide +kernel) (x_rb_of (tr_5_7 t1)) rfl rfl (x_wr (tn_5 t1) (x_wi l6 (x_wi (by decide) (x_wi l403 x_wn)))) x_wn (by decide) rfl (c69_T5_c2 j407 t1 (by first | decide | omega)  (by first | decide | omega)) (fun h422 q421 => ?_)
            obtain ⟨j423, f424⟩ := q421
            have f427 := Fr.trans f414 f424 (by decide)
            refine x_const (np := 30) (x := 9223372043297226753) (a := 2147483649) (by decide +kernel) (by decide) (by decide) ?_
            refine x_retI (np := 31) (x := 0) (by decide +kernel) (by decide) (Or.inr ⟨by decide +kernel, by first | decide | omega, by first | decide | omega⟩) ⟨_, rfl, (by decide), ?_⟩
            refine x_ifz (k := 0) (tg := 176) (np := 140) (by decide +kernel) (by decide) (by decide) (fun q428 => ?_) (fun q429 => ?_)
            · have q428 : 2147483649 = 2147483648 := q428
              exfalso; omega
            have q429 : ¬ (2147483649 = 2147483648) := q429
            refine x_aload (np := 141) (x := 0) (by decide +kernel) rfl (x_nc_le (by decide)) ?_
            have q430 : h422 61 0 = 1 := by have z := jB (e := 0) 0 j423 rg_61_0_0_1 (by decide) (by decide); omega
            refine x_getR (np := 144) (x := 576) (f := 0) (q := 1) (by decide +kernel) (by decide) (by decide +kernel) q430 ?_
            refine x_ldcB (i := 12) (idx := 155) (tx := "of") (by rw [tb_y99]; exact List.mem_of_getElem? (i := 12) rfl) (by decide) (by rw [tb_b99]; decide +kernel) ?_
            have m435 := Tp.fr m405 f408 (by decide) (by decide)
            have m434 := Tp.fr m435 f424 (by decide) (by decide)
            refine x_cI (t := 6) (mj := 78) (n := 2) (rc := 8) (ml := 2) (nr := 0) (np := 149) (as := [x_r 1, x_b (12 + 1)]) (rest := []) (lo1 := [x_r 1, x_b (12 + 1)]) (by decide +kernel) (by decide) (by decide +kernel) (x_rb_of (by decide +kernel)) rfl rfl (x_wr (by decide) (x_wB (by decide) x_wn)) x_wn (by decide) rfl (c78_1_S0 j423  (by decide) m434) (fun v431 h436 l432 q433 => ?_)
            obtain ⟨j437, f438, b439, c440, c441, c442⟩ := q433
            have f443 := Fr.trans f427 f438 (by decide)
            have q444 : h422 1 2 = h406 1 2 := jK 0 f424 rg_1_2_0_1 (by first | decide | omega) (by first | decide | omega) (by decide)
            have b445 := jB (e := 2) 0 j437 rg_1_2_0_1 (by first | decide | omega) (by first | decide | omega)
            have b446 : iv_tl 12 = 2 := by decide
            have q447 : h422 1 2 = h406 1 2 := jK 0 f424 rg_1_2_0_1 (by first | decide | omega) (by first | decide | omega) (by decide)
            refine x_ifz (k := 0) (tg := 176) (np := 152) (by decide +kernel) (by decide) l432 (fun q448 => ?_) (fun q449 => ?_)
            · have q448 : v431 = 2147483648 := q448
              have b450 := c441 (by first | decide | omega)
              refine x_const (np := 177) (x := 9223372039002259456) (a := 2147483648) (by decide +kernel) (by decide) (by decide) ?_
              have e451 : rv h 0 = (h (h 61 1) 7) := (congrArg (fun z => svq h z 0) rfl).trans rfl
              have q452 : h436 61 1 = h422 61 1 := f438 61 1 (by decide +kernel)
              have q453 : h422 61 1 = h406 61 1 := f424 61 1 (by decide +kernel)
              have q454 : h406 61 1 = h259 61 1 := f408 61 1 (by decide +kernel)
              have q455 : h259 61 1 = h136 61 1 := f261 61 1 (by decide +kernel)
              have q456 : h136 61 1 = h116 61 1 := f138 61 1 (by decide +kernel)
              have q457 : h116 61 1 = h102 61 1 := f118 61 1 (by decide +kernel)
              have q458 : h102 61 1 = h86 61 1 := f104 61 1 (by decide +kernel)
              have q459 : h86 61 1 = h56 61 1 := f88 61 1 (by decide +kernel)
              have q460 : h56 61 1 = h35 61 1 := f58 61 1 (by decide +kernel)
              have q461 : h35 61 1 = h8 61 1 := f37 61 1 (by decide +kernel)
              have q462 : h8 61 1 = h 61 1 := f10 61 1 (by decide +kernel)
              have q463 : h436 (h 61 1) 7 = h422 (h 61 1) 7 := jK 0 f438 (rg_T0_7_0_1 t1) (by first | decide | omega) (by first | decide | omega) (by decide)
              have q464 : h422 (h 61 1) 7 = h406 (h 61 1) 7 := jK 0 f424 (rg_T0_7_0_1 t1) (by first | decide | omega) (by first | decide | omega) (by decide)
              have q465 : h406 (h 61 1) 7 = h259 (h 61 1) 7 := jK 0 f408 (rg_T0_7_0_1 t1) (by first | decide | omega) (by first | decide | omega) (by decide)
              have q466 : h259 (h 61 1) 7 = h136 (h 61 1) 7 := jK 0 f261 (rg_T0_7_0_1 t1) (by first | decide | omega) (by first | decide | omega) (by decide)
              have q467 : h136 (h 61 1) 7 = h116 (h 61 1) 7 := jK 0 f138 (rg_T0_7_0_1 t1) (by first | decide | omega) (by first | decide | omega) (by decide)
              have q468 : h116 (h 61 1) 7 = h102 (h 61 1) 7 := jK 0 f118 (rg_T0_7_0_1 t1) (by first | decide | omega) (by first | decide | omega) (by decide)
              have q469 : h102 (h 61 1) 7 = h86 (h 61 1) 7 := jK 0 f104 (rg_T0_7_0_1 t1) (by first | decide | omega) (by first | decide | omega) (by decide)
              have q470 : h86 (h 61 1) 7 = h56 (h 61 1) 7 := jK 0 f88 (rg_T0_7_0_1 t1) (by first | decide | omega) (by first | decide | omega) (by decide)
              have q471 : h56 (h 61 1) 7 = h35 (h 61 1) 7 := jK 0 f58 (rg_T0_7_0_1 t1) (by first | decide | omega) (by first | decide | omega) (by decide)
              have q472 : h35 (h 61 1) 7 = h8 (h 61 1) 7 := jK 0 f37 (rg_T0_7_0_1 t1) (by first | decide | omega) (by first | decide | omega) (by decide)
              have e473 : rv h436 0 = (h8 (h 61 1) 7) := (congrArg (fun z => svq h436 z 0) ((((((((((q452.trans q453).trans q454).trans q455).trans q456).trans q457).trans q458).trans q459).trans q460).trans q461).trans q462)).trans (((((((((q463.trans q464).trans q465).trans q466).trans q467).trans q468).trans q469).trans q470).trans q471).trans q472)
              have e474 : rv h 1 = (h (h 61 1) 8) := (congrArg (fun z => svq h z 1) rfl).trans rfl
              have q475 : h436 61 1 = h422 61 1 := f438 61 1 (by decide +kernel)
              have q476 : h422 61 1 = h406 61 1 := f424 61 1 (by decide +kernel)
              have q477 : h406 61 1 = h259 61 1 := f408 61 1 (by decide +kernel)
              have q478 : h259 61 1 = h136 61 1 := f261 61 1 (by decide +kernel)
              have q479 : h136 61 1 = h116 61 1 := f138 61 1 (by decide +kernel)
              have q480 : h116 61 1 = h102 61 1 := f118 61 1 (by decide +kernel)
              have q481 : h102 61 1 = h86 61 1 := f104 61 1 (by decide +kernel)
              have q482 : h86 61 1 = h56 61 1 := f88 61 1 (by decide +kernel)
              have q483 : h56 61 1 = h35 61 1 := f58 61 1 (by decide +kernel)
              have q484 : h35 61 1 = h8 61 1 := f37 61 1 (by decide +kernel)
              have q485 : h8 61 1 = h 61 1 := f10 61 1 (by decide +kernel)
              have q486 : h436 (h 61 1) 8 = h422 (h 61 1) 8 := jK 0 f438 (rg_T0_8_0_1 t1) (by first | decide | omega) (by first | decide | omega) (by decide)
              have q487 : h422 (h 61 1) 8 = h406 (h 61 1) 8 := jK 0 f424 (rg_T0_8_0_1 t1) (by first | decide | omega) (by first | decide | omega) (by decide)
              have q488 : h406 (h 61 1) 8 = h259 (h 61 1) 8 := jK 0 f408 (rg_T0_8_0_1 t1) (by first | decide | omega) (by first | decide | omega) (by decide)
              have q489 : h259 (h 61 1) 8 = h136 (h 61 1) 8 := jK 0 f261 (rg_T0_8_0_1 t1) (by first | decide | omega) (by first | decide | omega) (by decide)
              have q490 : h136 (h 61 1) 8 = h116 (h 61 1) 8 := jK 0 f138 (rg_T0_8_0_1 t1) (by first | decide | omega) (by first | decide | omega) (by decide)
              have q491 : h116 (h 61 1) 8 = h102 (h 61 1) 8 := jK 0 f118 (rg_T0_8_0_1 t1) (by first | decide | omega) (by first | decide | omega) (by decide)
              have q492 : h102 (h 61 1) 8 = h86 (h 61 1) 8 := jK 0 f104 (rg_T0_8_0_1 t1) (by first | decide | omega) (by first | decide | omega) (by decide)
              have q493 : h86 (h 61 1) 8 = h56 (h 61 1) 8 := jK 0 f88 (rg_T0_8_0_1 t1) (by first | decide | omega) (by first | decide | omega) (by decide)
              have q494 : h56 (h 61 1) 8 = h35 (h 61 1) 8 := jK 0 f58 (rg_T0_8_0_1 t1) (by first | decide | omega) (by first | decide | omega) (by decide)
              have q495 : h35 (h 61 1) 8 = h8 (h 61 1) 8 := jK 0 f37 (rg_T0_8_0_1 t1) (by first | decide | omega) (by first | decide | omega) (by decide)
              have e496 : rv h436 1 = (h8 (h 61 1) 8) := (congrArg (fun z => svq h436 z 1) ((((((((((q475.trans q476).trans q477).trans q478).trans q479).trans q480).trans q481).trans q482).trans q483).trans q484).trans q485)).trans (((((((((q486.trans q487).trans q488).trans q489).trans q490).trans q491).trans q492).trans q493).trans q494).trans q495)
              have e497 : rv h 2 = (h ((h 61 1) + 1) 2) := (congrArg (fun z => svq h z 2) rfl).trans rfl
              have q498 : h436 61 1 = h422 61 1 := f438 61 1 (by decide +kernel)
              have q499 : h422 61 1 = h406 61 1 := f424 61 1 (by decide +kernel)
              have q500 : h406 61 1 = h259 61 1 := f408 61 1 (by decide +kernel)
              have q501 : h259 61 1 = h136 61 1 := f261 61 1 (by decide +kernel)
              have q502 : h136 61 1 = h116 61 1 := f138 61 1 (by decide +kernel)
              have q503 : h116 61 1 = h102 61 1 := f118 61 1 (by decide +kernel)
              have q504 : h102 61 1 = h86 61 1 := f104 61 1 (by decide +kernel)
              have q505 : h86 61 1 = h56 61 1 := f88 61 1 (by decide +kernel)
              have q506 : h56 61 1 = h35 61 1 := f58 61 1 (by decide +kernel)
              have q507 : h35 61 1 = h8 61 1 := f37 61 1 (by decide +kernel)
              have q508 : h8 61 1 = h 61 1 := f10 61 1 (by decide +kernel)
              have q509 : h436 ((h 61 1) + 1) 2 = h422 ((h 61 1) + 1) 2 := jK 0 f438 (rg_T1_2_0_1 t1) (by first | decide | omega) (by first | decide | omega) (by decide)
              have q510 : h422 ((h 61 1) + 1) 2 = h406 ((h 61 1) + 1) 2 := jK 0 f424 (rg_T1_2_0_1 t1) (by first | decide | omega) (by first | decide | omega) (by decide)
              have q511 : h406 ((h 61 1) + 1) 2 = h259 ((h 61 1) + 1) 2 := jK 0 f408 (rg_T1_2_0_1 t1) (by first | decide | omega) (by first | decide | omega) (by decide)
              have q512 : h259 ((h 61 1) + 1) 2 = h136 ((h 61 1) + 1) 2 := jK 0 f261 (rg_T1_2_0_1 t1) (by first | decide | omega) (by first | decide | omega) (by decide)
              have q513 : h136 ((h 61 1) + 1) 2 = h116 ((h 61 1) + 1) 2 := jK 0 f138 (rg_T1_2_0_1 t1) (by first | decide | omega) (by first | decide | omega) (by decide)
              have q514 : h116 ((h 61 1) + 1) 2 = h102 ((h 61 1) + 1) 2 := jK 0 f118 (rg_T1_2_0_1 t1) (by first | decide | omega) (by first | decide | omega) (by decide)
              have q515 : h102 ((h 61 1) + 1) 2 = h86 ((h 61 1) + 1) 2 := jK 0 f104 (rg_T1_2_0_1 t1) (by first | decide | omega) (by first | decide | omega) (by decide)
              have q516 : h86 ((h 61 1) + 1) 2 = h56 ((h 61 1) + 1) 2 := jK 0 f88 (rg_T1_2_0_1 t1) (by first | decide | omega) (by first | decide | omega) (by decide)
              have q517 : h56 ((h 61 1) + 1) 2 = h35 ((h 61 1) + 1) 2 := jK 0 f58 (rg_T1_2_0_1 t1) (by first | decide | omega) (by first | decide | omega) (by decide)
              have q518 : h35 ((h 61 1) + 1) 2 = h8 ((h 61 1) + 1) 2 := jK 0 f37 (rg_T1_2_0_1 t1) (by first | decide | omega) (by first | decide | omega) (by decide)
              have e519 : rv h436 2 = (h8 ((h 61 1) + 1) 2) := (congrArg (fun z => svq h436 z 2) ((((((((((q498.trans q499).trans q500).trans q501).trans q502).trans q503).trans q504).trans q505).trans q506).trans q507).trans q508)).trans (((((((((q509.trans q510).trans q511).trans q512).trans q513).trans q514).trans q515).trans q516).trans q517).trans q518)
              have e520 : rv h 3 = (h ((h 61 1) + 3) 2) := (congrArg (fun z => svq h z 3) rfl).trans rfl
              have q521 : h436 61 1 = h422 61 1 := f438 61 1 (by decide +kernel)
              have q522 : h422 61 1 = h406 61 1 := f424 61 1 (by decide +kernel)
              have q523 : h406 61 1 = h259 61 1 := f408 61 1 (by decide +kernel)
              have q524 : h259 61 1 = h136 61 1 := f261 61 1 (by decide +kernel)
              have q525 : h136 61 1 = h116 61 1 := f138 61 1 (by decide +kernel)
              have q526 : h116 61 1 = h102 61 1 := f118 61 1 (by decide +kernel)
              have q527 : h102 61 1 = h86 61 1 := f104 61 1 (by decide +kernel)
              have q528 : h86 61 1 = h56 61 1 := f88 61 1 (by decide +kernel)
              have q529 : h56 61 1 = h35 61 1 := f58 61 1 (by decide +kernel)
              have q530 : h35 61 1 = h8 61 1 := f37 61 1 (by decide +kernel)
              have q531 : h8 61 1 = h 61 1 := f10 61 1 (by decide +kernel)
              have q532 : h436 ((h 61 1) + 3) 2 = h422 ((h 61 1) + 3) 2 := jK 0 f438 (rg_T3_2_0_1 t1) (by first | decide | omega) (by first | decide | omega) (by decide)
              have q533 : h422 ((h 61 1) + 3) 2 = h406 ((h 61 1) + 3) 2 := jK 0 f424 (rg_T3_2_0_1 t1) (by first | decide | omega) (by first | decide | omega) (by decide)
              have q534 : h406 ((h 61 1) + 3) 2 = h259 ((h 61 1) + 3) 2 := jK 0 f408 (rg_T3_2_0_1 t1) (by first | decide | omega) (by first | decide | omega) (by decide)
              have q535 : h259 ((h 61 1) + 3) 2 = h136 ((h 61 1) + 3) 2 := jK 0 f261 (rg_T3_2_0_1 t1) (by first | decide | omega) (by first | decide | omega) (by decide)
              have q536 : h136 ((h 61 1) + 3) 2 = h116 ((h 61 1) + 3) 2 := jK 0 f138 (rg_T3_2_0_1 t1) (by first | decide | omega) (by first | decide | omega) (by decide)
              have q537 : h116 ((h 61 1) + 3) 2 = h102 ((h 61 1) + 3) 2 := jK 0 f118 (rg_T3_2_0_1 t1) (by first | decide | omega) (by first | decide | omega) (by decide)
              have q538 : h102 ((h 61 1) + 3) 2 = h86 ((h 61 1) + 3) 2 := jK 0 f104 (rg_T3_2_0_1 t1) (by first | decide | omega) (by first | decide | omega) (by decide)
              have q539 : h86 ((h 61 1) + 3) 2 = h56 ((h 61 1) + 3) 2 := jK 0 f88 (rg_T3_2_0_1 t1) (by first | decide | omega) (by first | decide | omega) (by decide)
              have q540 : h56 ((h 61 1) + 3) 2 = h35 ((h 61 1) + 3) 2 := jK 0 f58 (rg_T3_2_0_1 t1) (by first | decide | omega) (by first | decide | omega) (by decide)
              have q541 : h35 ((h 61 1) + 3) 2 = h8 ((h 61 1) + 3) 2 := jK 0 f37 (rg_T3_2_0_1 t1) (by first | decide | omega) (by first | decide | omega) (by decide)
              have e542 : rv h436 3 = (h8 ((h 61 1) + 3) 2) := (congrArg (fun z => svq h436 z 3) ((((((((((q521.trans q522).trans q523).trans q524).trans q525).trans q526).trans q527).trans q528).trans q529).trans q530).trans q531)).trans (((((((((q532.trans q533).trans q534).trans q535).trans q536).trans q537).trans q538).trans q539).trans q540).trans q541)
              have q543 : h436 61 1 = h422 61 1 := f438 61 1 (by decide +kernel)
              have q544 : h422 61 1 = h406 61 1 := f424 61 1 (by decide +kernel)
              have q545 : h406 61 1 = h259 61 1 := f408 61 1 (by decide +kernel)
              have q546 : h259 61 1 = h136 61 1 := f261 61 1 (by decide +kernel)
              have q547 : h136 61 1 = h116 61 1 := f138 61 1 (by decide +kernel)
              have q548 : h116 61 1 = h102 61 1 := f118 61 1 (by decide +kernel)
              have q549 : h102 61 1 = h86 61 1 := f104 61 1 (by decide +kernel)
              have q550 : h86 61 1 = h56 61 1 := f88 61 1 (by decide +kernel)
              have q551 : h56 61 1 = h35 61 1 := f58 61 1 (by decide +kernel)
              have q552 : h35 61 1 = h8 61 1 := f37 61 1 (by decide +kernel)
              have q553 : h8 61 1 = h 61 1 := f10 61 1 (by decide +kernel)
              have q554 : h436 ((h 61 1) + 5) 2 = h422 ((h 61 1) + 5) 2 := jK 0 f438 (rg_T5_2_0_1 t1) (by first | decide | omega) (by first | decide | omega) (by decide)
              have q555 : h422 ((h 61 1) + 5) 2 = h406 ((h 61 1) + 5) 2 := jK 0 f424 (rg_T5_2_0_1 t1) (by first | decide | omega) (by first | decide | omega) (by decide)
              have q556 : h406 ((h 61 1) + 5) 2 = h259 ((h 61 1) + 5) 2 := jK 0 f408 (rg_T5_2_0_1 t1) (by first | decide | omega) (by first | decide | omega) (by decide)
              have q557 : h259 ((h 61 1) + 5) 2 = h136 ((h 61 1) + 5) 2 := jK 0 f261 (rg_T5_2_0_1 t1) (by first | decide | omega) (by first | decide | omega) (by decide)
              have q558 : h136 ((h 61 1) + 5) 2 = h116 ((h 61 1) + 5) 2 := jK 0 f138 (rg_T5_2_0_1 t1) (by first | decide | omega) (by first | decide | omega) (by decide)
              have q559 : h116 ((h 61 1) + 5) 2 = h102 ((h 61 1) + 5) 2 := jK 0 f118 (rg_T5_2_0_1 t1) (by first | decide | omega) (by first | decide | omega) (by decide)
              have q560 : h102 ((h 61 1) + 5) 2 = h86 ((h 61 1) + 5) 2 := jK 0 f104 (rg_T5_2_0_1 t1) (by first | decide | omega) (by first | decide | omega) (by decide)
              have q561 : h86 ((h 61 1) + 5) 2 = h56 ((h 61 1) + 5) 2 := jK 0 f88 (rg_T5_2_0_1 t1) (by first | decide | omega) (by first | decide | omega) (by decide)
              have q562 : h56 ((h 61 1) + 5) 2 = h35 ((h 61 1) + 5) 2 := jK 0 f58 (rg_T5_2_0_1 t1) (by first | decide | omega) (by first | decide | omega) (by decide)
              have q563 : h35 ((h 61 1) + 5) 2 = h8 ((h 61 1) + 5) 2 := jK 0 f37 (rg_T5_2_0_1 t1) (by first | decide | omega) (by first | decide | omega) (by decide)
              have e564 : rv h436 4 = (h8 ((h 61 1) + 5) 2) := (congrArg (fun z => svq h436 z 4) ((((((((((q543.trans q544).trans q545).trans q546).trans q547).trans q548).trans q549).trans q550).trans q551).trans q552).trans q553)).trans (((((((((q554.trans q555).trans q556).trans q557).trans q558).trans q559).trans q560).trans q561).trans q562).trans q563)
              have e565 : rv h 5 = (h ((h 61 1) + 7) 2) := (congrArg (fun z => svq h z 5) rfl).trans rfl
              have q566 : h436 61 1 = h422 61 1 := f438 61 1 (by decide +kernel)
              have q567 : h422 61 1 = h406 61 1 := f424 61 1 (by decide +kernel)
              have q568 : h406 61 1 = h259 61 1 := f408 61 1 (by decide +kernel)
              have q569 : h259 61 1 = h136 61 1 := f261 61 1 (by decide +kernel)
              have q570 : h136 61 1 = h116 61 1 := f138 61 1 (by decide +kernel)
              have q571 : h116 61 1 = h102 61 1 := f118 61 1 (by decide +kernel)
              have q572 : h102 61 1 = h86 61 1 := f104 61 1 (by decide +kernel)
              have q573 : h86 61 1 = h56 61 1 := f88 61 1 (by decide +kernel)
              have q574 : h56 61 1 = h35 61 1 := f58 61 1 (by decide +kernel)
              have q575 : h35 61 1 = h8 61 1 := f37 61 1 (by decide +kernel)
              have q576 : h8 61 1 = h 61 1 := f10 61 1 (by decide +kernel)
              have q577 : h436 ((h 61 1) + 7) 2 = h422 ((h 61 1) + 7) 2 := jK 0 f438 (rg_T7_2_0_1 t1) (by first | decide | omega) (by first | decide | omega) (by decide)
              have q578 : h422 ((h 61 1) + 7) 2 = h406 ((h 61 1) + 7) 2 := jK 0 f424 (rg_T7_2_0_1 t1) (by first | decide | omega) (by first | decide | omega) (by decide)
              have q579 : h406 ((h 61 1) + 7) 2 = h259 ((h 61 1) + 7) 2 := jK 0 f408 (rg_T7_2_0_1 t1) (by first | decide | omega) (by first | decide | omega) (by decide)
              have q580 : h259 ((h 61 1) + 7) 2 = h136 ((h 61 1) + 7) 2 := jK 0 f261 (rg_T7_2_0_1 t1) (by first | decide | omega) (by first | decide | omega) (by decide)
              have q581 : h136 ((h 61 1) + 7) 2 = h116 ((h 61 1) + 7) 2 := jK 0 f138 (rg_T7_2_0_1 t1) (by first | decide | omega) (by first | decide | omega) (by decide)
              have q582 : h116 ((h 61 1) + 7) 2 = h102 ((h 61 1) + 7) 2 := jK 0 f118 (rg_T7_2_0_1 t1) (by first | decide | omega) (by first | decide | omega) (by decide)
              have q583 : h102 ((h 61 1) + 7) 2 = h86 ((h 61 1) + 7) 2 := jK 0 f104 (rg_T7_2_0_1 t1) (by first | decide | omega) (by first | decide | omega) (by decide)
              have q584 : h86 ((h 61 1) + 7) 2 = h56 ((h 61 1) + 7) 2 := jK 0 f88 (rg_T7_2_0_1 t1) (by first | decide | omega) (by first | decide | omega) (by decide)
              have q585 : h56 ((h 61 1) + 7) 2 = h35 ((h 61 1) + 7) 2 := jK 0 f58 (rg_T7_2_0_1 t1) (by first | decide | omega) (by first | decide | omega) (by decide)
              have q586 : h35 ((h 61 1) + 7) 2 = h8 ((h 61 1) + 7) 2 := jK 0 f37 (rg_T7_2_0_1 t1) (by first | decide | omega) (by first | decide | omega) (by decide)
              have e587 : rv h436 5 = (h8 ((h 61 1) + 7) 2) := (congrArg (fun z => svq h436 z 5) ((((((((((q566.trans q567).trans q568).trans q569).trans q570).trans q571).trans q572).trans q573).trans q574).trans q575).trans q576)).trans (((((((((q577.trans q578).trans q579).trans q580).trans q581).trans q582).trans q583).trans q584).trans q585).trans q586)
              have q588 : h8 1 2 = h 1 2 := jK 0 f10 rg_1_2_0_1 (by first | decide | omega) (by first | decide | omega) (by decide)
              obtain ⟨w589, e590⟩ := Tk.no c41 (by first | decide | omega)
              obtain ⟨w591, e592⟩ := Tk.yes c62 (by first | decide | omega)
              have q593 : h102 1 2 = h86 1 2 := jK 0 f104 rg_1_2_0_1 (by first | decide | omega) (by first | decide | omega) (by decide)
              obtain ⟨w594, e595⟩ := Tk.yes c122 (by first | decide | omega)
              obtain ⟨w596, e597⟩ := Tk.yes c265 (by first | decide | omega)
              have q598 : h422 1 2 = h406 1 2 := jK 0 f424 rg_1_2_0_1 (by first | decide | omega) (by first | decide | omega) (by decide)
              obtain ⟨w599, e600⟩ := Tk.no c442 (by first | decide | omega)
              have m601 : Ot (h 61 1) h h8 := Ot.trans Ot.refl (c19)
              have m602 : Ot (h 61 1) h h35 := Ot.fr m601 f37 (by decide)
              have m603 : Ot (h 61 1) h h56 := Ot.fr m602 f58 (by decide)
              have m604 : Ot (h 61 1) h h86 := Ot.fr m603 f88 (by decide)
              have m605 : Ot (h 61 1) h h102 := Ot.fr m604 f104 (by decide)
              have m606 : Ot (h 61 1) h h116 := Ot.fr m605 f118 (by decide)
              have m607 : Ot (h 61 1) h h136 := Ot.fr m606 f138 (by decide)
              have m608 : Ot (h 61 1) h h259 := Ot.fr m607 f261 (by decide)
              have m609 : Ot (h 61 1) h h406 := Ot.fr m608 f408 (by decide)
              have m610 : Ot (h 61 1) h h422 := Ot.fr m609 f424 (by decide)
              have m611 : Ot (h 61 1) h h436 := Ot.fr m610 f438 (by decide)
              refine x_retI (np := 178) (x := 0) (by decide +kernel) (by decide) (Or.inr ⟨by decide +kernel, by first | decide | omega, by first | decide | omega⟩) ⟨_, rfl, (by decide), ?_⟩
              exact ⟨j437, f443, (by first | decide | omega), (by first | decide | omega), (by first | decide | omega), (by first | decide | omega), (by first | decide | omega), (fun z => by first | decide | omega), (by first | decide | omega), (or9.f w589 (show h8 1 2 = h 1 2 by first | decide | omega) (show h35 1 2 = h 1 2 by first | decide | omega) (wd9.y w591 rfl e592 rfl (nm9.y c93 (by first | decide | omega) (by first | decide | omega) rfl (by first | decide | omega) rfl (wd9.y w594 (show h102 1 2 = h86 1 2 by first | decide | omega) e595 rfl (nm9.y c143 (by first | decide | omega) (by first | decide | omega) rfl (by first | decide | omega) rfl (wd9.y w596 rfl e597 rfl (nm9.y c413 (by first | decide | omega) (by first | decide | omega) rfl (by first | decide | omega) rfl (wd9.f w599 (show h422 1 2 = h406 1 2 by first | decide | omega) (by first | decide | omega))))))))), m611⟩
            have q449 : ¬ (v431 = 2147483648) := q449
            have b612 := c440 (by first | decide | omega)
            refine x_aload (np := 153) (x := 0) (by decide +kernel) rfl (x_nc_le (by decide)) ?_
            refine x_aload (np := 154) (x := 0) (by decide +kernel) rfl (x_nc_le (by decide)) ?_
            have q613 : h436 61 1 = h422 61 1 := f438 61 1 (by decide +kernel)
            have q614 : h422 61 1 = h406 61 1 := f424 61 1 (by decide +kernel)
            have q615 : h406 61 1 = h259 61 1 := f408 61 1 (by decide +kernel)
            have q616 : h259 61 1 = h136 61 1 := f261 61 1 (by decide +kernel)
            have q617 : h136 61 1 = h116 61 1 := f138 61 1 (by decide +kernel)
            have q618 : h116 61 1 = h102 61 1 := f118 61 1 (by decide +kernel)
            have q619 : h102 61 1 = h86 61 1 := f104 61 1 (by decide +kernel)
            have q620 : h86 61 1 = h56 61 1 := f88 61 1 (by decide +kernel)
            have q621 : h56 61 1 = h35 61 1 := f58 61 1 (by decide +kernel)
            have q622 : h35 61 1 = h8 61 1 := f37 61 1 (by decide +kernel)
            have q623 : h8 61 1 = h 61 1 := f10 61 1 (by decide +kernel)
            refine x_getR (np := 157) (x := 577) (f := 1) (q := (h 61 1)) (by decide +kernel) (by decide) (by decide +kernel) ((((((((((q613.trans q614).trans q615).trans q616).trans q617).trans q618).trans q619).trans q620).trans q621).trans q622).trans q623) ?_
            have q624 : h436 (h 61 1) 2 = ((h 61 1) + 5) := tf_0_2 j437 t1
            refine x_getR (np := 160) (x := 514) (f := 2) (q := ((h 61 1) + 5)) (by decide +kernel) (by decide) (tg_0_514_2_1 t1) q624 ?_
            refine x_iload (np := 161) (x := 1) (by decide +kernel) rfl l6 ?_
            refine x_const (np := 162) (x := 9223372051887161347) (a := 2147483651) (by decide +kernel) (by decide) (by decide) ?_
            refine x_const (np := 163) (x := 9223372039002259456) (a := 2147483648) (by decide +kernel) (by decide) (by decide) ?_
            refine x_const (np := 166) (x := 9223376329674589159) (a := 2147484647) (by decide +kernel) (by decide) (by decide) ?_
            refine x_nI (t := 6) (mj := 102) (n := 6) (rc := 10) (ml := 7) (nr := 0) (np := 169) (as := [x_r 61, x_r ((h 61 1) + 5), iv_c v5, iv_c 2147483651, iv_c 2147483648, iv_c 2147484647]) (rest := []) (lo1 := [x_r 61, x_r ((h 61 1) + 5), iv_c v5, iv_c 2147483651, iv_c 2147483648, iv_c 2147484647, 147573952589676412928]) (by decide +kernel) (by decide) (by decide +kernel) (x_rb_of (by decide +kernel)) rfl rfl (x_wr (by decide) (x_wr (tn_5 t1) (x_wi l6 (x_wi (by decide) (x_wi (by decide) (x_wi (by decide) x_wn)))))) x_wn (by decide) rfl ?_
            refine x_aload (np := 1) (x := 0) (by decide +kernel) rfl (x_nc_le (by decide)) ?_
            have q625 : h436 61 0 = 1 := by have z := jB (e := 0) 0 j437 rg_61_0_0_1 (by decide) (by decide); omega
            refine x_getR (np := 4) (x := 576) (f := 0) (q := 1) (by decide +kernel) (by decide) (by decide +kernel) q625 ?_
            refine x_iload (np := 6) (x := 4) (by decide +kernel) rfl (by decide) ?_
            refine x_iload (np := 8) (x := 5) (by decide +kernel) rfl (by decide) ?_
            have m629 := Tp.fr m434 f438 (by decide) (by decide)
            refine x_cI (t := 6) (mj := 79) (n := 3) (rc := 8) (ml := 5) (nr := 0) (np := 11) (as := [x_r 1, iv_c 2147483648, iv_c 2147484647]) (rest := []) (lo1 := [x_r 1, iv_c 2147483648, iv_c 2147484647, 147573952589676412928, 147573952589676412928]) (by decide +kernel) (by decide) (by decide +kernel) (x_rb_of (by decide +kernel)) rfl rfl (x_wr (by decide) (x_wi (by decide) (x_wi (by decide) x_wn))) x_wn (by decide) rfl (c79_1_c0 j437   (by first | decide | omega) m629) (fun v626 h630 l627 q628 => ?_)
            obtain ⟨j631, f632, b633, c634, c635, c636, c637⟩ := q628
            have f638 := Fr.trans f443 f632 (by decide)
            have b639 := jB (e := 2) 0 j631 rg_1_2_0_1 (by first | decide | omega) (by first | decide | omega)
            refine x_istore (np := 13) (x := 6) (lo' := [x_r 61, x_r ((h 61 1) + 5), iv_c v5, iv_c 2147483651, iv_c 2147483648, iv_c 2147484647, iv_c v626]) (by decide +kernel) l627 (Nat.le_of_ble_eq_true rfl) rfl ?_
            refine x_iload (np := 15) (x := 6) (by decide +kernel) rfl l627 ?_
            refine x_const (np := 16) (x := 9223372034707292159) (a := 2147483647) (by decide +kernel) (by decide) (by decide) ?_
            refine x_icmp (k := 1) (tg := 21) (np := 19) (by decide +kernel) (by decide) l627 (by decide) (fun q640 => ?_) (fun q641 => ?_)
            · have q640 : v626 ≠ 2147483647 := q640
              have b642 := c635 (by first | decide | omega)
              refine x_aload (np := 22) (x := 1) (by decide +kernel) rfl (x_nc_le (tn_5 t1)) ?_
              refine x_iload (np := 23) (x := 2) (by decide +kernel) rfl l6 ?_
              refine x_iload (np := 24) (x := 3) (by decide +kernel) rfl (by decide) ?_
              refine x_iload (np := 26) (x := 6) (by decide +kernel) rfl l627 ?_
              refine x_cV (t := 6) (mj := 69) (n := 4) (rc := 7) (ml := 5) (nr := 0) (np := 29) (as := [x_r ((h 61 1) + 5), iv_c v5, iv_c 2147483651, iv_c v626]) (rest := []) (lo1 := [x_r ((h 61 1) + 5), iv_c v5, iv_c 2147483651, iv_c v626, 147573952589676412928]) (by decide +kernel) (by decide) (by decide +kernel) (x_rb_of (tr_5_7 t1)) rfl rfl (x_wr (tn_5 t1) (x_wi l6 (x_wi (by decide) (x_wi l627 x_wn)))) x_wn (by decide) rfl (c69_T5_c3 j631 t1 (by first | decide | omega)  (by first | decide | omega)) (fun h646 q645 => ?_)
              obtain ⟨j647, f648⟩ := q645
              have f651 := Fr.trans f638 f648 (by decide)
              refine x_const (np := 30) (x := 9223372043297226753) (a := 2147483649) (by decide +kernel) (by decide) (by decide) ?_
              refine x_retI (np := 31) (x := 0) (by decide +kernel) (by decide) (Or.inr ⟨by decide +kernel, by first | decide | omega, by first | decide | omega⟩) ⟨_, rfl, (by decide), ?_⟩
              refine x_ifz (k := 0) (tg := 176) (np := 172) (by decide +kernel) (by decide) (by decide) (fun q652 => ?_) (fun q653 => ?_)
              · have q652 : 2147483649 = 2147483648 := q652
                exfalso; omega
              have q653 : ¬ (2147483649 = 2147483648) := q653
              refine x_const (np := 173) (x := 9223372043297226753) (a := 2147483649) (by decide +kernel) (by decide) (by decide) ?_
              refine x_goto (np := 176) (x := 177) (by decide +kernel) ?_
              have e654 : rv h 0 = (h (h 61 1) 7) := (congrArg (fun z => svq h z 0) rfl).trans rfl
              have q655 : h646 61 1 = h630 61 1 := f648 61 1 (by decide +kernel)
              have q656 : h630 61 1 = h436 61 1 := f632 61 1 (by decide +kernel)
              have q657 : h436 61 1 = h422 61 1 := f438 61 1 (by decide +kernel)
              have q658 : h422 61 1 = h406 61 1 := f424 61 1 (by decide +kernel)
              have q659 : h406 61 1 = h259 61 1 := f408 61 1 (by decide +kernel)
              have q660 : h259 61 1 = h136 61 1 := f261 61 1 (by decide +kernel)
              have q661 : h136 61 1 = h116 61 1 := f138 61 1 (by decide +kernel)
              have q662 : h116 61 1 = h102 61 1 := f118 61 1 (by decide +kernel)
              have q663 : h102 61 1 = h86 61 1 := f104 61 1 (by decide +kernel)
              have q664 : h86 61 1 = h56 61 1 := f88 61 1 (by decide +kernel)
              have q665 : h56 61 1 = h35 61 1 := f58 61 1 (by decide +kernel)
              have q666 : h35 61 1 = h8 61 1 := f37 61 1 (by decide +kernel)
              have q667 : h8 61 1 = h 61 1 := f10 61 1 (by decide +kernel)
              have q668 : h646 (h 61 1) 7 = h630 (h 61 1) 7 := jK 0 f648 (rg_T0_7_0_1 t1) (by first | decide | omega) (by first | decide | omega) (by decide)
              have q669 : h630 (h 61 1) 7 = h436 (h 61 1) 7 := jK 0 f632 (rg_T0_7_0_1 t1) (by first | decide | omega) (by first | decide | omega) (by decide)
              have q670 : h436 (h 61 1) 7 = h422 (h 61 1) 7 := jK 0 f438 (rg_T0_7_0_1 t1) (by first | decide | omega) (by first | decide | omega) (by decide)
              have q671 : h422 (h 61 1) 7 = h406 (h 61 1) 7 := jK 0 f424 (rg_T0_7_0_1 t1) (by first | decide | omega) (by first | decide | omega) (by decide)
              have q672 : h406 (h 61 1) 7 = h259 (h 61 1) 7 := jK 0 f408 (rg_T0_7_0_1 t1) (by first | decide | omega) (by first | decide | omega) (by decide)
              have q673 : h259 (h 61 1) 7 = h136 (h 61 1) 7 := jK 0 f261 (rg_T0_7_0_1 t1) (by first | decide | omega) (by first | decide | omega) (by decide)
              have q674 : h136 (h 61 1) 7 = h116 (h 61 1) 7 := jK 0 f138 (rg_T0_7_0_1 t1) (by first | decide | omega) (by first | decide | omega) (by decide)
              have q675 : h116 (h 61 1) 7 = h102 (h 61 1) 7 := jK 0 f118 (rg_T0_7_0_1 t1) (by first | decide | omega) (by first | decide | omega) (by decide)
              have q676 : h102 (h 61 1) 7 = h86 (h 61 1) 7 := jK 0 f104 (rg_T0_7_0_1 t1) (by first | decide | omega) (by first | decide | omega) (by decide)
              have q677 : h86 (h 61 1) 7 = h56 (h 61 1) 7 := jK 0 f88 (rg_T0_7_0_1 t1) (by first | decide | omega) (by first | decide | omega) (by decide)
              have q678 : h56 (h 61 1) 7 = h35 (h 61 1) 7 := jK 0 f58 (rg_T0_7_0_1 t1) (by first | decide | omega) (by first | decide | omega) (by decide)
              have q679 : h35 (h 61 1) 7 = h8 (h 61 1) 7 := jK 0 f37 (rg_T0_7_0_1 t1) (by first | decide | omega) (by first | decide | omega) (by decide)
              have e680 : rv h646 0 = (h8 (h 61 1) 7) := (congrArg (fun z => svq h646 z 0) ((((((((((((q655.trans q656).trans q657).trans q658).trans q659).trans q660).trans q661).trans q662).trans q663).trans q664).trans q665).trans q666).trans q667)).trans (((((((((((q668.trans q669).trans q670).trans q671).trans q672).trans q673).trans q674).trans q675).trans q676).trans q677).trans q678).trans q679)
              have e681 : rv h 1 = (h (h 61 1) 8) := (congrArg (fun z => svq h z 1) rfl).trans rfl
              have q682 : h646 61 1 = h630 61 1 := f648 61 1 (by decide +kernel)
              have q683 : h630 61 1 = h436 61 1 := f632 61 1 (by decide +kernel)
              have q684 : h436 61 1 = h422 61 1 := f438 61 1 (by decide +kernel)
              have q685 : h422 61 1 = h406 61 1 := f424 61 1 (by decide +kernel)
              have q686 : h406 61 1 = h259 61 1 := f408 61 1 (by decide +kernel)
              have q687 : h259 61 1 = h136 61 1 := f261 61 1 (by decide +kernel)
              have q688 : h136 61 1 = h116 61 1 := f138 61 1 (by decide +kernel)
              have q689 : h116 61 1 = h102 61 1 := f118 61 1 (by decide +kernel)
              have q690 : h102 61 1 = h86 61 1 := f104 61 1 (by decide +kernel)
              have q691 : h86 61 1 = h56 61 1 := f88 61 1 (by decide +kernel)
              have q692 : h56 61 1 = h35 61 1 := f58 61 1 (by decide +kernel)
              have q693 : h35 61 1 = h8 61 1 := f37 61 1 (by decide +kernel)
              have q694 : h8 61 1 = h 61 1 := f10 61 1 (by decide +kernel)
              have q695 : h646 (h 61 1) 8 = h630 (h 61 1) 8 := jK 0 f648 (rg_T0_8_0_1 t1) (by first | decide | omega) (by first | decide | omega) (by decide)
              have q696 : h630 (h 61 1) 8 = h436 (h 61 1) 8 := jK 0 f632 (rg_T0_8_0_1 t1) (by first | decide | omega) (by first | decide | omega) (by decide)
              have q697 : h436 (h 61 1) 8 = h422 (h 61 1) 8 := jK 0 f438 (rg_T0_8_0_1 t1) (by first | decide | omega) (by first | decide | omega) (by decide)
              have q698 : h422 (h 61 1) 8 = h406 (h 61 1) 8 := jK 0 f424 (rg_T0_8_0_1 t1) (by first | decide | omega) (by first | decide | omega) (by decide)
              have q699 : h406 (h 61 1) 8 = h259 (h 61 1) 8 := jK 0 f408 (rg_T0_8_0_1 t1) (by first | decide | omega) (by first | decide | omega) (by decide)
              have q700 : h259 (h 61 1) 8 = h136 (h 61 1) 8 := jK 0 f261 (rg_T0_8_0_1 t1) (by first | decide | omega) (by first | decide | omega) (by decide)
              have q701 : h136 (h 61 1) 8 = h116 (h 61 1) 8 := jK 0 f138 (rg_T0_8_0_1 t1) (by first | decide | omega) (by first | decide | omega) (by decide)
              have q702 : h116 (h 61 1) 8 = h102 (h 61 1) 8 := jK 0 f118 (rg_T0_8_0_1 t1) (by first | decide | omega) (by first | decide | omega) (by decide)
              have q703 : h102 (h 61 1) 8 = h86 (h 61 1) 8 := jK 0 f104 (rg_T0_8_0_1 t1) (by first | decide | omega) (by first | decide | omega) (by decide)
              have q704 : h86 (h 61 1) 8 = h56 (h 61 1) 8 := jK 0 f88 (rg_T0_8_0_1 t1) (by first | decide | omega) (by first | decide | omega) (by decide)
              have q705 : h56 (h 61 1) 8 = h35 (h 61 1) 8 := jK 0 f58 (rg_T0_8_0_1 t1) (by first | decide | omega) (by first | decide | omega) (by decide)
              have q706 : h35 (h 61 1) 8 = h8 (h 61 1) 8 := jK 0 f37 (rg_T0_8_0_1 t1) (by first | decide | omega) (by first | decide | omega) (by decide)
              have e707 : rv h646 1 = (h8 (h 61 1) 8) := (congrArg (fun z => svq h646 z 1) ((((((((((((q682.trans q683).trans q684).trans q685).trans q686).trans q687).trans q688).trans q689).trans q690).trans q691).trans q692).trans q693).trans q694)).trans (((((((((((q695.trans q696).trans q697).trans q698).trans q699).trans q700).trans q701).trans q702).trans q703).trans q704).trans q705).trans q706)
              have e708 : rv h 2 = (h ((h 61 1) + 1) 2) := (congrArg (fun z => svq h z 2) rfl).trans rfl
              have q709 : h646 61 1 = h630 61 1 := f648 61 1 (by decide +kernel)
              have q710 : h630 61 1 = h436 61 1 := f632 61 1 (by decide +kernel)
              have q711 : h436 61 1 = h422 61 1 := f438 61 1 (by decide +kernel)
              have q712 : h422 61 1 = h406 61 1 := f424 61 1 (by decide +kernel)
              have q713 : h406 61 1 = h259 61 1 := f408 61 1 (by decide +kernel)
              have q714 : h259 61 1 = h136 61 1 := f261 61 1 (by decide +kernel)
              have q715 : h136 61 1 = h116 61 1 := f138 61 1 (by decide +kernel)
              have q716 : h116 61 1 = h102 61 1 := f118 61 1 (by decide +kernel)
              have q717 : h102 61 1 = h86 61 1 := f104 61 1 (by decide +kernel)
              have q718 : h86 61 1 = h56 61 1 := f88 61 1 (by decide +kernel)
              have q719 : h56 61 1 = h35 61 1 := f58 61 1 (by decide +kernel)
              have q720 : h35 61 1 = h8 61 1 := f37 61 1 (by decide +kernel)
              have q721 : h8 61 1 = h 61 1 := f10 61 1 (by decide +kernel)
              have q722 : h646 ((h 61 1) + 1) 2 = h630 ((h 61 1) + 1) 2 := jK 0 f648 (rg_T1_2_0_1 t1) (by first | decide | omega) (by first | decide | omega) (by decide)
              have q723 : h630 ((h 61 1) + 1) 2 = h436 ((h 61 1) + 1) 2 := jK 0 f632 (rg_T1_2_0_1 t1) (by first | decide | omega) (by first | decide | omega) (by decide)
              have q724 : h436 ((h 61 1) + 1) 2 = h422 ((h 61 1) + 1) 2 := jK 0 f438 (rg_T1_2_0_1 t1) (by first | decide | omega) (by first | decide | omega) (by decide)
              have q725 : h422 ((h 61 1) + 1) 2 = h406 ((h 61 1) + 1) 2 := jK 0 f424 (rg_T1_2_0_1 t1) (by first | decide | omega) (by first | decide | omega) (by decide)
              have q726 : h406 ((h 61 1) + 1) 2 = h259 ((h 61 1) + 1) 2 := jK 0 f408 (rg_T1_2_0_1 t1) (by first | decide | omega) (by first | decide | omega) (by decide)
              have q727 : h259 ((h 61 1) + 1) 2 = h136 ((h 61 1) + 1) 2 := jK 0 f261 (rg_T1_2_0_1 t1) (by first | decide | omega) (by first | decide | omega) (by decide)
              have q728 : h136 ((h 61 1) + 1) 2 = h116 ((h 61 1) + 1) 2 := jK 0 f138 (rg_T1_2_0_1 t1) (by first | decide | omega) (by first | decide | omega) (by decide)
              have q729 : h116 ((h 61 1) + 1) 2 = h102 ((h 61 1) + 1) 2 := jK 0 f118 (rg_T1_2_0_1 t1) (by first | decide | omega) (by first | decide | omega) (by decide)
              have q730 : h102 ((h 61 1) + 1) 2 = h86 ((h 61 1) + 1) 2 := jK 0 f104 (rg_T1_2_0_1 t1) (by first | decide | omega) (by first | decide | omega) (by decide)
              have q731 : h86 ((h 61 1) + 1) 2 = h56 ((h 61 1) + 1) 2 := jK 0 f88 (rg_T1_2_0_1 t1) (by first | decide | omega) (by first | decide | omega) (by decide)
              have q732 : h56 ((h 61 1) + 1) 2 = h35 ((h 61 1) + 1) 2 := jK 0 f58 (rg_T1_2_0_1 t1) (by first | decide | omega) (by first | decide | omega) (by decide)
              have q733 : h35 ((h 61 1) + 1) 2 = h8 ((h 61 1) + 1) 2 := jK 0 f37 (rg_T1_2_0_1 t1) (by first | decide | omega) (by first | decide | omega) (by decide)
              have e734 : rv h646 2 = (h8 ((h 61 1) + 1) 2) := (congrArg (fun z => svq h646 z 2) ((((((((((((q709.trans q710).trans q711).trans q712).trans q713).trans q714).trans q715).trans q716).trans q717).trans q718).trans q719).trans q720).trans q721)).trans (((((((((((q722.trans q723).trans q724).trans q725).trans q726).trans q727).trans q728).trans q729).trans q730).trans q731).trans q732).trans q733)
              have e735 : rv h 3 = (h ((h 61 1) + 3) 2) := (congrArg (fun z => svq h z 3) rfl).trans rfl
              have q736 : h646 61 1 = h630 61 1 := f648 61 1 (by decide +kernel)
              have q737 : h630 61 1 = h436 61 1 := f632 61 1 (by decide +kernel)
              have q738 : h436 61 1 = h422 61 1 := f438 61 1 (by decide +kernel)
              have q739 : h422 61 1 = h406 61 1 := f424 61 1 (by decide +kernel)
              have q740 : h406 61 1 = h259 61 1 := f408 61 1 (by decide +kernel)
              have q741 : h259 61 1 = h136 61 1 := f261 61 1 (by decide +kernel)
              have q742 : h136 61 1 = h116 61 1 := f138 61 1 (by decide +kernel)
              have q743 : h116 61 1 = h102 61 1 := f118 61 1 (by decide +kernel)
              have q744 : h102 61 1 = h86 61 1 := f104 61 1 (by decide +kernel)
              have q745 : h86 61 1 = h56 61 1 := f88 61 1 (by decide +kernel)
              have q746 : h56 61 1 = h35 61 1 := f58 61 1 (by decide +kernel)
              have q747 : h35 61 1 = h8 61 1 := f37 61 1 (by decide +kernel)
              have q748 : h8 61 1 = h 61 1 := f10 61 1 (by decide +kernel)
              have q749 : h646 ((h 61 1) + 3) 2 = h630 ((h 61 1) + 3) 2 := jK 0 f648 (rg_T3_2_0_1 t1) (by first | decide | omega) (by first | decide | omega) (by decide)
              have q750 : h630 ((h 61 1) + 3) 2 = h436 ((h 61 1) + 3) 2 := jK 0 f632 (rg_T3_2_0_1 t1) (by first | decide | omega) (by first | decide | omega) (by decide)
              have q751 : h436 ((h 61 1) + 3) 2 = h422 ((h 61 1) + 3) 2 := jK 0 f438 (rg_T3_2_0_1 t1) (by first | decide | omega) (by first | decide | omega) (by decide)
              have q752 : h422 ((h 61 1) + 3) 2 = h406 ((h 61 1) + 3) 2 := jK 0 f424 (rg_T3_2_0_1 t1) (by first | decide | omega) (by first | decide | omega) (by decide)
              have q753 : h406 ((h 61 1) + 3) 2 = h259 ((h 61 1) + 3) 2 := jK 0 f408 (rg_T3_2_0_1 t1) (by first | decide | omega) (by first | decide | omega) (by decide)
              have q754 : h259 ((h 61 1) + 3) 2 = h136 ((h 61 1) + 3) 2 := jK 0 f261 (rg_T3_2_0_1 t1) (by first | decide | omega) (by first | decide | omega) (by decide)
              have q755 : h136 ((h 61 1) + 3) 2 = h116 ((h 61 1) + 3) 2 := jK 0 f138 (rg_T3_2_0_1 t1) (by first | decide | omega) (by first | decide | omega) (by decide)
              have q756 : h116 ((h 61 1) + 3) 2 = h102 ((h 61 1) + 3) 2 := jK 0 f118 (rg_T3_2_0_1 t1) (by first | decide | omega) (by first | decide | omega) (by decide)
              have q757 : h102 ((h 61 1) + 3) 2 = h86 ((h 61 1) + 3) 2 := jK 0 f104 (rg_T3_2_0_1 t1) (by first | decide | omega) (by first | decide | omega) (by decide)
              have q758 : h86 ((h 61 1) + 3) 2 = h56 ((h 61 1) + 3) 2 := jK 0 f88 (rg_T3_2_0_1 t1) (by first | decide | omega) (by first | decide | omega) (by decide)
              have q759 : h56 ((h 61 1) + 3) 2 = h35 ((h 61 1) + 3) 2 := jK 0 f58 (rg_T3_2_0_1 t1) (by first | decide | omega) (by first | decide | omega) (by decide)
              have q760 : h35 ((h 61 1) + 3) 2 = h8 ((h 61 1) + 3) 2 := jK 0 f37 (rg_T3_2_0_1 t1) (by first | decide | omega) (by first | decide | omega) (by decide)
              have e761 : rv h646 3 = (h8 ((h 61 1) + 3) 2) := (congrArg (fun z => svq h646 z 3) ((((((((((((q736.trans q737).trans q738).trans q739).trans q740).trans q741).trans q742).trans q743).trans q744).trans q745).trans q746).trans q747).trans q748)).trans (((((((((((q749.trans q750).trans q751).trans q752).trans q753).trans q754).trans q755).trans q756).trans q757).trans q758).trans q759).trans q760)
              have q762 : h646 61 1 = h630 61 1 := f648 61 1 (by decide +kernel)
              have q763 : h630 61 1 = h436 61 1 := f632 61 1 (by decide +kernel)
              have q764 : h436 61 1 = h422 61 1 := f438 61 1 (by decide +kernel)
              have q765 : h422 61 1 = h406 61 1 := f424 61 1 (by decide +kernel)
              have q766 : h406 61 1 = h259 61 1 := f408 61 1 (by decide +kernel)
              have q767 : h259 61 1 = h136 61 1 := f261 61 1 (by decide +kernel)
              have q768 : h136 61 1 = h116 61 1 := f138 61 1 (by decide +kernel)
              have q769 : h116 61 1 = h102 61 1 := f118 61 1 (by decide +kernel)
              have q770 : h102 61 1 = h86 61 1 := f104 61 1 (by decide +kernel)
              have q771 : h86 61 1 = h56 61 1 := f88 61 1 (by decide +kernel)
              have q772 : h56 61 1 = h35 61 1 := f58 61 1 (by decide +kernel)
              have q773 : h35 61 1 = h8 61 1 := f37 61 1 (by decide +kernel)
              have q774 : h8 61 1 = h 61 1 := f10 61 1 (by decide +kernel)
              have q775 : h646 ((h 61 1) + 5) 2 = h630 ((h 61 1) + 5) 2 := jK 0 f648 (rg_T5_2_0_1 t1) (by first | decide | omega) (by first | decide | omega) (by decide)
              have q776 : h630 ((h 61 1) + 5) 2 = h436 ((h 61 1) + 5) 2 := jK 0 f632 (rg_T5_2_0_1 t1) (by first | decide | omega) (by first | decide | omega) (by decide)
              have q777 : h436 ((h 61 1) + 5) 2 = h422 ((h 61 1) + 5) 2 := jK 0 f438 (rg_T5_2_0_1 t1) (by first | decide | omega) (by first | decide | omega) (by decide)
              have q778 : h422 ((h 61 1) + 5) 2 = h406 ((h 61 1) + 5) 2 := jK 0 f424 (rg_T5_2_0_1 t1) (by first | decide | omega) (by first | decide | omega) (by decide)
              have q779 : h406 ((h 61 1) + 5) 2 = h259 ((h 61 1) + 5) 2 := jK 0 f408 (rg_T5_2_0_1 t1) (by first | decide | omega) (by first | decide | omega) (by decide)
              have q780 : h259 ((h 61 1) + 5) 2 = h136 ((h 61 1) + 5) 2 := jK 0 f261 (rg_T5_2_0_1 t1) (by first | decide | omega) (by first | decide | omega) (by decide)
              have q781 : h136 ((h 61 1) + 5) 2 = h116 ((h 61 1) + 5) 2 := jK 0 f138 (rg_T5_2_0_1 t1) (by first | decide | omega) (by first | decide | omega) (by decide)
              have q782 : h116 ((h 61 1) + 5) 2 = h102 ((h 61 1) + 5) 2 := jK 0 f118 (rg_T5_2_0_1 t1) (by first | decide | omega) (by first | decide | omega) (by decide)
              have q783 : h102 ((h 61 1) + 5) 2 = h86 ((h 61 1) + 5) 2 := jK 0 f104 (rg_T5_2_0_1 t1) (by first | decide | omega) (by first | decide | omega) (by decide)
              have q784 : h86 ((h 61 1) + 5) 2 = h56 ((h 61 1) + 5) 2 := jK 0 f88 (rg_T5_2_0_1 t1) (by first | decide | omega) (by first | decide | omega) (by decide)
              have q785 : h56 ((h 61 1) + 5) 2 = h35 ((h 61 1) + 5) 2 := jK 0 f58 (rg_T5_2_0_1 t1) (by first | decide | omega) (by first | decide | omega) (by decide)
              have q786 : h35 ((h 61 1) + 5) 2 = h8 ((h 61 1) + 5) 2 := jK 0 f37 (rg_T5_2_0_1 t1) (by first | decide | omega) (by first | decide | omega) (by decide)
              have e787 : rv h646 4 = (h8 ((h 61 1) + 5) 2) := (congrArg (fun z => svq h646 z 4) ((((((((((((q762.trans q763).trans q764).trans q765).trans q766).trans q767).trans q768).trans q769).trans q770).trans q771).trans q772).trans q773).trans q774)).trans (((((((((((q775.trans q776).trans q777).trans q778).trans q779).trans q780).trans q781).trans q782).trans q783).trans q784).trans q785).trans q786)
              have e788 : rv h 5 = (h ((h 61 1) + 7) 2) := (congrArg (fun z => svq h z 5) rfl).trans rfl
              have q789 : h646 61 1 = h630 61 1 := f648 61 1 (by decide +kernel)
              have q790 : h630 61 1 = h436 61 1 := f632 61 1 (by decide +kernel)
              have q791 : h436 61 1 = h422 61 1 := f438 61 1 (by decide +kernel)
              have q792 : h422 61 1 = h406 61 1 := f424 61 1 (by decide +kernel)
              have q793 : h406 61 1 = h259 61 1 := f408 61 1 (by decide +kernel)
              have q794 : h259 61 1 = h136 61 1 := f261 61 1 (by decide +kernel)
              have q795 : h136 61 1 = h116 61 1 := f138 61 1 (by decide +kernel)
              have q796 : h116 61 1 = h102 61 1 := f118 61 1 (by decide +kernel)
              have q797 : h102 61 1 = h86 61 1 := f104 61 1 (by decide +kernel)
              have q798 : h86 61 1 = h56 61 1 := f88 61 1 (by decide +kernel)
              have q799 : h56 61 1 = h35 61 1 := f58 61 1 (by decide +kernel)
              have q800 : h35 61 1 = h8 61 1 := f37 61 1 (by decide +kernel)
              have q801 : h8 61 1 = h 61 1 := f10 61 1 (by decide +kernel)
              have q802 : h646 ((h 61 1) + 7) 2 = h630 ((h 61 1) + 7) 2 := jK 0 f648 (rg_T7_2_0_1 t1) (by first | decide | omega) (by first | decide | omega) (by decide)
              have q803 : h630 ((h 61 1) + 7) 2 = h436 ((h 61 1) + 7) 2 := jK 0 f632 (rg_T7_2_0_1 t1) (by first | decide | omega) (by first | decide | omega) (by decide)
              have q804 : h436 ((h 61 1) + 7) 2 = h422 ((h 61 1) + 7) 2 := jK 0 f438 (rg_T7_2_0_1 t1) (by first | decide | omega) (by first | decide | omega) (by decide)
              have q805 : h422 ((h 61 1) + 7) 2 = h406 ((h 61 1) + 7) 2 := jK 0 f424 (rg_T7_2_0_1 t1) (by first | decide | omega) (by first | decide | omega) (by decide)
              have q806 : h406 ((h 61 1) + 7) 2 = h259 ((h 61 1) + 7) 2 := jK 0 f408 (rg_T7_2_0_1 t1) (by first | decide | omega) (by first | decide | omega) (by decide)
              have q807 : h259 ((h 61 1) + 7) 2 = h136 ((h 61 1) + 7) 2 := jK 0 f261 (rg_T7_2_0_1 t1) (by first | decide | omega) (by first | decide | omega) (by decide)
              have q808 : h136 ((h 61 1) + 7) 2 = h116 ((h 61 1) + 7) 2 := jK 0 f138 (rg_T7_2_0_1 t1) (by first | decide | omega) (by first | decide | omega) (by decide)
              have q809 : h116 ((h 61 1) + 7) 2 = h102 ((h 61 1) + 7) 2 := jK 0 f118 (rg_T7_2_0_1 t1) (by first | decide | omega) (by first | decide | omega) (by decide)
              have q810 : h102 ((h 61 1) + 7) 2 = h86 ((h 61 1) + 7) 2 := jK 0 f104 (rg_T7_2_0_1 t1) (by first | decide | omega) (by first | decide | omega) (by decide)
              have q811 : h86 ((h 61 1) + 7) 2 = h56 ((h 61 1) + 7) 2 := jK 0 f88 (rg_T7_2_0_1 t1) (by first | decide | omega) (by first | decide | omega) (by decide)
              have q812 : h56 ((h 61 1) + 7) 2 = h35 ((h 61 1) + 7) 2 := jK 0 f58 (rg_T7_2_0_1 t1) (by first | decide | omega) (by first | decide | omega) (by decide)
              have q813 : h35 ((h 61 1) + 7) 2 = h8 ((h 61 1) + 7) 2 := jK 0 f37 (rg_T7_2_0_1 t1) (by first | decide | omega) (by first | decide | omega) (by decide)
              have e814 : rv h646 5 = (h8 ((h 61 1) + 7) 2) := (congrArg (fun z => svq h646 z 5) ((((((((((((q789.trans q790).trans q791).trans q792).trans q793).trans q794).trans q795).trans q796).trans q797).trans q798).trans q799).trans q800).trans q801)).trans (((((((((((q802.trans q803).trans q804).trans q805).trans q806).trans q807).trans q808).trans q809).trans q810).trans q811).trans q812).trans q813)
              have q815 : h8 1 2 = h 1 2 := jK 0 f10 rg_1_2_0_1 (by first | decide | omega) (by first | decide | omega) (by decide)
              obtain ⟨w816, e817⟩ := Tk.no c41 (by first | decide | omega)
              obtain ⟨w818, e819⟩ := Tk.yes c62 (by first | decide | omega)
              have q820 : h102 1 2 = h86 1 2 := jK 0 f104 rg_1_2_0_1 (by first | decide | omega) (by first | decide | omega) (by decide)
              obtain ⟨w821, e822⟩ := Tk.yes c122 (by first | decide | omega)
              obtain ⟨w823, e824⟩ := Tk.yes c265 (by first | decide | omega)
              have q825 : h422 1 2 = h406 1 2 := jK 0 f424 rg_1_2_0_1 (by first | decide | omega) (by first | decide | omega) (by decide)
              obtain ⟨w826, e827⟩ := Tk.yes c442 (by first | decide | omega)
              have q828 : h646 1 2 = h630 1 2 := jK 0 f648 rg_1_2_0_1 (by first | decide | omega) (by first | decide | omega) (by decide)
              have m829 : Ot (h 61 1) h h8 := Ot.trans Ot.refl (c19)
              have m830 : Ot (h 61 1) h h35 := Ot.fr m829 f37 (by decide)
              have m831 : Ot (h 61 1) h h56 := Ot.fr m830 f58 (by decide)
              have m832 : Ot (h 61 1) h h86 := Ot.fr m831 f88 (by decide)
              have m833 : Ot (h 61 1) h h102 := Ot.fr m832 f104 (by decide)
              have m834 : Ot (h 61 1) h h116 := Ot.fr m833 f118 (by decide)
              have m835 : Ot (h 61 1) h h136 := Ot.fr m834 f138 (by decide)
              have m836 : Ot (h 61 1) h h259 := Ot.fr m835 f261 (by decide)
              have m837 : Ot (h 61 1) h h406 := Ot.fr m836 f408 (by decide)
              have m838 : Ot (h 61 1) h h422 := Ot.fr m837 f424 (by decide)
              have m839 : Ot (h 61 1) h h436 := Ot.fr m838 f438 (by decide)
              have m840 : Ot (h 61 1) h h630 := Ot.fr m839 f632 (by decide)
              have m841 : Ot (h 61 1) h h646 := Ot.fr m840 f648 (by decide)
              refine x_retI (np := 178) (x := 0) (by decide +kernel) (by decide) (Or.inr ⟨by decide +kernel, by first | decide | omega, by first | decide | omega⟩) ⟨_, rfl, (by decide), ?_⟩
              exact ⟨j647, f651, (by first | decide | omega), (by first | decide | omega), (by first | decide | omega), (by first | decide | omega), (by first | decide | omega), (fun z => by first | decide | omega), (by first | decide | omega), (or9.f w816 (show h8 1 2 = h 1 2 by first | decide | omega) (show h35 1 2 = h 1 2 by first | decide | omega) (wd9.y w818 rfl e819 rfl (nm9.y c93 (by first | decide | omega) (by first | decide | omega) rfl (by first | decide | omega) rfl (wd9.y w821 (show h102 1 2 = h86 1 2 by first | decide | omega) e822 rfl (nm9.y c143 (by first | decide | omega) (by first | decide | omega) rfl (by first | decide | omega) rfl (wd9.y w823 rfl e824 rfl (nm9.y c413 (by first | decide | omega) (by first | decide | omega) rfl (by first | decide | omega) rfl (wd9.y w826 (show h422 1 2 = h406 1 2 by first | decide | omega) e827 rfl (nm9.y c637 (by first | decide | omega) (by first | decide | omega) rfl (by first | decide | omega) rfl (fin9.mk (by first | decide | omega) (show h630 1 2 = h646 1 2 by first | decide | omega))))))))))), m841⟩
            have q641 : ¬ (v626 ≠ 2147483647) := q641
            have b842 := c636 (by first | decide | omega)
            refine x_const (np := 20) (x := 9223372039002259456) (a := 2147483648) (by decide +kernel) (by decide) (by decide) ?_
            refine x_retI (np := 21) (x := 0) (by decide +kernel) (by decide) (Or.inr ⟨by decide +kernel, by first | decide | omega, by first | decide | omega⟩) ⟨_, rfl, (by decide), ?_⟩
            refine x_ifz (k := 0) (tg := 176) (np := 172) (by decide +kernel) (by decide) (by decide) (fun q843 => ?_) (fun q844 => ?_)
            · have q843 : 2147483648 = 2147483648 := q843
              refine x_const (np := 177) (x := 9223372039002259456) (a := 2147483648) (by decide +kernel) (by decide) (by decide) ?_
              have e845 : rv h 0 = (h (h 61 1) 7) := (congrArg (fun z => svq h z 0) rfl).trans rfl
              have q846 : h630 61 1 = h436 61 1 := f632 61 1 (by decide +kernel)
              have q847 : h436 61 1 = h422 61 1 := f438 61 1 (by decide +kernel)
              have q848 : h422 61 1 = h406 61 1 := f424 61 1 (by decide +kernel)
              have q849 : h406 61 1 = h259 61 1 := f408 61 1 (by decide +kernel)
              have q850 : h259 61 1 = h136 61 1 := f261 61 1 (by decide +kernel)
              have q851 : h136 61 1 = h116 61 1 := f138 61 1 (by decide +kernel)
              have q852 : h116 61 1 = h102 61 1 := f118 61 1 (by decide +kernel)
              have q853 : h102 61 1 = h86 61 1 := f104 61 1 (by decide +kernel)
              have q854 : h86 61 1 = h56 61 1 := f88 61 1 (by decide +kernel)
              have q855 : h56 61 1 = h35 61 1 := f58 61 1 (by decide +kernel)
              have q856 : h35 61 1 = h8 61 1 := f37 61 1 (by decide +kernel)
              have q857 : h8 61 1 = h 61 1 := f10 61 1 (by decide +kernel)
              have q858 : h630 (h 61 1) 7 = h436 (h 61 1) 7 := jK 0 f632 (rg_T0_7_0_1 t1) (by first | decide | omega) (by first | decide | omega) (by decide)
              have q859 : h436 (h 61 1) 7 = h422 (h 61 1) 7 := jK 0 f438 (rg_T0_7_0_1 t1) (by first | decide | omega) (by first | decide | omega) (by decide)
              have q860 : h422 (h 61 1) 7 = h406 (h 61 1) 7 := jK 0 f424 (rg_T0_7_0_1 t1) (by first | decide | omega) (by first | decide | omega) (by decide)
              have q861 : h406 (h 61 1) 7 = h259 (h 61 1) 7 := jK 0 f408 (rg_T0_7_0_1 t1) (by first | decide | omega) (by first | decide | omega) (by decide)
              have q862 : h259 (h 61 1) 7 = h136 (h 61 1) 7 := jK 0 f261 (rg_T0_7_0_1 t1) (by first | decide | omega) (by first | decide | omega) (by decide)
              have q863 : h136 (h 61 1) 7 = h116 (h 61 1) 7 := jK 0 f138 (rg_T0_7_0_1 t1) (by first | decide | omega) (by first | decide | omega) (by decide)
              have q864 : h116 (h 61 1) 7 = h102 (h 61 1) 7 := jK 0 f118 (rg_T0_7_0_1 t1) (by first | decide | omega) (by first | decide | omega) (by decide)
              have q865 : h102 (h 61 1) 7 = h86 (h 61 1) 7 := jK 0 f104 (rg_T0_7_0_1 t1) (by first | decide | omega) (by first | decide | omega) (by decide)
              have q866 : h86 (h 61 1) 7 = h56 (h 61 1) 7 := jK 0 f88 (rg_T0_7_0_1 t1) (by first | decide | omega) (by first | decide | omega) (by decide)
              have q867 : h56 (h 61 1) 7 = h35 (h 61 1) 7 := jK 0 f58 (rg_T0_7_0_1 t1) (by first | decide | omega) (by first | decide | omega) (by decide)
              have q868 : h35 (h 61 1) 7 = h8 (h 61 1) 7 := jK 0 f37 (rg_T0_7_0_1 t1) (by first | decide | omega) (by first | decide | omega) (by decide)
              have e869 : rv h630 0 = (h8 (h 61 1) 7) := (congrArg (fun z => svq h630 z 0) (((((((((((q846.trans q847).trans q848).trans q849).trans q850).trans q851).trans q852).trans q853).trans q854).trans q855).trans q856).trans q857)).trans ((((((((((q858.trans q859).trans q860).trans q861).trans q862).trans q863).trans q864).trans q865).trans q866).trans q867).trans q868)
              have e870 : rv h 1 = (h (h 61 1) 8) := (congrArg (fun z => svq h z 1) rfl).trans rfl
              have q871 : h630 61 1 = h436 61 1 := f632 61 1 (by decide +kernel)
              have q872 : h436 61 1 = h422 61 1 := f438 61 1 (by decide +kernel)
              have q873 : h422 61 1 = h406 61 1 := f424 61 1 (by decide +kernel)
              have q874 : h406 61 1 = h259 61 1 := f408 61 1 (by decide +kernel)
              have q875 : h259 61 1 = h136 61 1 := f261 61 1 (by decide +kernel)
              have q876 : h136 61 1 = h116 61 1 := f138 61 1 (by decide +kernel)
              have q877 : h116 61 1 = h102 61 1 := f118 61 1 (by decide +kernel)
              have q878 : h102 61 1 = h86 61 1 := f104 61 1 (by decide +kernel)
              have q879 : h86 61 1 = h56 61 1 := f88 61 1 (by decide +kernel)
              have q880 : h56 61 1 = h35 61 1 := f58 61 1 (by decide +kernel)
              have q881 : h35 61 1 = h8 61 1 := f37 61 1 (by decide +kernel)
              have q882 : h8 61 1 = h 61 1 := f10 61 1 (by decide +kernel)
              have q883 : h630 (h 61 1) 8 = h436 (h 61 1) 8 := jK 0 f632 (rg_T0_8_0_1 t1) (by first | decide | omega) (by first | decide | omega) (by decide)
              have q884 : h436 (h 61 1) 8 = h422 (h 61 1) 8 := jK 0 f438 (rg_T0_8_0_1 t1) (by first | decide | omega) (by first | decide | omega) (by decide)
              have q885 : h422 (h 61 1) 8 = h406 (h 61 1) 8 := jK 0 f424 (rg_T0_8_0_1 t1) (by first | decide | omega) (by first | decide | omega) (by decide)
              have q886 : h406 (h 61 1) 8 = h259 (h 61 1) 8 := jK 0 f408 (rg_T0_8_0_1 t1) (by first | decide | omega) (by first | decide | omega) (by decide)
              have q887 : h259 (h 61 1) 8 = h136 (h 61 1) 8 := jK 0 f261 (rg_T0_8_0_1 t1) (by first | decide | omega) (by first | decide | omega) (by decide)
              have q888 : h136 (h 61 1) 8 = h116 (h 61 1) 8 := jK 0 f138 (rg_T0_8_0_1 t1) (by first | decide | omega) (by first | decide | omega) (by decide)
              have q889 : h116 (h 61 1) 8 = h102 (h 61 1) 8 := jK 0 f118 (rg_T0_8_0_1 t1) (by first | decide | omega) (by first | decide | omega) (by decide)
              have q890 : h102 (h 61 1) 8 = h86 (h 61 1) 8 := jK 0 f104 (rg_T0_8_0_1 t1) (by first | decide | omega) (by first | decide | omega) (by decide)
              have q891 : h86 (h 61 1) 8 = h56 (h 61 1) 8 := jK 0 f88 (rg_T0_8_0_1 t1) (by first | decide | omega) (by first | decide | omega) (by decide)
              have q892 : h56 (h 61 1) 8 = h35 (h 61 1) 8 := jK 0 f58 (rg_T0_8_0_1 t1) (by first | decide | omega) (by first | decide | omega) (by decide)
              have q893 : h35 (h 61 1) 8 = h8 (h 61 1) 8 := jK 0 f37 (rg_T0_8_0_1 t1) (by first | decide | omega) (by first | decide | omega) (by decide)
              have e894 : rv h630 1 = (h8 (h 61 1) 8) := (congrArg (fun z => svq h630 z 1) (((((((((((q871.trans q872).trans q873).trans q874).trans q875).trans q876).trans q877).trans q878).trans q879).trans q880).trans q881).trans q882)).trans ((((((((((q883.trans q884).trans q885).trans q886).trans q887).trans q888).trans q889).trans q890).trans q891).trans q892).trans q893)
              have e895 : rv h 2 = (h ((h 61 1) + 1) 2) := (congrArg (fun z => svq h z 2) rfl).trans rfl
              have q896 : h630 61 1 = h436 61 1 := f632 61 1 (by decide +kernel)
              have q897 : h436 61 1 = h422 61 1 := f438 61 1 (by decide +kernel)
              have q898 : h422 61 1 = h406 61 1 := f424 61 1 (by decide +kernel)
              have q899 : h406 61 1 = h259 61 1 := f408 61 1 (by decide +kernel)
              have q900 : h259 61 1 = h136 61 1 := f261 61 1 (by decide +kernel)
              have q901 : h136 61 1 = h116 61 1 := f138 61 1 (by decide +kernel)
              have q902 : h116 61 1 = h102 61 1 := f118 61 1 (by decide +kernel)
              have q903 : h102 61 1 = h86 61 1 := f104 61 1 (by decide +kernel)
              have q904 : h86 61 1 = h56 61 1 := f88 61 1 (by decide +kernel)
              have q905 : h56 61 1 = h35 61 1 := f58 61 1 (by decide +kernel)
              have q906 : h35 61 1 = h8 61 1 := f37 61 1 (by decide +kernel)
              have q907 : h8 61 1 = h 61 1 := f10 61 1 (by decide +kernel)
              have q908 : h630 ((h 61 1) + 1) 2 = h436 ((h 61 1) + 1) 2 := jK 0 f632 (rg_T1_2_0_1 t1) (by first | decide | omega) (by first | decide | omega) (by decide)
              have q909 : h436 ((h 61 1) + 1) 2 = h422 ((h 61 1) + 1) 2 := jK 0 f438 (rg_T1_2_0_1 t1) (by first | decide | omega) (by first | decide | omega) (by decide)
              have q910 : h422 ((h 61 1) + 1) 2 = h406 ((h 61 1) + 1) 2 := jK 0 f424 (rg_T1_2_0_1 t1) (by first | decide | omega) (by first | decide | omega) (by decide)
              have q911 : h406 ((h 61 1) + 1) 2 = h259 ((h 61 1) + 1) 2 := jK 0 f408 (rg_T1_2_0_1 t1) (by first | decide | omega) (by first | decide | omega) (by decide)
              have q912 : h259 ((h 61 1) + 1) 2 = h136 ((h 61 1) + 1) 2 := jK 0 f261 (rg_T1_2_0_1 t1) (by first | decide | omega) (by first | decide | omega) (by decide)
              have q913 : h136 ((h 61 1) + 1) 2 = h116 ((h 61 1) + 1) 2 := jK 0 f138 (rg_T1_2_0_1 t1) (by first | decide | omega) (by first | decide | omega) (by decide)
              have q914 : h116 ((h 61 1) + 1) 2 = h102 ((h 61 1) + 1) 2 := jK 0 f118 (rg_T1_2_0_1 t1) (by first | decide | omega) (by first | decide | omega) (by decide)
              have q915 : h102 ((h 61 1) + 1) 2 = h86 ((h 61 1) + 1) 2 := jK 0 f104 (rg_T1_2_0_1 t1) (by first | decide | omega) (by first | decide | omega) (by decide)
              have q916 : h86 ((h 61 1) + 1) 2 = h56 ((h 61 1) + 1) 2 := jK 0 f88 (rg_T1_2_0_1 t1) (by first | decide | omega) (by first | decide | omega) (by decide)
              have q917 : h56 ((h 61 1) + 1) 2 = h35 ((h 61 1) + 1) 2 := jK 0 f58 (rg_T1_2_0_1 t1) (by first | decide | omega) (by first | decide | omega) (by decide)
              have q918 : h35 ((h 61 1) + 1) 2 = h8 ((h 61 1) + 1) 2 := jK 0 f37 (rg_T1_2_0_1 t1) (by first | decide | omega) (by first | decide | omega) (by decide)
              have e919 : rv h630 2 = (h8 ((h 61 1) + 1) 2) := (congrArg (fun z => svq h630 z 2) (((((((((((q896.trans q897).trans q898).trans q899).trans q900).trans q901).trans q902).trans q903).trans q904).trans q905).trans q906).trans q907)).trans ((((((((((q908.trans q909).trans q910).trans q911).trans q912).trans q913).trans q914).trans q915).trans q916).trans q917).trans q918)
              have e920 : rv h 3 = (h ((h 61 1) + 3) 2) := (congrArg (fun z => svq h z 3) rfl).trans rfl
              have q921 : h630 61 1 = h436 61 1 := f632 61 1 (by decide +kernel)
              have q922 : h436 61 1 = h422 61 1 := f438 61 1 (by decide +kernel)
              have q923 : h422 61 1 = h406 61 1 := f424 61 1 (by decide +kernel)
              have q924 : h406 61 1 = h259 61 1 := f408 61 1 (by decide +kernel)
              have q925 : h259 61 1 = h136 61 1 := f261 61 1 (by decide +kernel)
              have q926 : h136 61 1 = h116 61 1 := f138 61 1 (by decide +kernel)
              have q927 : h116 61 1 = h102 61 1 := f118 61 1 (by decide +kernel)
              have q928 : h102 61 1 = h86 61 1 := f104 61 1 (by decide +kernel)
              have q929 : h86 61 1 = h56 61 1 := f88 61 1 (by decide +kernel)
              have q930 : h56 61 1 = h35 61 1 := f58 61 1 (by decide +kernel)
              have q931 : h35 61 1 = h8 61 1 := f37 61 1 (by decide +kernel)
              have q932 : h8 61 1 = h 61 1 := f10 61 1 (by decide +kernel)
              have q933 : h630 ((h 61 1) + 3) 2 = h436 ((h 61 1) + 3) 2 := jK 0 f632 (rg_T3_2_0_1 t1) (by first | decide | omega) (by first | decide | omega) (by decide)
              have q934 : h436 ((h 61 1) + 3) 2 = h422 ((h 61 1) + 3) 2 := jK 0 f438 (rg_T3_2_0_1 t1) (by first | decide | omega) (by first | decide | omega) (by decide)
              have q935 : h422 ((h 61 1) + 3) 2 = h406 ((h 61 1) + 3) 2 := jK 0 f424 (rg_T3_2_0_1 t1) (by first | decide | omega) (by first | decide | omega) (by decide)
              have q936 : h406 ((h 61 1) + 3) 2 = h259 ((h 61 1) + 3) 2 := jK 0 f408 (rg_T3_2_0_1 t1) (by first | decide | omega) (by first | decide | omega) (by decide)
              have q937 : h259 ((h 61 1) + 3) 2 = h136 ((h 61 1) + 3) 2 := jK 0 f261 (rg_T3_2_0_1 t1) (by first | decide | omega) (by first | decide | omega) (by decide)
              have q938 : h136 ((h 61 1) + 3) 2 = h116 ((h 61 1) + 3) 2 := jK 0 f138 (rg_T3_2_0_1 t1) (by first | decide | omega) (by first | decide | omega) (by decide)
              have q939 : h116 ((h 61 1) + 3) 2 = h102 ((h 61 1) + 3) 2 := jK 0 f118 (rg_T3_2_0_1 t1) (by first | decide | omega) (by first | decide | omega) (by decide)
              have q940 : h102 ((h 61 1) + 3) 2 = h86 ((h 61 1) + 3) 2 := jK 0 f104 (rg_T3_2_0_1 t1) (by first | decide | omega) (by first | decide | omega) (by decide)
              have q941 : h86 ((h 61 1) + 3) 2 = h56 ((h 61 1) + 3) 2 := jK 0 f88 (rg_T3_2_0_1 t1) (by first | decide | omega) (by first | decide | omega) (by decide)
              have q942 : h56 ((h 61 1) + 3) 2 = h35 ((h 61 1) + 3) 2 := jK 0 f58 (rg_T3_2_0_1 t1) (by first | decide | omega) (by first | decide | omega) (by decide)
              have q943 : h35 ((h 61 1) + 3) 2 = h8 ((h 61 1) + 3) 2 := jK 0 f37 (rg_T3_2_0_1 t1) (by first | decide | omega) (by first | decide | omega) (by decide)
              have e944 : rv h630 3 = (h8 ((h 61 1) + 3) 2) := (congrArg (fun z => svq h630 z 3) (((((((((((q921.trans q922).trans q923).trans q924).trans q925).trans q926).trans q927).trans q928).trans q929).trans q930).trans q931).trans q932)).trans ((((((((((q933.trans q934).trans q935).trans q936).trans q937).trans q938).trans q939).trans q940).trans q941).trans q942).trans q943)
              have q945 : h630 61 1 = h436 61 1 := f632 61 1 (by decide +kernel)
              have q946 : h436 61 1 = h422 61 1 := f438 61 1 (by decide +kernel)
              have q947 : h422 61 1 = h406 61 1 := f424 61 1 (by decide +kernel)
              have q948 : h406 61 1 = h259 61 1 := f408 61 1 (by decide +kernel)
              have q949 : h259 61 1 = h136 61 1 := f261 61 1 (by decide +kernel)
              have q950 : h136 61 1 = h116 61 1 := f138 61 1 (by decide +kernel)
              have q951 : h116 61 1 = h102 61 1 := f118 61 1 (by decide +kernel)
              have q952 : h102 61 1 = h86 61 1 := f104 61 1 (by decide +kernel)
              have q953 : h86 61 1 = h56 61 1 := f88 61 1 (by decide +kernel)
              have q954 : h56 61 1 = h35 61 1 := f58 61 1 (by decide +kernel)
              have q955 : h35 61 1 = h8 61 1 := f37 61 1 (by decide +kernel)
              have q956 : h8 61 1 = h 61 1 := f10 61 1 (by decide +kernel)
              have q957 : h630 ((h 61 1) + 5) 2 = h436 ((h 61 1) + 5) 2 := jK 0 f632 (rg_T5_2_0_1 t1) (by first | decide | omega) (by first | decide | omega) (by decide)
              have q958 : h436 ((h 61 1) + 5) 2 = h422 ((h 61 1) + 5) 2 := jK 0 f438 (rg_T5_2_0_1 t1) (by first | decide | omega) (by first | decide | omega) (by decide)
              have q959 : h422 ((h 61 1) + 5) 2 = h406 ((h 61 1) + 5) 2 := jK 0 f424 (rg_T5_2_0_1 t1) (by first | decide | omega) (by first | decide | omega) (by decide)
              have q960 : h406 ((h 61 1) + 5) 2 = h259 ((h 61 1) + 5) 2 := jK 0 f408 (rg_T5_2_0_1 t1) (by first | decide | omega) (by first | decide | omega) (by decide)
              have q961 : h259 ((h 61 1) + 5) 2 = h136 ((h 61 1) + 5) 2 := jK 0 f261 (rg_T5_2_0_1 t1) (by first | decide | omega) (by first | decide | omega) (by decide)
              have q962 : h136 ((h 61 1) + 5) 2 = h116 ((h 61 1) + 5) 2 := jK 0 f138 (rg_T5_2_0_1 t1) (by first | decide | omega) (by first | decide | omega) (by decide)
              have q963 : h116 ((h 61 1) + 5) 2 = h102 ((h 61 1) + 5) 2 := jK 0 f118 (rg_T5_2_0_1 t1) (by first | decide | omega) (by first | decide | omega) (by decide)
              have q964 : h102 ((h 61 1) + 5) 2 = h86 ((h 61 1) + 5) 2 := jK 0 f104 (rg_T5_2_0_1 t1) (by first | decide | omega) (by first | decide | omega) (by decide)
              have q965 : h86 ((h 61 1) + 5) 2 = h56 ((h 61 1) + 5) 2 := jK 0 f88 (rg_T5_2_0_1 t1) (by first | decide | omega) (by first | decide | omega) (by decide)
              have q966 : h56 ((h 61 1) + 5) 2 = h35 ((h 61 1) + 5) 2 := jK 0 f58 (rg_T5_2_0_1 t1) (by first | decide | omega) (by first | decide | omega) (by decide)
              have q967 : h35 ((h 61 1) + 5) 2 = h8 ((h 61 1) + 5) 2 := jK 0 f37 (rg_T5_2_0_1 t1) (by first | decide | omega) (by first | decide | omega) (by decide)
              have e968 : rv h630 4 = (h8 ((h 61 1) + 5) 2) := (congrArg (fun z => svq h630 z 4) (((((((((((q945.trans q946).trans q947).trans q948).trans q949).trans q950).trans q951).trans q952).trans q953).trans q954).trans q955).trans q956)).trans ((((((((((q957.trans q958).trans q959).trans q960).trans q961).trans q962).trans q963).trans q964).trans q965).trans q966).trans q967)
              have e969 : rv h 5 = (h ((h 61 1) + 7) 2) := (congrArg (fun z => svq h z 5) rfl).trans rfl
              have q970 : h630 61 1 = h436 61 1 := f632 61 1 (by decide +kernel)
              have q971 : h436 61 1 = h422 61 1 := f438 61 1 (by decide +kernel)
              have q972 : h422 61 1 = h406 61 1 := f424 61 1 (by decide +kernel)
              have q973 : h406 61 1 = h259 61 1 := f408 61 1 (by decide +kernel)
              have q974 : h259 61 1 = h136 61 1 := f261 61 1 (by decide +kernel)
              have q975 : h136 61 1 = h116 61 1 := f138 61 1 (by decide +kernel)
              have q976 : h116 61 1 = h102 61 1 := f118 61 1 (by decide +kernel)
              have q977 : h102 61 1 = h86 61 1 := f104 61 1 (by decide +kernel)
              have q978 : h86 61 1 = h56 61 1 := f88 61 1 (by decide +kernel)
              have q979 : h56 61 1 = h35 61 1 := f58 61 1 (by decide +kernel)
              have q980 : h35 61 1 = h8 61 1 := f37 61 1 (by decide +kernel)
              have q981 : h8 61 1 = h 61 1 := f10 61 1 (by decide +kernel)
              have q982 : h630 ((h 61 1) + 7) 2 = h436 ((h 61 1) + 7) 2 := jK 0 f632 (rg_T7_2_0_1 t1) (by first | decide | omega) (by first | decide | omega) (by decide)
              have q983 : h436 ((h 61 1) + 7) 2 = h422 ((h 61 1) + 7) 2 := jK 0 f438 (rg_T7_2_0_1 t1) (by first | decide | omega) (by first | decide | omega) (by decide)
              have q984 : h422 ((h 61 1) + 7) 2 = h406 ((h 61 1) + 7) 2 := jK 0 f424 (rg_T7_2_0_1 t1) (by first | decide | omega) (by first | decide | omega) (by decide)
              have q985 : h406 ((h 61 1) + 7) 2 = h259 ((h 61 1) + 7) 2 := jK 0 f408 (rg_T7_2_0_1 t1) (by first | decide | omega) (by first | decide | omega) (by decide)
              have q986 : h259 ((h 61 1) + 7) 2 = h136 ((h 61 1) + 7) 2 := jK 0 f261 (rg_T7_2_0_1 t1) (by first | decide | omega) (by first | decide | omega) (by decide)
              have q987 : h136 ((h 61 1) + 7) 2 = h116 ((h 61 1) + 7) 2 := jK 0 f138 (rg_T7_2_0_1 t1) (by first | decide | omega) (by first | decide | omega) (by decide)
              have q988 : h116 ((h 61 1) + 7) 2 = h102 ((h 61 1) + 7) 2 := jK 0 f118 (rg_T7_2_0_1 t1) (by first | decide | omega) (by first | decide | omega) (by decide)
              have q989 : h102 ((h 61 1) + 7) 2 = h86 ((h 61 1) + 7) 2 := jK 0 f104 (rg_T7_2_0_1 t1) (by first | decide | omega) (by first | decide | omega) (by decide)
              have q990 : h86 ((h 61 1) + 7) 2 = h56 ((h 61 1) + 7) 2 := jK 0 f88 (rg_T7_2_0_1 t1) (by first | decide | omega) (by first | decide | omega) (by decide)
              have q991 : h56 ((h 61 1) + 7) 2 = h35 ((h 61 1) + 7) 2 := jK 0 f58 (rg_T7_2_0_1 t1) (by first | decide | omega) (by first | decide | omega) (by decide)
              have q992 : h35 ((h 61 1) + 7) 2 = h8 ((h 61 1) + 7) 2 := jK 0 f37 (rg_T7_2_0_1 t1) (by first | decide | omega) (by first | decide | omega) (by decide)
              have e993 : rv h630 5 = (h8 ((h 61 1) + 7) 2) := (congrArg (fun z => svq h630 z 5) (((((((((((q970.trans q971).trans q972).trans q973).trans q974).trans q975).trans q976).trans q977).trans q978).trans q979).trans q980).trans q981)).trans ((((((((((q982.trans q983).trans q984).trans q985).trans q986).trans q987).trans q988).trans q989).trans q990).trans q991).trans q992)
              have q994 : h8 1 2 = h 1 2 := jK 0 f10 rg_1_2_0_1 (by first | decide | omega) (by first | decide | omega) (by decide)
              obtain ⟨w995, e996⟩ := Tk.no c41 (by first | decide | omega)
              obtain ⟨w997, e998⟩ := Tk.yes c62 (by first | decide | omega)
              have q999 : h102 1 2 = h86 1 2 := jK 0 f104 rg_1_2_0_1 (by first | decide | omega) (by first | decide | omega) (by decide)
              obtain ⟨w1000, e1001⟩ := Tk.yes c122 (by first | decide | omega)
              obtain ⟨w1002, e1003⟩ := Tk.yes c265 (by first | decide | omega)
              have q1004 : h422 1 2 = h406 1 2 := jK 0 f424 rg_1_2_0_1 (by first | decide | omega) (by first | decide | omega) (by decide)
              obtain ⟨w1005, e1006⟩ := Tk.yes c442 (by first | decide | omega)
              have m1007 : Ot (h 61 1) h h8 := Ot.trans Ot.refl (c19)
              have m1008 : Ot (h 61 1) h h35 := Ot.fr m1007 f37 (by decide)
              have m1009 : Ot (h 61 1) h h56 := Ot.fr m1008 f58 (by decide)
              have m1010 : Ot (h 61 1) h h86 := Ot.fr m1009 f88 (by decide)
              have m1011 : Ot (h 61 1) h h102 := Ot.fr m1010 f104 (by decide)
              have m1012 : Ot (h 61 1) h h116 := Ot.fr m1011 f118 (by decide)
              have m1013 : Ot (h 61 1) h h136 := Ot.fr m1012 f138 (by decide)
              have m1014 : Ot (h 61 1) h h259 := Ot.fr m1013 f261 (by decide)
              have m1015 : Ot (h 61 1) h h406 := Ot.fr m1014 f408 (by decide)
              have m1016 : Ot (h 61 1) h h422 := Ot.fr m1015 f424 (by decide)
              have m1017 : Ot (h 61 1) h h436 := Ot.fr m1016 f438 (by decide)
              have m1018 : Ot (h 61 1) h h630 := Ot.fr m1017 f632 (by decide)
              refine x_retI (np := 178) (x := 0) (by decide +kernel) (by decide) (Or.inr ⟨by decide +kernel, by first | decide | omega, by first | decide | omega⟩) ⟨_, rfl, (by decide), ?_⟩
              exact ⟨j631, f638, (by first | decide | omega), (by first | decide | omega), (by first | decide | omega), (by first | decide | omega), (by first | decide | omega), (fun z => by first | decide | omega), (by first | decide | omega), (or9.f w995 (show h8 1 2 = h 1 2 by first | decide | omega) (show h35 1 2 = h 1 2 by first | decide | omega) (wd9.y w997 rfl e998 rfl (nm9.y c93 (by first | decide | omega) (by first | decide | omega) rfl (by first | decide | omega) rfl (wd9.y w1000 (show h102 1 2 = h86 1 2 by first | decide | omega) e1001 rfl (nm9.y c143 (by first | decide | omega) (by first | decide | omega) rfl (by first | decide | omega) rfl (wd9.y w1002 rfl e1003 rfl (nm9.y c413 (by first | decide | omega) (by first | decide | omega) rfl (by first | decide | omega) rfl (wd9.y w1005 (show h422 1 2 = h406 1 2 by first | decide | omega) e1006 rfl (nm9.f c637 (by first | decide | omega) (by first | decide | omega) rfl (by first | decide | omega) (by first | decide | omega)))))))))), m1018⟩
            have q844 : ¬ (2147483648 = 2147483648) := q844
            exfalso; omega
          have q417 : ¬ (v402 ≠ 2147483647) := q417
          have b1019 := c412 (by first | decide | omega)
          refine x_const (np := 20) (x := 9223372039002259456) (a := 2147483648) (by decide +kernel) (by decide) (by decide) ?_
          refine x_retI (np := 21) (x := 0) (by decide +kernel) (by decide) (Or.inr ⟨by decide +kernel, by first | decide | omega, by first | decide | omega⟩) ⟨_, rfl, (by decide), ?_⟩
          refine x_ifz (k := 0) (tg := 176) (np := 140) (by decide +kernel) (by decide) (by decide) (fun q1020 => ?_) (fun q1021 => ?_)
          · have q1020 : 2147483648 = 2147483648 := q1020
            refine x_const (np := 177) (x := 9223372039002259456) (a := 2147483648) (by decide +kernel) (by decide) (by decide) ?_
            have e1022 : rv h 0 = (h (h 61 1) 7) := (congrArg (fun z => svq h z 0) rfl).trans rfl
            have q1023 : h406 61 1 = h259 61 1 := f408 61 1 (by decide +kernel)
            have q1024 : h259 61 1 = h136 61 1 := f261 61 1 (by decide +kernel)
            have q1025 : h136 61 1 = h116 61 1 := f138 61 1 (by decide +kernel)
            have q1026 : h116 61 1 = h102 61 1 := f118 61 1 (by decide +kernel)
            have q1027 : h102 61 1 = h86 61 1 := f104 61 1 (by decide +kernel)
            have q1028 : h86 61 1 = h56 61 1 := f88 61 1 (by decide +kernel)
            have q1029 : h56 61 1 = h35 61 1 := f58 61 1 (by decide +kernel)
            have q1030 : h35 61 1 = h8 61 1 := f37 61 1 (by decide +kernel)
            have q1031 : h8 61 1 = h 61 1 := f10 61 1 (by decide +kernel)
            have q1032 : h406 (h 61 1) 7 = h259 (h 61 1) 7 := jK 0 f408 (rg_T0_7_0_1 t1) (by first | decide | omega) (by first | decide | omega) (by decide)
            have q1033 : h259 (h 61 1) 7 = h136 (h 61 1) 7 := jK 0 f261 (rg_T0_7_0_1 t1) (by first | decide | omega) (by first | decide | omega) (by decide)
            have q1034 : h136 (h 61 1) 7 = h116 (h 61 1) 7 := jK 0 f138 (rg_T0_7_0_1 t1) (by first | decide | omega) (by first | decide | omega) (by decide)
            have q1035 : h116 (h 61 1) 7 = h102 (h 61 1) 7 := jK 0 f118 (rg_T0_7_0_1 t1) (by first | decide | omega) (by first | decide | omega) (by decide)
            have q1036 : h102 (h 61 1) 7 = h86 (h 61 1) 7 := jK 0 f104 (rg_T0_7_0_1 t1) (by first | decide | omega) (by first | decide | omega) (by decide)
            have q1037 : h86 (h 61 1) 7 = h56 (h 61 1) 7 := jK 0 f88 (rg_T0_7_0_1 t1) (by first | decide | omega) (by first | decide | omega) (by decide)
            have q1038 : h56 (h 61 1) 7 = h35 (h 61 1) 7 := jK 0 f58 (rg_T0_7_0_1 t1) (by first | decide | omega) (by first | decide | omega) (by decide)
            have q1039 : h35 (h 61 1) 7 = h8 (h 61 1) 7 := jK 0 f37 (rg_T0_7_0_1 t1) (by first | decide | omega) (by first | decide | omega) (by decide)
            have e1040 : rv h406 0 = (h8 (h 61 1) 7) := (congrArg (fun z => svq h406 z 0) ((((((((q1023.trans q1024).trans q1025).trans q1026).trans q1027).trans q1028).trans q1029).trans q1030).trans q1031)).trans (((((((q1032.trans q1033).trans q1034).trans q1035).trans q1036).trans q1037).trans q1038).trans q1039)
            have e1041 : rv h 1 = (h (h 61 1) 8) := (congrArg (fun z => svq h z 1) rfl).trans rfl
            have q1042 : h406 61 1 = h259 61 1 := f408 61 1 (by decide +kernel)
            have q1043 : h259 61 1 = h136 61 1 := f261 61 1 (by decide +kernel)
            have q1044 : h136 61 1 = h116 61 1 := f138 61 1 (by decide +kernel)
            have q1045 : h116 61 1 = h102 61 1 := f118 61 1 (by decide +kernel)
            have q1046 : h102 61 1 = h86 61 1 := f104 61 1 (by decide +kernel)
            have q1047 : h86 61 1 = h56 61 1 := f88 61 1 (by decide +kernel)
            have q1048 : h56 61 1 = h35 61 1 := f58 61 1 (by decide +kernel)
            have q1049 : h35 61 1 = h8 61 1 := f37 61 1 (by decide +kernel)
            have q1050 : h8 61 1 = h 61 1 := f10 61 1 (by decide +kernel)
            have q1051 : h406 (h 61 1) 8 = h259 (h 61 1) 8 := jK 0 f408 (rg_T0_8_0_1 t1) (by first | decide | omega) (by first | decide | omega) (by decide)
            have q1052 : h259 (h 61 1) 8 = h136 (h 61 1) 8 := jK 0 f261 (rg_T0_8_0_1 t1) (by first | decide | omega) (by first | decide | omega) (by decide)
            have q1053 : h136 (h 61 1) 8 = h116 (h 61 1) 8 := jK 0 f138 (rg_T0_8_0_1 t1) (by first | decide | omega) (by first | decide | omega) (by decide)
            have q1054 : h116 (h 61 1) 8 = h102 (h 61 1) 8 := jK 0 f118 (rg_T0_8_0_1 t1) (by first | decide | omega) (by first | decide | omega) (by decide)
            have q1055 : h102 (h 61 1) 8 = h86 (h 61 1) 8 := jK 0 f104 (rg_T0_8_0_1 t1) (by first | decide | omega) (by first | decide | omega) (by decide)
            have q1056 : h86 (h 61 1) 8 = h56 (h 61 1) 8 := jK 0 f88 (rg_T0_8_0_1 t1) (by first | decide | omega) (by first | decide | omega) (by decide)
            have q1057 : h56 (h 61 1) 8 = h35 (h 61 1) 8 := jK 0 f58 (rg_T0_8_0_1 t1) (by first | decide | omega) (by first | decide | omega) (by decide)
            have q1058 : h35 (h 61 1) 8 = h8 (h 61 1) 8 := jK 0 f37 (rg_T0_8_0_1 t1) (by first | decide | omega) (by first | decide | omega) (by decide)
            have e1059 : rv h406 1 = (h8 (h 61 1) 8) := (congrArg (fun z => svq h406 z 1) ((((((((q1042.trans q1043).trans q1044).trans q1045).trans q1046).trans q1047).trans q1048).trans q1049).trans q1050)).trans (((((((q1051.trans q1052).trans q1053).trans q1054).trans q1055).trans q1056).trans q1057).trans q1058)
            have e1060 : rv h 2 = (h ((h 61 1) + 1) 2) := (congrArg (fun z => svq h z 2) rfl).trans rfl
            have q1061 : h406 61 1 = h259 61 1 := f408 61 1 (by decide +kernel)
            have q1062 : h259 61 1 = h136 61 1 := f261 61 1 (by decide +kernel)
            have q1063 : h136 61 1 = h116 61 1 := f138 61 1 (by decide +kernel)
            have q1064 : h116 61 1 = h102 61 1 := f118 61 1 (by decide +kernel)
            have q1065 : h102 61 1 = h86 61 1 := f104 61 1 (by decide +kernel)
            have q1066 : h86 61 1 = h56 61 1 := f88 61 1 (by decide +kernel)
            have q1067 : h56 61 1 = h35 61 1 := f58 61 1 (by decide +kernel)
            have q1068 : h35 61 1 = h8 61 1 := f37 61 1 (by decide +kernel)
            have q1069 : h8 61 1 = h 61 1 := f10 61 1 (by decide +kernel)
            have q1070 : h406 ((h 61 1) + 1) 2 = h259 ((h 61 1) + 1) 2 := jK 0 f408 (rg_T1_2_0_1 t1) (by first | decide | omega) (by first | decide | omega) (by decide)
            have q1071 : h259 ((h 61 1) + 1) 2 = h136 ((h 61 1) + 1) 2 := jK 0 f261 (rg_T1_2_0_1 t1) (by first | decide | omega) (by first | decide | omega) (by decide)
            have q1072 : h136 ((h 61 1) + 1) 2 = h116 ((h 61 1) + 1) 2 := jK 0 f138 (rg_T1_2_0_1 t1) (by first | decide | omega) (by first | decide | omega) (by decide)
            have q1073 : h116 ((h 61 1) + 1) 2 = h102 ((h 61 1) + 1) 2 := jK 0 f118 (rg_T1_2_0_1 t1) (by first | decide | omega) (by first | decide | omega) (by decide)
            have q1074 : h102 ((h 61 1) + 1) 2 = h86 ((h 61 1) + 1) 2 := jK 0 f104 (rg_T1_2_0_1 t1) (by first | decide | omega) (by first | decide | omega) (by decide)
            have q1075 : h86 ((h 61 1) + 1) 2 = h56 ((h 61 1) + 1) 2 := jK 0 f88 (rg_T1_2_0_1 t1) (by first | decide | omega) (by first | decide | omega) (by decide)
            have q1076 : h56 ((h 61 1) + 1) 2 = h35 ((h 61 1) + 1) 2 := jK 0 f58 (rg_T1_2_0_1 t1) (by first | decide | omega) (by first | decide | omega) (by decide)
            have q1077 : h35 ((h 61 1) + 1) 2 = h8 ((h 61 1) + 1) 2 := jK 0 f37 (rg_T1_2_0_1 t1) (by first | decide | omega) (by first | decide | omega) (by decide)
            have e1078 : rv h406 2 = (h8 ((h 61 1) + 1) 2) := (congrArg (fun z => svq h406 z 2) ((((((((q1061.trans q1062).trans q1063).trans q1064).trans q1065).trans q1066).trans q1067).trans q1068).trans q1069)).trans (((((((q1070.trans q1071).trans q1072).trans q1073).trans q1074).trans q1075).trans q1076).trans q1077)
            have e1079 : rv h 3 = (h ((h 61 1) + 3) 2) := (congrArg (fun z => svq h z 3) rfl).trans rfl
            have q1080 : h406 61 1 = h259 61 1 := f408 61 1 (by decide +kernel)
            have q1081 : h259 61 1 = h136 61 1 := f261 61 1 (by decide +kernel)
            have q1082 : h136 61 1 = h116 61 1 := f138 61 1 (by decide +kernel)
            have q1083 : h116 61 1 = h102 61 1 := f118 61 1 (by decide +kernel)
            have q1084 : h102 61 1 = h86 61 1 := f104 61 1 (by decide +kernel)
            have q1085 : h86 61 1 = h56 61 1 := f88 61 1 (by decide +kernel)
            have q1086 : h56 61 1 = h35 61 1 := f58 61 1 (by decide +kernel)
            have q1087 : h35 61 1 = h8 61 1 := f37 61 1 (by decide +kernel)
            have q1088 : h8 61 1 = h 61 1 := f10 61 1 (by decide +kernel)
            have q1089 : h406 ((h 61 1) + 3) 2 = h259 ((h 61 1) + 3) 2 := jK 0 f408 (rg_T3_2_0_1 t1) (by first | decide | omega) (by first | decide | omega) (by decide)
            have q1090 : h259 ((h 61 1) + 3) 2 = h136 ((h 61 1) + 3) 2 := jK 0 f261 (rg_T3_2_0_1 t1) (by first | decide | omega) (by first | decide | omega) (by decide)
            have q1091 : h136 ((h 61 1) + 3) 2 = h116 ((h 61 1) + 3) 2 := jK 0 f138 (rg_T3_2_0_1 t1) (by first | decide | omega) (by first | decide | omega) (by decide)
            have q1092 : h116 ((h 61 1) + 3) 2 = h102 ((h 61 1) + 3) 2 := jK 0 f118 (rg_T3_2_0_1 t1) (by first | decide | omega) (by first | decide | omega) (by decide)
            have q1093 : h102 ((h 61 1) + 3) 2 = h86 ((h 61 1) + 3) 2 := jK 0 f104 (rg_T3_2_0_1 t1) (by first | decide | omega) (by first | decide | omega) (by decide)
            have q1094 : h86 ((h 61 1) + 3) 2 = h56 ((h 61 1) + 3) 2 := jK 0 f88 (rg_T3_2_0_1 t1) (by first | decide | omega) (by first | decide | omega) (by decide)
            have q1095 : h56 ((h 61 1) + 3) 2 = h35 ((h 61 1) + 3) 2 := jK 0 f58 (rg_T3_2_0_1 t1) (by first | decide | omega) (by first | decide | omega) (by decide)
            have q1096 : h35 ((h 61 1) + 3) 2 = h8 ((h 61 1) + 3) 2 := jK 0 f37 (rg_T3_2_0_1 t1) (by first | decide | omega) (by first | decide | omega) (by decide)
            have e1097 : rv h406 3 = (h8 ((h 61 1) + 3) 2) := (congrArg (fun z => svq h406 z 3) ((((((((q1080.trans q1081).trans q1082).trans q1083).trans q1084).trans q1085).trans q1086).trans q1087).trans q1088)).trans (((((((q1089.trans q1090).trans q1091).trans q1092).trans q1093).trans q1094).trans q1095).trans q1096)
            have q1098 : h406 61 1 = h259 61 1 := f408 61 1 (by decide +kernel)
            have q1099 : h259 61 1 = h136 61 1 := f261 61 1 (by decide +kernel)
            have q1100 : h136 61 1 = h116 61 1 := f138 61 1 (by decide +kernel)
            have q1101 : h116 61 1 = h102 61 1 := f118 61 1 (by decide +kernel)
            have q1102 : h102 61 1 = h86 61 1 := f104 61 1 (by decide +kernel)
            have q1103 : h86 61 1 = h56 61 1 := f88 61 1 (by decide +kernel)
            have q1104 : h56 61 1 = h35 61 1 := f58 61 1 (by decide +kernel)
            have q1105 : h35 61 1 = h8 61 1 := f37 61 1 (by decide +kernel)
            have q1106 : h8 61 1 = h 61 1 := f10 61 1 (by decide +kernel)
            have q1107 : h406 ((h 61 1) + 5) 2 = h259 ((h 61 1) + 5) 2 := jK 0 f408 (rg_T5_2_0_1 t1) (by first | decide | omega) (by first | decide | omega) (by decide)
            have q1108 : h259 ((h 61 1) + 5) 2 = h136 ((h 61 1) + 5) 2 := jK 0 f261 (rg_T5_2_0_1 t1) (by first | decide | omega) (by first | decide | omega) (by decide)
            have q1109 : h136 ((h 61 1) + 5) 2 = h116 ((h 61 1) + 5) 2 := jK 0 f138 (rg_T5_2_0_1 t1) (by first | decide | omega) (by first | decide | omega) (by decide)
            have q1110 : h116 ((h 61 1) + 5) 2 = h102 ((h 61 1) + 5) 2 := jK 0 f118 (rg_T5_2_0_1 t1) (by first | decide | omega) (by first | decide | omega) (by decide)
            have q1111 : h102 ((h 61 1) + 5) 2 = h86 ((h 61 1) + 5) 2 := jK 0 f104 (rg_T5_2_0_1 t1) (by first | decide | omega) (by first | decide | omega) (by decide)
            have q1112 : h86 ((h 61 1) + 5) 2 = h56 ((h 61 1) + 5) 2 := jK 0 f88 (rg_T5_2_0_1 t1) (by first | decide | omega) (by first | decide | omega) (by decide)
            have q1113 : h56 ((h 61 1) + 5) 2 = h35 ((h 61 1) + 5) 2 := jK 0 f58 (rg_T5_2_0_1 t1) (by first | decide | omega) (by first | decide | omega) (by decide)
            have q1114 : h35 ((h 61 1) + 5) 2 = h8 ((h 61 1) + 5) 2 := jK 0 f37 (rg_T5_2_0_1 t1) (by first | decide | omega) (by first | decide | omega) (by decide)
            have e1115 : rv h406 4 = (h8 ((h 61 1) + 5) 2) := (congrArg (fun z => svq h406 z 4) ((((((((q1098.trans q1099).trans q1100).trans q1101).trans q1102).trans q1103).trans q1104).trans q1105).trans q1106)).trans (((((((q1107.trans q1108).trans q1109).trans q1110).trans q1111).trans q1112).trans q1113).trans q1114)
            have e1116 : rv h 5 = (h ((h 61 1) + 7) 2) := (congrArg (fun z => svq h z 5) rfl).trans rfl
            have q1117 : h406 61 1 = h259 61 1 := f408 61 1 (by decide +kernel)
            have q1118 : h259 61 1 = h136 61 1 := f261 61 1 (by decide +kernel)
            have q1119 : h136 61 1 = h116 61 1 := f138 61 1 (by decide +kernel)
            have q1120 : h116 61 1 = h102 61 1 := f118 61 1 (by decide +kernel)
            have q1121 : h102 61 1 = h86 61 1 := f104 61 1 (by decide +kernel)
            have q1122 : h86 61 1 = h56 61 1 := f88 61 1 (by decide +kernel)
            have q1123 : h56 61 1 = h35 61 1 := f58 61 1 (by decide +kernel)
            have q1124 : h35 61 1 = h8 61 1 := f37 61 1 (by decide +kernel)
            have q1125 : h8 61 1 = h 61 1 := f10 61 1 (by decide +kernel)
            have q1126 : h406 ((h 61 1) + 7) 2 = h259 ((h 61 1) + 7) 2 := jK 0 f408 (rg_T7_2_0_1 t1) (by first | decide | omega) (by first | decide | omega) (by decide)
            have q1127 : h259 ((h 61 1) + 7) 2 = h136 ((h 61 1) + 7) 2 := jK 0 f261 (rg_T7_2_0_1 t1) (by first | decide | omega) (by first | decide | omega) (by decide)
            have q1128 : h136 ((h 61 1) + 7) 2 = h116 ((h 61 1) + 7) 2 := jK 0 f138 (rg_T7_2_0_1 t1) (by first | decide | omega) (by first | decide | omega) (by decide)
            have q1129 : h116 ((h 61 1) + 7) 2 = h102 ((h 61 1) + 7) 2 := jK 0 f118 (rg_T7_2_0_1 t1) (by first | decide | omega) (by first | decide | omega) (by decide)
            have q1130 : h102 ((h 61 1) + 7) 2 = h86 ((h 61 1) + 7) 2 := jK 0 f104 (rg_T7_2_0_1 t1) (by first | decide | omega) (by first | decide | omega) (by decide)
            have q1131 : h86 ((h 61 1) + 7) 2 = h56 ((h 61 1) + 7) 2 := jK 0 f88 (rg_T7_2_0_1 t1) (by first | decide | omega) (by first | decide | omega) (by decide)
            have q1132 : h56 ((h 61 1) + 7) 2 = h35 ((h 61 1) + 7) 2 := jK 0 f58 (rg_T7_2_0_1 t1) (by first | decide | omega) (by first | decide | omega) (by decide)
            have q1133 : h35 ((h 61 1) + 7) 2 = h8 ((h 61 1) + 7) 2 := jK 0 f37 (rg_T7_2_0_1 t1) (by first | decide | omega) (by first | decide | omega) (by decide)
            have e1134 : rv h406 5 = (h8 ((h 61 1) + 7) 2) := (congrArg (fun z => svq h406 z 5) ((((((((q1117.trans q1118).trans q1119).trans q1120).trans q1121).trans q1122).trans q1123).trans q1124).trans q1125)).trans (((((((q1126.trans q1127).trans q1128).trans q1129).trans q1130).trans q1131).trans q1132).trans q1133)
            have q1135 : h8 1 2 = h 1 2 := jK 0 f10 rg_1_2_0_1 (by first | decide | omega) (by first | decide | omega) (by decide)
            obtain ⟨w1136, e1137⟩ := Tk.no c41 (by first | decide | omega)
            obtain ⟨w1138, e1139⟩ := Tk.yes c62 (by first | decide | omega)
            have q1140 : h102 1 2 = h86 1 2 := jK 0 f104 rg_1_2_0_1 (by first | decide | omega) (by first | decide | omega) (by decide)
            obtain ⟨w1141, e1142⟩ := Tk.yes c122 (by first | decide | omega)
            obtain ⟨w1143, e1144⟩ := Tk.yes c265 (by first | decide | omega)
            have m1145 : Ot (h 61 1) h h8 := Ot.trans Ot.refl (c19)
            have m1146 : Ot (h 61 1) h h35 := Ot.fr m1145 f37 (by decide)
            have m1147 : Ot (h 61 1) h h56 := Ot.fr m1146 f58 (by decide)
            have m1148 : Ot (h 61 1) h h86 := Ot.fr m1147 f88 (by decide)
            have m1149 : Ot (h 61 1) h h102 := Ot.fr m1148 f104 (by decide)
            have m1150 : Ot (h 61 1) h h116 := Ot.fr m1149 f118 (by decide)
            have m1151 : Ot (h 61 1) h h136 := Ot.fr m1150 f138 (by decide)
            have m1152 : Ot (h 61 1) h h259 := Ot.fr m1151 f261 (by decide)
            have m1153 : Ot (h 61 1) h h406 := Ot.fr m1152 f408 (by decide)
            refine x_retI (np := 178) (x := 0) (by decide +kernel) (by decide) (Or.inr ⟨by decide +kernel, by first | decide | omega, by first | decide | omega⟩) ⟨_, rfl, (by decide), ?_⟩
            exact ⟨j407, f414, (by first | decide | omega), (by first | decide | omega), (by first | decide | omega), (by first | decide | omega), (by first | decide | omega), (fun z => by first | decide | omega), (by first | decide | omega), (or9.f w1136 (show h8 1 2 = h 1 2 by first | decide | omega) (show h35 1 2 = h 1 2 by first | decide | omega) (wd9.y w1138 rfl e1139 rfl (nm9.y c93 (by first | decide | omega) (by first | decide | omega) rfl (by first | decide | omega) rfl (wd9.y w1141 (show h102 1 2 = h86 1 2 by first | decide | omega) e1142 rfl (nm9.y c143 (by first | decide | omega) (by first | decide | omega) rfl (by first | decide | omega) rfl (wd9.y w1143 rfl e1144 rfl (nm9.f c413 (by first | decide | omega) (by first | decide | omega) rfl (by first | decide | omega) (by first | decide | omega)))))))), m1153⟩
          have q1021 : ¬ (2147483648 = 2147483648) := q1021
          exfalso; omega
        have q129 : ¬ (v111 ≠ 2147483648) := q129
        have b1154 := c121 (by first | decide | omega)
        refine x_const (np := 92) (x := 9223372039002259456) (a := 2147483648) (by decide +kernel) (by decide) (by decide) ?_
        have e1155 : rv h 0 = (h (h 61 1) 7) := (congrArg (fun z => svq h z 0) rfl).trans rfl
        have q1156 : h116 61 1 = h102 61 1 := f118 61 1 (by decide +kernel)
        have q1157 : h102 61 1 = h86 61 1 := f104 61 1 (by decide +kernel)
        have q1158 : h86 61 1 = h56 61 1 := f88 61 1 (by decide +kernel)
        have q1159 : h56 61 1 = h35 61 1 := f58 61 1 (by decide +kernel)
        have q1160 : h35 61 1 = h8 61 1 := f37 61 1 (by decide +kernel)
        have q1161 : h8 61 1 = h 61 1 := f10 61 1 (by decide +kernel)
        have q1162 : h116 (h 61 1) 7 = h102 (h 61 1) 7 := jK 0 f118 (rg_T0_7_0_1 t1) (by first | decide | omega) (by first | decide | omega) (by decide)
        have q1163 : h102 (h 61 1) 7 = h86 (h 61 1) 7 := jK 0 f104 (rg_T0_7_0_1 t1) (by first | decide | omega) (by first | decide | omega) (by decide)
        have q1164 : h86 (h 61 1) 7 = h56 (h 61 1) 7 := jK 0 f88 (rg_T0_7_0_1 t1) (by first | decide | omega) (by first | decide | omega) (by decide)
        have q1165 : h56 (h 61 1) 7 = h35 (h 61 1) 7 := jK 0 f58 (rg_T0_7_0_1 t1) (by first | decide | omega) (by first | decide | omega) (by decide)
        have q1166 : h35 (h 61 1) 7 = h8 (h 61 1) 7 := jK 0 f37 (rg_T0_7_0_1 t1) (by first | decide | omega) (by first | decide | omega) (by decide)
        have e1167 : rv h116 0 = (h8 (h 61 1) 7) := (congrArg (fun z => svq h116 z 0) (((((q1156.trans q1157).trans q1158).trans q1159).trans q1160).trans q1161)).trans ((((q1162.trans q1163).trans q1164).trans q1165).trans q1166)
        have e1168 : rv h 1 = (h (h 61 1) 8) := (congrArg (fun z => svq h z 1) rfl).trans rfl
        have q1169 : h116 61 1 = h102 61 1 := f118 61 1 (by decide +kernel)
        have q1170 : h102 61 1 = h86 61 1 := f104 61 1 (by decide +kernel)
        have q1171 : h86 61 1 = h56 61 1 := f88 61 1 (by decide +kernel)
        have q1172 : h56 61 1 = h35 61 1 := f58 61 1 (by decide +kernel)
        have q1173 : h35 61 1 = h8 61 1 := f37 61 1 (by decide +kernel)
        have q1174 : h8 61 1 = h 61 1 := f10 61 1 (by decide +kernel)
        have q1175 : h116 (h 61 1) 8 = h102 (h 61 1) 8 := jK 0 f118 (rg_T0_8_0_1 t1) (by first | decide | omega) (by first | decide | omega) (by decide)
        have q1176 : h102 (h 61 1) 8 = h86 (h 61 1) 8 := jK 0 f104 (rg_T0_8_0_1 t1) (by first | decide | omega) (by first | decide | omega) (by decide)
        have q1177 : h86 (h 61 1) 8 = h56 (h 61 1) 8 := jK 0 f88 (rg_T0_8_0_1 t1) (by first | decide | omega) (by first | decide | omega) (by decide)
        have q1178 : h56 (h 61 1) 8 = h35 (h 61 1) 8 := jK 0 f58 (rg_T0_8_0_1 t1) (by first | decide | omega) (by first | decide | omega) (by decide)
        have q1179 : h35 (h 61 1) 8 = h8 (h 61 1) 8 := jK 0 f37 (rg_T0_8_0_1 t1) (by first | decide | omega) (by first | decide | omega) (by decide)
        have e1180 : rv h116 1 = (h8 (h 61 1) 8) := (congrArg (fun z => svq h116 z 1) (((((q1169.trans q1170).trans q1171).trans q1172).trans q1173).trans q1174)).trans ((((q1175.trans q1176).trans q1177).trans q1178).trans q1179)
        have e1181 : rv h 2 = (h ((h 61 1) + 1) 2) := (congrArg (fun z => svq h z 2) rfl).trans rfl
        have q1182 : h116 61 1 = h102 61 1 := f118 61 1 (by decide +kernel)
        have q1183 : h102 61 1 = h86 61 1 := f104 61 1 (by decide +kernel)
        have q1184 : h86 61 1 = h56 61 1 := f88 61 1 (by decide +kernel)
        have q1185 : h56 61 1 = h35 61 1 := f58 61 1 (by decide +kernel)
        have q1186 : h35 61 1 = h8 61 1 := f37 61 1 (by decide +kernel)
        have q1187 : h8 61 1 = h 61 1 := f10 61 1 (by decide +kernel)
        have q1188 : h116 ((h 61 1) + 1) 2 = h102 ((h 61 1) + 1) 2 := jK 0 f118 (rg_T1_2_0_1 t1) (by first | decide | omega) (by first | decide | omega) (by decide)
        have q1189 : h102 ((h 61 1) + 1) 2 = h86 ((h 61 1) + 1) 2 := jK 0 f104 (rg_T1_2_0_1 t1) (by first | decide | omega) (by first | decide | omega) (by decide)
        have q1190 : h86 ((h 61 1) + 1) 2 = h56 ((h 61 1) + 1) 2 := jK 0 f88 (rg_T1_2_0_1 t1) (by first | decide | omega) (by first | decide | omega) (by decide)
        have q1191 : h56 ((h 61 1) + 1) 2 = h35 ((h 61 1) + 1) 2 := jK 0 f58 (rg_T1_2_0_1 t1) (by first | decide | omega) (by first | decide | omega) (by decide)
        have q1192 : h35 ((h 61 1) + 1) 2 = h8 ((h 61 1) + 1) 2 := jK 0 f37 (rg_T1_2_0_1 t1) (by first | decide | omega) (by first | decide | omega) (by decide)
        have e1193 : rv h116 2 = (h8 ((h 61 1) + 1) 2) := (congrArg (fun z => svq h116 z 2) (((((q1182.trans q1183).trans q1184).trans q1185).trans q1186).trans q1187)).trans ((((q1188.trans q1189).trans q1190).trans q1191).trans q1192)
        have e1194 : rv h 3 = (h ((h 61 1) + 3) 2) := (congrArg (fun z => svq h z 3) rfl).trans rfl
        have q1195 : h116 61 1 = h102 61 1 := f118 61 1 (by decide +kernel)
        have q1196 : h102 61 1 = h86 61 1 := f104 61 1 (by decide +kernel)
        have q1197 : h86 61 1 = h56 61 1 := f88 61 1 (by decide +kernel)
        have q1198 : h56 61 1 = h35 61 1 := f58 61 1 (by decide +kernel)
        have q1199 : h35 61 1 = h8 61 1 := f37 61 1 (by decide +kernel)
        have q1200 : h8 61 1 = h 61 1 := f10 61 1 (by decide +kernel)
        have q1201 : h116 ((h 61 1) + 3) 2 = h102 ((h 61 1) + 3) 2 := jK 0 f118 (rg_T3_2_0_1 t1) (by first | decide | omega) (by first | decide | omega) (by decide)
        have q1202 : h102 ((h 61 1) + 3) 2 = h86 ((h 61 1) + 3) 2 := jK 0 f104 (rg_T3_2_0_1 t1) (by first | decide | omega) (by first | decide | omega) (by decide)
        have q1203 : h86 ((h 61 1) + 3) 2 = h56 ((h 61 1) + 3) 2 := jK 0 f88 (rg_T3_2_0_1 t1) (by first | decide | omega) (by first | decide | omega) (by decide)
        have q1204 : h56 ((h 61 1) + 3) 2 = h35 ((h 61 1) + 3) 2 := jK 0 f58 (rg_T3_2_0_1 t1) (by first | decide | omega) (by first | decide | omega) (by decide)
        have q1205 : h35 ((h 61 1) + 3) 2 = h8 ((h 61 1) + 3) 2 := jK 0 f37 (rg_T3_2_0_1 t1) (by first | decide | omega) (by first | decide | omega) (by decide)
        have e1206 : rv h116 3 = (h8 ((h 61 1) + 3) 2) := (congrArg (fun z => svq h116 z 3) (((((q1195.trans q1196).trans q1197).trans q1198).trans q1199).trans q1200)).trans ((((q1201.trans q1202).trans q1203).trans q1204).trans q1205)
        have q1207 : h116 61 1 = h102 61 1 := f118 61 1 (by decide +kernel)
        have q1208 : h102 61 1 = h86 61 1 := f104 61 1 (by decide +kernel)
        have q1209 : h86 61 1 = h56 61 1 := f88 61 1 (by decide +kernel)
        have q1210 : h56 61 1 = h35 61 1 := f58 61 1 (by decide +kernel)
        have q1211 : h35 61 1 = h8 61 1 := f37 61 1 (by decide +kernel)
        have q1212 : h8 61 1 = h 61 1 := f10 61 1 (by decide +kernel)
        have q1213 : h116 ((h 61 1) + 5) 2 = h102 ((h 61 1) + 5) 2 := jK 0 f118 (rg_T5_2_0_1 t1) (by first | decide | omega) (by first | decide | omega) (by decide)
        have q1214 : h102 ((h 61 1) + 5) 2 = h86 ((h 61 1) + 5) 2 := jK 0 f104 (rg_T5_2_0_1 t1) (by first | decide | omega) (by first | decide | omega) (by decide)
        have q1215 : h86 ((h 61 1) + 5) 2 = h56 ((h 61 1) + 5) 2 := jK 0 f88 (rg_T5_2_0_1 t1) (by first | decide | omega) (by first | decide | omega) (by decide)
        have q1216 : h56 ((h 61 1) + 5) 2 = h35 ((h 61 1) + 5) 2 := jK 0 f58 (rg_T5_2_0_1 t1) (by first | decide | omega) (by first | decide | omega) (by decide)
        have q1217 : h35 ((h 61 1) + 5) 2 = h8 ((h 61 1) + 5) 2 := jK 0 f37 (rg_T5_2_0_1 t1) (by first | decide | omega) (by first | decide | omega) (by decide)
        have e1218 : rv h116 4 = (h8 ((h 61 1) + 5) 2) := (congrArg (fun z => svq h116 z 4) (((((q1207.trans q1208).trans q1209).trans q1210).trans q1211).trans q1212)).trans ((((q1213.trans q1214).trans q1215).trans q1216).trans q1217)
        have e1219 : rv h 5 = (h ((h 61 1) + 7) 2) := (congrArg (fun z => svq h z 5) rfl).trans rfl
        have q1220 : h116 61 1 = h102 61 1 := f118 61 1 (by decide +kernel)
        have q1221 : h102 61 1 = h86 61 1 := f104 61 1 (by decide +kernel)
        have q1222 : h86 61 1 = h56 61 1 := f88 61 1 (by decide +kernel)
        have q1223 : h56 61 1 = h35 61 1 := f58 61 1 (by decide +kernel)
        have q1224 : h35 61 1 = h8 61 1 := f37 61 1 (by decide +kernel)
        have q1225 : h8 61 1 = h 61 1 := f10 61 1 (by decide +kernel)
        have q1226 : h116 ((h 61 1) + 7) 2 = h102 ((h 61 1) + 7) 2 := jK 0 f118 (rg_T7_2_0_1 t1) (by first | decide | omega) (by first | decide | omega) (by decide)
        have q1227 : h102 ((h 61 1) + 7) 2 = h86 ((h 61 1) + 7) 2 := jK 0 f104 (rg_T7_2_0_1 t1) (by first | decide | omega) (by first | decide | omega) (by decide)
        have q1228 : h86 ((h 61 1) + 7) 2 = h56 ((h 61 1) + 7) 2 := jK 0 f88 (rg_T7_2_0_1 t1) (by first | decide | omega) (by first | decide | omega) (by decide)
        have q1229 : h56 ((h 61 1) + 7) 2 = h35 ((h 61 1) + 7) 2 := jK 0 f58 (rg_T7_2_0_1 t1) (by first | decide | omega) (by first | decide | omega) (by decide)
        have q1230 : h35 ((h 61 1) + 7) 2 = h8 ((h 61 1) + 7) 2 := jK 0 f37 (rg_T7_2_0_1 t1) (by first | decide | omega) (by first | decide | omega) (by decide)
        have e1231 : rv h116 5 = (h8 ((h 61 1) + 7) 2) := (congrArg (fun z => svq h116 z 5) (((((q1220.trans q1221).trans q1222).trans q1223).trans q1224).trans q1225)).trans ((((q1226.trans q1227).trans q1228).trans q1229).trans q1230)
        have q1232 : h8 1 2 = h 1 2 := jK 0 f10 rg_1_2_0_1 (by first | decide | omega) (by first | decide | omega) (by decide)
        obtain ⟨w1233, e1234⟩ := Tk.no c41 (by first | decide | omega)
        obtain ⟨w1235, e1236⟩ := Tk.yes c62 (by first | decide | omega)
        have q1237 : h102 1 2 = h86 1 2 := jK 0 f104 rg_1_2_0_1 (by first | decide | omega) (by first | decide | omega) (by decide)
        obtain ⟨w1238, e1239⟩ := Tk.no c122 (by first | decide | omega)
        have m1240 : Ot (h 61 1) h h8 := Ot.trans Ot.refl (c19)
        have m1241 : Ot (h 61 1) h h35 := Ot.fr m1240 f37 (by decide)
        have m1242 : Ot (h 61 1) h h56 := Ot.fr m1241 f58 (by decide)
        have m1243 : Ot (h 61 1) h h86 := Ot.fr m1242 f88 (by decide)
        have m1244 : Ot (h 61 1) h h102 := Ot.fr m1243 f104 (by decide)
        have m1245 : Ot (h 61 1) h h116 := Ot.fr m1244 f118 (by decide)
        refine x_retI (np := 93) (x := 0) (by decide +kernel) (by decide) (Or.inr ⟨by decide +kernel, by first | decide | omega, by first | decide | omega⟩) ⟨_, rfl, (by decide), ?_⟩
        exact ⟨j117, f123, (by first | decide | omega), (by first | decide | omega), (by first | decide | omega), (by first | decide | omega), (by first | decide | omega), (fun z => by first | decide | omega), (by first | decide | omega), (or9.f w1233 (show h8 1 2 = h 1 2 by first | decide | omega) (show h35 1 2 = h 1 2 by first | decide | omega) (wd9.y w1235 rfl e1236 rfl (nm9.y c93 (by first | decide | omega) (by first | decide | omega) rfl (by first | decide | omega) rfl (wd9.f w1238 (show h102 1 2 = h86 1 2 by first | decide | omega) (by first | decide | omega))))), m1245⟩
      have q97 : ¬ (v82 ≠ 2147483647) := q97
      have b1246 := c92 (by first | decide | omega)
      refine x_const (np := 20) (x := 9223372039002259456) (a := 2147483648) (by decide +kernel) (by decide) (by decide) ?_
      refine x_retI (np := 21) (x := 0) (by decide +kernel) (by decide) (Or.inr ⟨by decide +kernel, by first | decide | omega, by first | decide | omega⟩) ⟨_, rfl, (by decide), ?_⟩
      refine x_ifz (k := 0) (tg := 91) (np := 79) (by decide +kernel) (by decide) (by decide) (fun q1247 => ?_) (fun q1248 => ?_)
      · have q1247 : 2147483648 = 2147483648 := q1247
        refine x_const (np := 92) (x := 9223372039002259456) (a := 2147483648) (by decide +kernel) (by decide) (by decide) ?_
        have e1249 : rv h 0 = (h (h 61 1) 7) := (congrArg (fun z => svq h z 0) rfl).trans rfl
        have q1250 : h86 61 1 = h56 61 1 := f88 61 1 (by decide +kernel)
        have q1251 : h56 61 1 = h35 61 1 := f58 61 1 (by decide +kernel)
        have q1252 : h35 61 1 = h8 61 1 := f37 61 1 (by decide +kernel)
        have q1253 : h8 61 1 = h 61 1 := f10 61 1 (by decide +kernel)
        have q1254 : h86 (h 61 1) 7 = h56 (h 61 1) 7 := jK 0 f88 (rg_T0_7_0_1 t1) (by first | decide | omega) (by first | decide | omega) (by decide)
        have q1255 : h56 (h 61 1) 7 = h35 (h 61 1) 7 := jK 0 f58 (rg_T0_7_0_1 t1) (by first | decide | omega) (by first | decide | omega) (by decide)
        have q1256 : h35 (h 61 1) 7 = h8 (h 61 1) 7 := jK 0 f37 (rg_T0_7_0_1 t1) (by first | decide | omega) (by first | decide | omega) (by decide)
        have e1257 : rv h86 0 = (h8 (h 61 1) 7) := (congrArg (fun z => svq h86 z 0) (((q1250.trans q1251).trans q1252).trans q1253)).trans ((q1254.trans q1255).trans q1256)
        have e1258 : rv h 1 = (h (h 61 1) 8) := (congrArg (fun z => svq h z 1) rfl).trans rfl
        have q1259 : h86 61 1 = h56 61 1 := f88 61 1 (by decide +kernel)
        have q1260 : h56 61 1 = h35 61 1 := f58 61 1 (by decide +kernel)
        have q1261 : h35 61 1 = h8 61 1 := f37 61 1 (by decide +kernel)
        have q1262 : h8 61 1 = h 61 1 := f10 61 1 (by decide +kernel)
        have q1263 : h86 (h 61 1) 8 = h56 (h 61 1) 8 := jK 0 f88 (rg_T0_8_0_1 t1) (by first | decide | omega) (by first | decide | omega) (by decide)
        have q1264 : h56 (h 61 1) 8 = h35 (h 61 1) 8 := jK 0 f58 (rg_T0_8_0_1 t1) (by first | decide | omega) (by first | decide | omega) (by decide)
        have q1265 : h35 (h 61 1) 8 = h8 (h 61 1) 8 := jK 0 f37 (rg_T0_8_0_1 t1) (by first | decide | omega) (by first | decide | omega) (by decide)
        have e1266 : rv h86 1 = (h8 (h 61 1) 8) := (congrArg (fun z => svq h86 z 1) (((q1259.trans q1260).trans q1261).trans q1262)).trans ((q1263.trans q1264).trans q1265)
        have e1267 : rv h 2 = (h ((h 61 1) + 1) 2) := (congrArg (fun z => svq h z 2) rfl).trans rfl
        have q1268 : h86 61 1 = h56 61 1 := f88 61 1 (by decide +kernel)
        have q1269 : h56 61 1 = h35 61 1 := f58 61 1 (by decide +kernel)
        have q1270 : h35 61 1 = h8 61 1 := f37 61 1 (by decide +kernel)
        have q1271 : h8 61 1 = h 61 1 := f10 61 1 (by decide +kernel)
        have q1272 : h86 ((h 61 1) + 1) 2 = h56 ((h 61 1) + 1) 2 := jK 0 f88 (rg_T1_2_0_1 t1) (by first | decide | omega) (by first | decide | omega) (by decide)
        have q1273 : h56 ((h 61 1) + 1) 2 = h35 ((h 61 1) + 1) 2 := jK 0 f58 (rg_T1_2_0_1 t1) (by first | decide | omega) (by first | decide | omega) (by decide)
        have q1274 : h35 ((h 61 1) + 1) 2 = h8 ((h 61 1) + 1) 2 := jK 0 f37 (rg_T1_2_0_1 t1) (by first | decide | omega) (by first | decide | omega) (by decide)
        have e1275 : rv h86 2 = (h8 ((h 61 1) + 1) 2) := (congrArg (fun z => svq h86 z 2) (((q1268.trans q1269).trans q1270).trans q1271)).trans ((q1272.trans q1273).trans q1274)
        have e1276 : rv h 3 = (h ((h 61 1) + 3) 2) := (congrArg (fun z => svq h z 3) rfl).trans rfl
        have q1277 : h86 61 1 = h56 61 1 := f88 61 1 (by decide +kernel)
        have q1278 : h56 61 1 = h35 61 1 := f58 61 1 (by decide +kernel)
        have q1279 : h35 61 1 = h8 61 1 := f37 61 1 (by decide +kernel)
        have q1280 : h8 61 1 = h 61 1 := f10 61 1 (by decide +kernel)
        have q1281 : h86 ((h 61 1) + 3) 2 = h56 ((h 61 1) + 3) 2 := jK 0 f88 (rg_T3_2_0_1 t1) (by first | decide | omega) (by first | decide | omega) (by decide)
        have q1282 : h56 ((h 61 1) + 3) 2 = h35 ((h 61 1) + 3) 2 := jK 0 f58 (rg_T3_2_0_1 t1) (by first | decide | omega) (by first | decide | omega) (by decide)
        have q1283 : h35 ((h 61 1) + 3) 2 = h8 ((h 61 1) + 3) 2 := jK 0 f37 (rg_T3_2_0_1 t1) (by first | decide | omega) (by first | decide | omega) (by decide)
        have e1284 : rv h86 3 = (h8 ((h 61 1) + 3) 2) := (congrArg (fun z => svq h86 z 3) (((q1277.trans q1278).trans q1279).trans q1280)).trans ((q1281.trans q1282).trans q1283)
        have q1285 : h86 61 1 = h56 61 1 := f88 61 1 (by decide +kernel)
        have q1286 : h56 61 1 = h35 61 1 := f58 61 1 (by decide +kernel)
        have q1287 : h35 61 1 = h8 61 1 := f37 61 1 (by decide +kernel)
        have q1288 : h8 61 1 = h 61 1 := f10 61 1 (by decide +kernel)
        have q1289 : h86 ((h 61 1) + 5) 2 = h56 ((h 61 1) + 5) 2 := jK 0 f88 (rg_T5_2_0_1 t1) (by first | decide | omega) (by first | decide | omega) (by decide)
        have q1290 : h56 ((h 61 1) + 5) 2 = h35 ((h 61 1) + 5) 2 := jK 0 f58 (rg_T5_2_0_1 t1) (by first | decide | omega) (by first | decide | omega) (by decide)
        have q1291 : h35 ((h 61 1) + 5) 2 = h8 ((h 61 1) + 5) 2 := jK 0 f37 (rg_T5_2_0_1 t1) (by first | decide | omega) (by first | decide | omega) (by decide)
        have e1292 : rv h86 4 = (h8 ((h 61 1) + 5) 2) := (congrArg (fun z => svq h86 z 4) (((q1285.trans q1286).trans q1287).trans q1288)).trans ((q1289.trans q1290).trans q1291)
        have e1293 : rv h 5 = (h ((h 61 1) + 7) 2) := (congrArg (fun z => svq h z 5) rfl).trans rfl
        have q1294 : h86 61 1 = h56 61 1 := f88 61 1 (by decide +kernel)
        have q1295 : h56 61 1 = h35 61 1 := f58 61 1 (by decide +kernel)
        have q1296 : h35 61 1 = h8 61 1 := f37 61 1 (by decide +kernel)
        have q1297 : h8 61 1 = h 61 1 := f10 61 1 (by decide +kernel)
        have q1298 : h86 ((h 61 1) + 7) 2 = h56 ((h 61 1) + 7) 2 := jK 0 f88 (rg_T7_2_0_1 t1) (by first | decide | omega) (by first | decide | omega) (by decide)
        have q1299 : h56 ((h 61 1) + 7) 2 = h35 ((h 61 1) + 7) 2 := jK 0 f58 (rg_T7_2_0_1 t1) (by first | decide | omega) (by first | decide | omega) (by decide)
        have q1300 : h35 ((h 61 1) + 7) 2 = h8 ((h 61 1) + 7) 2 := jK 0 f37 (rg_T7_2_0_1 t1) (by first | decide | omega) (by first | decide | omega) (by decide)
        have e1301 : rv h86 5 = (h8 ((h 61 1) + 7) 2) := (congrArg (fun z => svq h86 z 5) (((q1294.trans q1295).trans q1296).trans q1297)).trans ((q1298.trans q1299).trans q1300)
        have q1302 : h8 1 2 = h 1 2 := jK 0 f10 rg_1_2_0_1 (by first | decide | omega) (by first | decide | omega) (by decide)
        obtain ⟨w1303, e1304⟩ := Tk.no c41 (by first | decide | omega)
        obtain ⟨w1305, e1306⟩ := Tk.yes c62 (by first | decide | omega)
        have m1307 : Ot (h 61 1) h h8 := Ot.trans Ot.refl (c19)
        have m1308 : Ot (h 61 1) h h35 := Ot.fr m1307 f37 (by decide)
        have m1309 : Ot (h 61 1) h h56 := Ot.fr m1308 f58 (by decide)
        have m1310 : Ot (h 61 1) h h86 := Ot.fr m1309 f88 (by decide)
        refine x_retI (np := 93) (x := 0) (by decide +kernel) (by decide) (Or.inr ⟨by decide +kernel, by first | decide | omega, by first | decide | omega⟩) ⟨_, rfl, (by decide), ?_⟩
        exact ⟨j87, f94, (by first | decide | omega), (by first | decide | omega), (by first | decide | omega), (by first | decide | omega), (by first | decide | omega), (fun z => by first | decide | omega), (by first | decide | omega), (or9.f w1303 (show h8 1 2 = h 1 2 by first | decide | omega) (show h35 1 2 = h 1 2 by first | decide | omega) (wd9.y w1305 rfl e1306 rfl (nm9.f c93 (by first | decide | omega) (by first | decide | omega) rfl (by first | decide | omega) (by first | decide | omega)))), m1310⟩
      have q1248 : ¬ (2147483648 = 2147483648) := q1248
      exfalso; omega
    have q67 : ¬ (v52 ≠ 2147483648) := q67
    have b1311 := c61 (by first | decide | omega)
    refine x_const (np := 52) (x := 9223372039002259456) (a := 2147483648) (by decide +kernel) (by decide) (by decide) ?_
    have e1312 : rv h 0 = (h (h 61 1) 7) := (congrArg (fun z => svq h z 0) rfl).trans rfl
    have q1313 : h56 61 1 = h35 61 1 := f58 61 1 (by decide +kernel)
    have q1314 : h35 61 1 = h8 61 1 := f37 61 1 (by decide +kernel)
    have q1315 : h8 61 1 = h 61 1 := f10 61 1 (by decide +kernel)
    have q1316 : h56 (h 61 1) 7 = h35 (h 61 1) 7 := jK 0 f58 (rg_T0_7_0_1 t1) (by first | decide | omega) (by first | decide | omega) (by decide)
    have q1317 : h35 (h 61 1) 7 = h8 (h 61 1) 7 := jK 0 f37 (rg_T0_7_0_1 t1) (by first | decide | omega) (by first | decide | omega) (by decide)
    have e1318 : rv h56 0 = (h8 (h 61 1) 7) := (congrArg (fun z => svq h56 z 0) ((q1313.trans q1314).trans q1315)).trans (q1316.trans q1317)
    have e1319 : rv h 1 = (h (h 61 1) 8) := (congrArg (fun z => svq h z 1) rfl).trans rfl
    have q1320 : h56 61 1 = h35 61 1 := f58 61 1 (by decide +kernel)
    have q1321 : h35 61 1 = h8 61 1 := f37 61 1 (by decide +kernel)
    have q1322 : h8 61 1 = h 61 1 := f10 61 1 (by decide +kernel)
    have q1323 : h56 (h 61 1) 8 = h35 (h 61 1) 8 := jK 0 f58 (rg_T0_8_0_1 t1) (by first | decide | omega) (by first | decide | omega) (by decide)
    have q1324 : h35 (h 61 1) 8 = h8 (h 61 1) 8 := jK 0 f37 (rg_T0_8_0_1 t1) (by first | decide | omega) (by first | decide | omega) (by decide)
    have e1325 : rv h56 1 = (h8 (h 61 1) 8) := (congrArg (fun z => svq h56 z 1) ((q1320.trans q1321).trans q1322)).trans (q1323.trans q1324)
    have e1326 : rv h 2 = (h ((h 61 1) + 1) 2) := (congrArg (fun z => svq h z 2) rfl).trans rfl
    have q1327 : h56 61 1 = h35 61 1 := f58 61 1 (by decide +kernel)
    have q1328 : h35 61 1 = h8 61 1 := f37 61 1 (by decide +kernel)
    have q1329 : h8 61 1 = h 61 1 := f10 61 1 (by decide +kernel)
    have q1330 : h56 ((h 61 1) + 1) 2 = h35 ((h 61 1) + 1) 2 := jK 0 f58 (rg_T1_2_0_1 t1) (by first | decide | omega) (by first | decide | omega) (by decide)
    have q1331 : h35 ((h 61 1) + 1) 2 = h8 ((h 61 1) + 1) 2 := jK 0 f37 (rg_T1_2_0_1 t1) (by first | decide | omega) (by first | decide | omega) (by decide)
    have e1332 : rv h56 2 = (h8 ((h 61 1) + 1) 2) := (congrArg (fun z => svq h56 z 2) ((q1327.trans q1328).trans q1329)).trans (q1330.trans q1331)
    have e1333 : rv h 3 = (h ((h 61 1) + 3) 2) := (congrArg (fun z => svq h z 3) rfl).trans rfl
    have q1334 : h56 61 1 = h35 61 1 := f58 61 1 (by decide +kernel)
    have q1335 : h35 61 1 = h8 61 1 := f37 61 1 (by decide +kernel)
    have q1336 : h8 61 1 = h 61 1 := f10 61 1 (by decide +kernel)
    have q1337 : h56 ((h 61 1) + 3) 2 = h35 ((h 61 1) + 3) 2 := jK 0 f58 (rg_T3_2_0_1 t1) (by first | decide | omega) (by first | decide | omega) (by decide)
    have q1338 : h35 ((h 61 1) + 3) 2 = h8 ((h 61 1) + 3) 2 := jK 0 f37 (rg_T3_2_0_1 t1) (by first | decide | omega) (by first | decide | omega) (by decide)
    have e1339 : rv h56 3 = (h8 ((h 61 1) + 3) 2) := (congrArg (fun z => svq h56 z 3) ((q1334.trans q1335).trans q1336)).trans (q1337.trans q1338)
    have q1340 : h56 61 1 = h35 61 1 := f58 61 1 (by decide +kernel)
    have q1341 : h35 61 1 = h8 61 1 := f37 61 1 (by decide +kernel)
    have q1342 : h8 61 1 = h 61 1 := f10 61 1 (by decide +kernel)
    have q1343 : h56 ((h 61 1) + 5) 2 = h35 ((h 61 1) + 5) 2 := jK 0 f58 (rg_T5_2_0_1 t1) (by first | decide | omega) (by first | decide | omega) (by decide)
    have q1344 : h35 ((h 61 1) + 5) 2 = h8 ((h 61 1) + 5) 2 := jK 0 f37 (rg_T5_2_0_1 t1) (by first | decide | omega) (by first | decide | omega) (by decide)
    have e1345 : rv h56 4 = (h8 ((h 61 1) + 5) 2) := (congrArg (fun z => svq h56 z 4) ((q1340.trans q1341).trans q1342)).trans (q1343.trans q1344)
    have e1346 : rv h 5 = (h ((h 61 1) + 7) 2) := (congrArg (fun z => svq h z 5) rfl).trans rfl
    have q1347 : h56 61 1 = h35 61 1 := f58 61 1 (by decide +kernel)
    have q1348 : h35 61 1 = h8 61 1 := f37 61 1 (by decide +kernel)
    have q1349 : h8 61 1 = h 61 1 := f10 61 1 (by decide +kernel)
    have q1350 : h56 ((h 61 1) + 7) 2 = h35 ((h 61 1) + 7) 2 := jK 0 f58 (rg_T7_2_0_1 t1) (by first | decide | omega) (by first | decide | omega) (by decide)
    have q1351 : h35 ((h 61 1) + 7) 2 = h8 ((h 61 1) + 7) 2 := jK 0 f37 (rg_T7_2_0_1 t1) (by first | decide | omega) (by first | decide | omega) (by decide)
    have e1352 : rv h56 5 = (h8 ((h 61 1) + 7) 2) := (congrArg (fun z => svq h56 z 5) ((q1347.trans q1348).trans q1349)).trans (q1350.trans q1351)
    have q1353 : h8 1 2 = h 1 2 := jK 0 f10 rg_1_2_0_1 (by first | decide | omega) (by first | decide | omega) (by decide)
    obtain ⟨w1354, e1355⟩ := Tk.no c41 (by first | decide | omega)
    obtain ⟨w1356, e1357⟩ := Tk.no c62 (by first | decide | omega)
    have m1358 : Ot (h 61 1) h h8 := Ot.trans Ot.refl (c19)
    have m1359 : Ot (h 61 1) h h35 := Ot.fr m1358 f37 (by decide)
    have m1360 : Ot (h 61 1) h h56 := Ot.fr m1359 f58 (by decide)
    refine x_retI (np := 53) (x := 0) (by decide +kernel) (by decide) (Or.inr ⟨by decide +kernel, by first | decide | omega, by first | decide | omega⟩) ⟨_, rfl, (by decide), ?_⟩
    exact ⟨j57, f63, (by first | decide | omega), (by first | decide | omega), (by first | decide | omega), (by first | decide | omega), (by first | decide | omega), (fun z => by first | decide | omega), (by first | decide | omega), (or9.f w1354 (show h8 1 2 = h 1 2 by first | decide | omega) (show h35 1 2 = h 1 2 by first | decide | omega) (wd9.f w1356 rfl (by first | decide | omega))), m1360⟩
  have q49 : ¬ (v31 = 2147483648) := q49
  have b1361 := c39 (by first | decide | omega)
  refine x_aload (np := 24) (x := 0) (by decide +kernel) rfl (x_nc_le (by decide)) ?_
  have q1362 : h35 61 1 = h8 61 1 := f37 61 1 (by decide +kernel)
  have q1363 : h8 61 1 = h 61 1 := f10 61 1 (by decide +kernel)
  refine x_getR (np := 27) (x := 577) (f := 1) (q := (h 61 1)) (by decide +kernel) (by decide) (by decide +kernel) (q1362.trans q1363) ?_
  have q1364 : h35 (h 61 1) 2 = ((h 61 1) + 5) := tf_0_2 j36 t1
  refine x_getR (np := 30) (x := 514) (f := 2) (q := ((h 61 1) + 5)) (by decide +kernel) (by decide) (tg_0_514_2_1 t1) q1364 ?_
  refine x_iload (np := 31) (x := 1) (by decide +kernel) rfl l6 ?_
  refine x_const (np := 32) (x := 9223372039002259456) (a := 2147483648) (by decide +kernel) (by decide) (by decide) ?_
  refine x_const (np := 33) (x := 9223372043297226753) (a := 2147483649) (by decide +kernel) (by decide) (by decide) ?_
  refine x_cV (t := 6) (mj := 69) (n := 4) (rc := 7) (ml := 5) (nr := 0) (np := 36) (as := [x_r ((h 61 1) + 5), iv_c v5, iv_c 2147483648, iv_c 2147483649]) (rest := []) (lo1 := [x_r ((h 61 1) + 5), iv_c v5, iv_c 2147483648, iv_c 2147483649, 147573952589676412928]) (by decide +kernel) (by decide) (by decide +kernel) (x_rb_of (tr_5_7 t1)) rfl rfl (x_wr (tn_5 t1) (x_wi l6 (x_wi (by decide) (x_wi (by decide) x_wn)))) x_wn (by decide) rfl (c69_T5_c0 j36 t1 (by first | decide | omega)  (by first | decide | omega)) (fun h1368 q1367 => ?_)
  obtain ⟨j1369, f1370⟩ := q1367
  have f1373 := Fr.trans f42 f1370 (by decide)
  refine x_goto (np := 39) (x := 53) (by decide +kernel) ?_
  refine x_aload (np := 54) (x := 0) (by decide +kernel) rfl (x_nc_le (by decide)) ?_
  refine x_aload (np := 55) (x := 0) (by decide +kernel) rfl (x_nc_le (by decide)) ?_
  have q1374 : h1368 61 1 = h35 61 1 := f1370 61 1 (by decide +kernel)
  have q1375 : h35 61 1 = h8 61 1 := f37 61 1 (by decide +kernel)
  have q1376 : h8 61 1 = h 61 1 := f10 61 1 (by decide +kernel)
  refine x_getR (np := 58) (x := 577) (f := 1) (q := (h 61 1)) (by decide +kernel) (by decide) (by decide +kernel) ((q1374.trans q1375).trans q1376) ?_
  have q1377 : h1368 (h 61 1) 2 = ((h 61 1) + 5) := tf_0_2 j1369 t1
  refine x_getR (np := 61) (x := 514) (f := 2) (q := ((h 61 1) + 5)) (by decide +kernel) (by decide) (tg_0_514_2_1 t1) q1377 ?_
  refine x_iload (np := 62) (x := 1) (by decide +kernel) rfl l6 ?_
  refine x_const (np := 63) (x := 9223372043297226753) (a := 2147483649) (by decide +kernel) (by decide) (by decide) ?_
  refine x_const (np := 64) (x := 9223372039002259456) (a := 2147483648) (by decide +kernel) (by decide) (by decide) ?_
  refine x_aload (np := 65) (x := 0) (by decide +kernel) rfl (x_nc_le (by decide)) ?_
  have q1378 : h1368 61 1 = h35 61 1 := f1370 61 1 (by decide +kernel)
  have q1379 : h35 61 1 = h8 61 1 := f37 61 1 (by decide +kernel)
  have q1380 : h8 61 1 = h 61 1 := f10 61 1 (by decide +kernel)
  refine x_getR (np := 68) (x := 577) (f := 1) (q := (h 61 1)) (by decide +kernel) (by decide) (by decide +kernel) ((q1378.trans q1379).trans q1380) ?_
  have q1381 : h1368 (h 61 1) 7 = h35 (h 61 1) 7 := jK 0 f1370 (rg_T0_7_0_1 t1) (by first | decide | omega) (by first | decide | omega) (by decide)
  have q1382 : h35 (h 61 1) 7 = h8 (h 61 1) 7 := jK 0 f37 (rg_T0_7_0_1 t1) (by first | decide | omega) (by first | decide | omega) (by decide)
  refine x_getC (np := 71) (x := 519) (f := 7) (q := (h8 (h 61 1) 7)) (by decide +kernel) (by decide) (tg_0_519_7_0 t1) (q1381.trans q1382) (fun l1383 => ?_)
  refine x_const (np := 72) (x := 9223372043297226753) (a := 2147483649) (by decide +kernel) (by decide) (by decide) ?_
  obtain ⟨v1384, q1385⟩ : ∃ z, z + 2147483649 = (h8 (h 61 1) 7) + 2147483648 := ⟨(h8 (h 61 1) 7) + 2147483648 - 2147483649, by first | decide | omega⟩
  refine x_isub (np := 73) (x := 0) (v := v1384) (by decide +kernel) l1383 (by decide) (by first | decide | omega) (by first | decide | omega) ?_
  refine x_nI (t := 6) (mj := 102) (n := 6) (rc := 10) (ml := 7) (nr := 0) (np := 76) (as := [x_r 61, x_r ((h 61 1) + 5), iv_c v5, iv_c 2147483649, iv_c 2147483648, iv_c v1384]) (rest := []) (lo1 := [x_r 61, x_r ((h 61 1) + 5), iv_c v5, iv_c 2147483649, iv_c 2147483648, iv_c v1384, 147573952589676412928]) (by decide +kernel) (by decide) (by decide +kernel) (x_rb_of (by decide +kernel)) rfl rfl (x_wr (by decide) (x_wr (tn_5 t1) (x_wi l6 (x_wi (by decide) (x_wi (by decide) (x_wi (by first | decide | omega) x_wn)))))) x_wn (by decide) rfl ?_
  refine x_aload (np := 1) (x := 0) (by decide +kernel) rfl (x_nc_le (by decide)) ?_
  have q1386 : h1368 61 0 = 1 := by have z := jB (e := 0) 0 j1369 rg_61_0_0_1 (by decide) (by decide); omega
  refine x_getR (np := 4) (x := 576) (f := 0) (q := 1) (by decide +kernel) (by decide) (by decide +kernel) q1386 ?_
  refine x_iload (np := 6) (x := 4) (by decide +kernel) rfl (by decide) ?_
  refine x_iload (np := 8) (x := 5) (by decide +kernel) rfl (by first | decide | omega) ?_
  have m1391 := Tp.fr m34 f37 (by decide) (by decide)
  have m1390 := Tp.fr m1391 f1370 (by decide) (by decide)
  refine x_cI (t := 6) (mj := 79) (n := 3) (rc := 8) (ml := 5) (nr := 0) (np := 11) (as := [x_r 1, iv_c 2147483648, iv_c v1384]) (rest := []) (lo1 := [x_r 1, iv_c 2147483648, iv_c v1384, 147573952589676412928, 147573952589676412928]) (by decide +kernel) (by decide) (by decide +kernel) (x_rb_of (by decide +kernel)) rfl rfl (x_wr (by decide) (x_wi (by decide) (x_wi (by first | decide | omega) x_wn))) x_wn (by decide) rfl (c79_1_c0 j1369   (by first | decide | omega) m1390) (fun v1387 h1392 l1388 q1389 => ?_)
  obtain ⟨j1393, f1394, b1395, c1396, c1397, c1398, c1399⟩ := q1389
  have f1400 := Fr.trans f1373 f1394 (by decide)
  have q1401 : h1368 1 2 = h35 1 2 := jK 0 f1370 rg_1_2_0_1 (by first | decide | omega) (by first | decide | omega) (by decide)
  have b1402 := jB (e := 2) 0 j1393 rg_1_2_0_1 (by first | decide | omega) (by first | decide | omega)
  have q1403 : h1368 1 2 = h35 1 2 := jK 0 f1370 rg_1_2_0_1 (by first | decide | omega) (by first | decide | omega) (by decide)
  refine x_istore (np := 13) (x := 6) (lo' := [x_r 61, x_r ((h 61 1) + 5), iv_c v5, iv_c 2147483649, iv_c 2147483648, iv_c v1384, iv_c v1387]) (by decide +kernel) l1388 (Nat.le_of_ble_eq_true rfl) rfl ?_
  refine x_iload (np := 15) (x := 6) (by decide +kernel) rfl l1388 ?_
  refine x_const (np := 16) (x := 9223372034707292159) (a := 2147483647) (by decide +kernel) (by decide) (by decide) ?_
  refine x_icmp (k := 1) (tg := 21) (np := 19) (by decide +kernel) (by decide) l1388 (by decide) (fun q1404 => ?_) (fun q1405 => ?_)
  · have q1404 : v1387 ≠ 2147483647 := q1404
    have b1406 := c1397 (by first | decide | omega)
    refine x_aload (np := 22) (x := 1) (by decide +kernel) rfl (x_nc_le (tn_5 t1)) ?_
    refine x_iload (np := 23) (x := 2) (by decide +kernel) rfl l6 ?_
    refine x_iload (np := 24) (x := 3) (by decide +kernel) rfl (by decide) ?_
    refine x_iload (np := 26) (x := 6) (by decide +kernel) rfl l1388 ?_
    refine x_cV (t := 6) (mj := 69) (n := 4) (rc := 7) (ml := 5) (nr := 0) (np := 29) (as := [x_r ((h 61 1) + 5), iv_c v5, iv_c 2147483649, iv_c v1387]) (rest := []) (lo1 := [x_r ((h 61 1) + 5), iv_c v5, iv_c 2147483649, iv_c v1387, 147573952589676412928]) (by decide +kernel) (by decide) (by decide +kernel) (x_rb_of (tr_5_7 t1)) rfl rfl (x_wr (tn_5 t1) (x_wi l6 (x_wi (by decide) (x_wi l1388 x_wn)))) x_wn (by decide) rfl (c69_T5_c1 j1393 t1 (by first | decide | omega)  (by first | decide | omega)) (fun h1410 q1409 => ?_)
    obtain ⟨j1411, f1412⟩ := q1409
    have f1415 := Fr.trans f1400 f1412 (by decide)
    refine x_const (np := 30) (x := 9223372043297226753) (a := 2147483649) (by decide +kernel) (by decide) (by decide) ?_
    refine x_retI (np := 31) (x := 0) (by decide +kernel) (by decide) (Or.inr ⟨by decide +kernel, by first | decide | omega, by first | decide | omega⟩) ⟨_, rfl, (by decide), ?_⟩
    refine x_ifz (k := 0) (tg := 91) (np := 79) (by decide +kernel) (by decide) (by decide) (fun q1416 => ?_) (fun q1417 => ?_)
    · have q1416 : 2147483649 = 2147483648 := q1416
      exfalso; omega
    have q1417 : ¬ (2147483649 = 2147483648) := q1417
    refine x_aload (np := 80) (x := 0) (by decide +kernel) rfl (x_nc_le (by decide)) ?_
    have q1418 : h1410 61 0 = 1 := by have z := jB (e := 0) 0 j1411 rg_61_0_0_1 (by decide) (by decide); omega
    refine x_getR (np := 83) (x := 576) (f := 0) (q := 1) (by decide +kernel) (by decide) (by decide +kernel) q1418 ?_
    refine x_ldcB (i := 2) (idx := 111) (tx := "day") (by rw [tb_y99]; exact List.mem_of_getElem? (i := 2) rfl) (by decide) (by rw [tb_b99]; decide +kernel) ?_
    have m1423 := Tp.fr m1390 f1394 (by decide) (by decide)
    have m1422 := Tp.fr m1423 f1412 (by decide) (by decide)
    refine x_cI (t := 6) (mj := 78) (n := 2) (rc := 8) (ml := 2) (nr := 0) (np := 88) (as := [x_r 1, x_b (2 + 1)]) (rest := []) (lo1 := [x_r 1, x_b (2 + 1)]) (by decide +kernel) (by decide) (by decide +kernel) (x_rb_of (by decide +kernel)) rfl rfl (x_wr (by decide) (x_wB (by decide) x_wn)) x_wn (by decide) rfl (c78_1_S0 j1411  (by decide) m1422) (fun v1419 h1424 l1420 q1421 => ?_)
    obtain ⟨j1425, f1426, b1427, c1428, c1429, c1430⟩ := q1421
    have f1431 := Fr.trans f1415 f1426 (by decide)
    have q1432 : h1410 1 2 = h1392 1 2 := jK 0 f1412 rg_1_2_0_1 (by first | decide | omega) (by first | decide | omega) (by decide)
    have b1433 := jB (e := 2) 0 j1425 rg_1_2_0_1 (by first | decide | omega) (by first | decide | omega)
    have b1434 : iv_tl 2 = 3 := by decide
    have q1435 : h1410 1 2 = h1392 1 2 := jK 0 f1412 rg_1_2_0_1 (by first | decide | omega) (by first | decide | omega) (by decide)
    refine x_ifz (k := 1) (tg := 93) (np := 91) (by decide +kernel) (by decide) l1420 (fun q1436 => ?_) (fun q1437 => ?_)
    · have q1436 : v1419 ≠ 2147483648 := q1436
      have b1438 := c1428 (by first | decide | omega)
      refine x_aload (np := 94) (x := 0) (by decide +kernel) rfl (x_nc_le (by decide)) ?_
      have q1439 : h1424 61 0 = 1 := by have z := jB (e := 0) 0 j1425 rg_61_0_0_1 (by decide) (by decide); omega
      refine x_getR (np := 97) (x := 576) (f := 0) (q := 1) (by decide +kernel) (by decide) (by decide +kernel) q1439 ?_
      refine x_const (np := 98) (x := 9223372039002259456) (a := 2147483648) (by decide +kernel) (by decide) (by decide) ?_
      refine x_const (np := 100) (x := 9223372086246899723) (a := 2147483659) (by decide +kernel) (by decide) (by decide) ?_
      have m1443 := Tp.fr m1422 f1426 (by decide) (by decide)
      refine x_cI (t := 6) (mj := 79) (n := 3) (rc := 8) (ml := 5) (nr := 0) (np := 103) (as := [x_r 1, iv_c 2147483648, iv_c 2147483659]) (rest := []) (lo1 := [x_r 1, iv_c 2147483648, iv_c 2147483659, 147573952589676412928, 147573952589676412928]) (by decide +kernel) (by decide) (by decide +kernel) (x_rb_of (by decide +kernel)) rfl rfl (x_wr (by decide) (x_wi (by decide) (x_wi (by decide) x_wn))) x_wn (by decide) rfl (c79_1_c0 j1425   (by first | decide | omega) m1443) (fun v1440 h1444 l1441 q1442 => ?_)
      obtain ⟨j1445, f1446, b1447, c1448, c1449, c1450, c1451⟩ := q1442
      have f1452 := Fr.trans f1431 f1446 (by decide)
      have b1453 := jB (e := 2) 0 j1445 rg_1_2_0_1 (by first | decide | omega) (by first | decide | omega)
      refine x_istore (np := 104) (x := 2) (lo' := [x_r 61, iv_c v5, iv_c v1440]) (by decide +kernel) l1441 (Nat.le_of_ble_eq_true rfl) rfl ?_
      refine x_iload (np := 105) (x := 2) (by decide +kernel) rfl l1441 ?_
      refine x_const (np := 106) (x := 9223372034707292159) (a := 2147483647) (by decide +kernel) (by decide) (by decide) ?_
      refine x_icmp (k := 0) (tg := 176) (np := 109) (by decide +kernel) (by decide) l1441 (by decide) (fun q1454 => ?_) (fun q1455 => ?_)
      · have q1454 : v1440 = 2147483647 := q1454
        have b1456 := c1450 (by first | decide | omega)
        refine x_const (np := 177) (x := 9223372039002259456) (a := 2147483648) (by decide +kernel) (by decide) (by decide) ?_
        have e1457 : rv h 0 = (h (h 61 1) 7) := (congrArg (fun z => svq h z 0) rfl).trans rfl
        have q1458 : h1444 61 1 = h1424 61 1 := f1446 61 1 (by decide +kernel)
        have q1459 : h1424 61 1 = h1410 61 1 := f1426 61 1 (by decide +kernel)
        have q1460 : h1410 61 1 = h1392 61 1 := f1412 61 1 (by decide +kernel)
        have q1461 : h1392 61 1 = h1368 61 1 := f1394 61 1 (by decide +kernel)
        have q1462 : h1368 61 1 = h35 61 1 := f1370 61 1 (by decide +kernel)
        have q1463 : h35 61 1 = h8 61 1 := f37 61 1 (by decide +kernel)
        have q1464 : h8 61 1 = h 61 1 := f10 61 1 (by decide +kernel)
        have q1465 : h1444 (h 61 1) 7 = h1424 (h 61 1) 7 := jK 0 f1446 (rg_T0_7_0_1 t1) (by first | decide | omega) (by first | decide | omega) (by decide)
        have q1466 : h1424 (h 61 1) 7 = h1410 (h 61 1) 7 := jK 0 f1426 (rg_T0_7_0_1 t1) (by first | decide | omega) (by first | decide | omega) (by decide)
        have q1467 : h1410 (h 61 1) 7 = h1392 (h 61 1) 7 := jK 0 f1412 (rg_T0_7_0_1 t1) (by first | decide | omega) (by first | decide | omega) (by decide)
        have q1468 : h1392 (h 61 1) 7 = h1368 (h 61 1) 7 := jK 0 f1394 (rg_T0_7_0_1 t1) (by first | decide | omega) (by first | decide | omega) (by decide)
        have q1469 : h1368 (h 61 1) 7 = h35 (h 61 1) 7 := jK 0 f1370 (rg_T0_7_0_1 t1) (by first | decide | omega) (by first | decide | omega) (by decide)
        have q1470 : h35 (h 61 1) 7 = h8 (h 61 1) 7 := jK 0 f37 (rg_T0_7_0_1 t1) (by first | decide | omega) (by first | decide | omega) (by decide)
        have e1471 : rv h1444 0 = (h8 (h 61 1) 7) := (congrArg (fun z => svq h1444 z 0) ((((((q1458.trans q1459).trans q1460).trans q1461).trans q1462).trans q1463).trans q1464)).trans (((((q1465.trans q1466).trans q1467).trans q1468).trans q1469).trans q1470)
        have e1472 : rv h 1 = (h (h 61 1) 8) := (congrArg (fun z => svq h z 1) rfl).trans rfl
        have q1473 : h1444 61 1 = h1424 61 1 := f1446 61 1 (by decide +kernel)
        have q1474 : h1424 61 1 = h1410 61 1 := f1426 61 1 (by decide +kernel)
        have q1475 : h1410 61 1 = h1392 61 1 := f1412 61 1 (by decide +kernel)
        have q1476 : h1392 61 1 = h1368 61 1 := f1394 61 1 (by decide +kernel)
        have q1477 : h1368 61 1 = h35 61 1 := f1370 61 1 (by decide +kernel)
        have q1478 : h35 61 1 = h8 61 1 := f37 61 1 (by decide +kernel)
        have q1479 : h8 61 1 = h 61 1 := f10 61 1 (by decide +kernel)
        have q1480 : h1444 (h 61 1) 8 = h1424 (h 61 1) 8 := jK 0 f1446 (rg_T0_8_0_1 t1) (by first | decide | omega) (by first | decide | omega) (by decide)
        have q1481 : h1424 (h 61 1) 8 = h1410 (h 61 1) 8 := jK 0 f1426 (rg_T0_8_0_1 t1) (by first | decide | omega) (by first | decide | omega) (by decide)
        have q1482 : h1410 (h 61 1) 8 = h1392 (h 61 1) 8 := jK 0 f1412 (rg_T0_8_0_1 t1) (by first | decide | omega) (by first | decide | omega) (by decide)
        have q1483 : h1392 (h 61 1) 8 = h1368 (h 61 1) 8 := jK 0 f1394 (rg_T0_8_0_1 t1) (by first | decide | omega) (by first | decide | omega) (by decide)
        have q1484 : h1368 (h 61 1) 8 = h35 (h 61 1) 8 := jK 0 f1370 (rg_T0_8_0_1 t1) (by first | decide | omega) (by first | decide | omega) (by decide)
        have q1485 : h35 (h 61 1) 8 = h8 (h 61 1) 8 := jK 0 f37 (rg_T0_8_0_1 t1) (by first | decide | omega) (by first | decide | omega) (by decide)
        have e1486 : rv h1444 1 = (h8 (h 61 1) 8) := (congrArg (fun z => svq h1444 z 1) ((((((q1473.trans q1474).trans q1475).trans q1476).trans q1477).trans q1478).trans q1479)).trans (((((q1480.trans q1481).trans q1482).trans q1483).trans q1484).trans q1485)
        have e1487 : rv h 2 = (h ((h 61 1) + 1) 2) := (congrArg (fun z => svq h z 2) rfl).trans rfl
        have q1488 : h1444 61 1 = h1424 61 1 := f1446 61 1 (by decide +kernel)
        have q1489 : h1424 61 1 = h1410 61 1 := f1426 61 1 (by decide +kernel)
        have q1490 : h1410 61 1 = h1392 61 1 := f1412 61 1 (by decide +kernel)
        have q1491 : h1392 61 1 = h1368 61 1 := f1394 61 1 (by decide +kernel)
        have q1492 : h1368 61 1 = h35 61 1 := f1370 61 1 (by decide +kernel)
        have q1493 : h35 61 1 = h8 61 1 := f37 61 1 (by decide +kernel)
        have q1494 : h8 61 1 = h 61 1 := f10 61 1 (by decide +kernel)
        have q1495 : h1444 ((h 61 1) + 1) 2 = h1424 ((h 61 1) + 1) 2 := jK 0 f1446 (rg_T1_2_0_1 t1) (by first | decide | omega) (by first | decide | omega) (by decide)
        have q1496 : h1424 ((h 61 1) + 1) 2 = h1410 ((h 61 1) + 1) 2 := jK 0 f1426 (rg_T1_2_0_1 t1) (by first | decide | omega) (by first | decide | omega) (by decide)
        have q1497 : h1410 ((h 61 1) + 1) 2 = h1392 ((h 61 1) + 1) 2 := jK 0 f1412 (rg_T1_2_0_1 t1) (by first | decide | omega) (by first | decide | omega) (by decide)
        have q1498 : h1392 ((h 61 1) + 1) 2 = h1368 ((h 61 1) + 1) 2 := jK 0 f1394 (rg_T1_2_0_1 t1) (by first | decide | omega) (by first | decide | omega) (by decide)
        have q1499 : h1368 ((h 61 1) + 1) 2 = h35 ((h 61 1) + 1) 2 := jK 0 f1370 (rg_T1_2_0_1 t1) (by first | decide | omega) (by first | decide | omega) (by decide)
        have q1500 : h35 ((h 61 1) + 1) 2 = h8 ((h 61 1) + 1) 2 := jK 0 f37 (rg_T1_2_0_1 t1) (by first | decide | omega) (by first | decide | omega) (by decide)
        have e1501 : rv h1444 2 = (h8 ((h 61 1) + 1) 2) := (congrArg (fun z => svq h1444 z 2) ((((((q1488.trans q1489).trans q1490).trans q1491).trans q1492).trans q1493).trans q1494)).trans (((((q1495.trans q1496).trans q1497).trans q1498).trans q1499).trans q1500)
        have e1502 : rv h 3 = (h ((h 61 1) + 3) 2) := (congrArg (fun z => svq h z 3) rfl).trans rfl
        have q1503 : h1444 61 1 = h1424 61 1 := f1446 61 1 (by decide +kernel)
        have q1504 : h1424 61 1 = h1410 61 1 := f1426 61 1 (by decide +kernel)
        have q1505 : h1410 61 1 = h1392 61 1 := f1412 61 1 (by decide +kernel)
        have q1506 : h1392 61 1 = h1368 61 1 := f1394 61 1 (by decide +kernel)
        have q1507 : h1368 61 1 = h35 61 1 := f1370 61 1 (by decide +kernel)
        have q1508 : h35 61 1 = h8 61 1 := f37 61 1 (by decide +kernel)
        have q1509 : h8 61 1 = h 61 1 := f10 61 1 (by decide +kernel)
        have q1510 : h1444 ((h 61 1) + 3) 2 = h1424 ((h 61 1) + 3) 2 := jK 0 f1446 (rg_T3_2_0_1 t1) (by first | decide | omega) (by first | decide | omega) (by decide)
        have q1511 : h1424 ((h 61 1) + 3) 2 = h1410 ((h 61 1) + 3) 2 := jK 0 f1426 (rg_T3_2_0_1 t1) (by first | decide | omega) (by first | decide | omega) (by decide)
        have q1512 : h1410 ((h 61 1) + 3) 2 = h1392 ((h 61 1) + 3) 2 := jK 0 f1412 (rg_T3_2_0_1 t1) (by first | decide | omega) (by first | decide | omega) (by decide)
        have q1513 : h1392 ((h 61 1) + 3) 2 = h1368 ((h 61 1) + 3) 2 := jK 0 f1394 (rg_T3_2_0_1 t1) (by first | decide | omega) (by first | decide | omega) (by decide)
        have q1514 : h1368 ((h 61 1) + 3) 2 = h35 ((h 61 1) + 3) 2 := jK 0 f1370 (rg_T3_2_0_1 t1) (by first | decide | omega) (by first | decide | omega) (by decide)
        have q1515 : h35 ((h 61 1) + 3) 2 = h8 ((h 61 1) + 3) 2 := jK 0 f37 (rg_T3_2_0_1 t1) (by first | decide | omega) (by first | decide | omega) (by decide)
        have e1516 : rv h1444 3 = (h8 ((h 61 1) + 3) 2) := (congrArg (fun z => svq h1444 z 3) ((((((q1503.trans q1504).trans q1505).trans q1506).trans q1507).trans q1508).trans q1509)).trans (((((q1510.trans q1511).trans q1512).trans q1513).trans q1514).trans q1515)
        have q1517 : h1444 61 1 = h1424 61 1 := f1446 61 1 (by decide +kernel)
        have q1518 : h1424 61 1 = h1410 61 1 := f1426 61 1 (by decide +kernel)
        have q1519 : h1410 61 1 = h1392 61 1 := f1412 61 1 (by decide +kernel)
        have q1520 : h1392 61 1 = h1368 61 1 := f1394 61 1 (by decide +kernel)
        have q1521 : h1368 61 1 = h35 61 1 := f1370 61 1 (by decide +kernel)
        have q1522 : h35 61 1 = h8 61 1 := f37 61 1 (by decide +kernel)
        have q1523 : h8 61 1 = h 61 1 := f10 61 1 (by decide +kernel)
        have q1524 : h1444 ((h 61 1) + 5) 2 = h1424 ((h 61 1) + 5) 2 := jK 0 f1446 (rg_T5_2_0_1 t1) (by first | decide | omega) (by first | decide | omega) (by decide)
        have q1525 : h1424 ((h 61 1) + 5) 2 = h1410 ((h 61 1) + 5) 2 := jK 0 f1426 (rg_T5_2_0_1 t1) (by first | decide | omega) (by first | decide | omega) (by decide)
        have q1526 : h1410 ((h 61 1) + 5) 2 = h1392 ((h 61 1) + 5) 2 := jK 0 f1412 (rg_T5_2_0_1 t1) (by first | decide | omega) (by first | decide | omega) (by decide)
        have q1527 : h1392 ((h 61 1) + 5) 2 = h1368 ((h 61 1) + 5) 2 := jK 0 f1394 (rg_T5_2_0_1 t1) (by first | decide | omega) (by first | decide | omega) (by decide)
        have q1528 : h1368 ((h 61 1) + 5) 2 = h35 ((h 61 1) + 5) 2 := jK 0 f1370 (rg_T5_2_0_1 t1) (by first | decide | omega) (by first | decide | omega) (by decide)
        have q1529 : h35 ((h 61 1) + 5) 2 = h8 ((h 61 1) + 5) 2 := jK 0 f37 (rg_T5_2_0_1 t1) (by first | decide | omega) (by first | decide | omega) (by decide)
        have e1530 : rv h1444 4 = (h8 ((h 61 1) + 5) 2) := (congrArg (fun z => svq h1444 z 4) ((((((q1517.trans q1518).trans q1519).trans q1520).trans q1521).trans q1522).trans q1523)).trans (((((q1524.trans q1525).trans q1526).trans q1527).trans q1528).trans q1529)
        have e1531 : rv h 5 = (h ((h 61 1) + 7) 2) := (congrArg (fun z => svq h z 5) rfl).trans rfl
        have q1532 : h1444 61 1 = h1424 61 1 := f1446 61 1 (by decide +kernel)
        have q1533 : h1424 61 1 = h1410 61 1 := f1426 61 1 (by decide +kernel)
        have q1534 : h1410 61 1 = h1392 61 1 := f1412 61 1 (by decide +kernel)
        have q1535 : h1392 61 1 = h1368 61 1 := f1394 61 1 (by decide +kernel)
        have q1536 : h1368 61 1 = h35 61 1 := f1370 61 1 (by decide +kernel)
        have q1537 : h35 61 1 = h8 61 1 := f37 61 1 (by decide +kernel)
        have q1538 : h8 61 1 = h 61 1 := f10 61 1 (by decide +kernel)
        have q1539 : h1444 ((h 61 1) + 7) 2 = h1424 ((h 61 1) + 7) 2 := jK 0 f1446 (rg_T7_2_0_1 t1) (by first | decide | omega) (by first | decide | omega) (by decide)
        have q1540 : h1424 ((h 61 1) + 7) 2 = h1410 ((h 61 1) + 7) 2 := jK 0 f1426 (rg_T7_2_0_1 t1) (by first | decide | omega) (by first | decide | omega) (by decide)
        have q1541 : h1410 ((h 61 1) + 7) 2 = h1392 ((h 61 1) + 7) 2 := jK 0 f1412 (rg_T7_2_0_1 t1) (by first | decide | omega) (by first | decide | omega) (by decide)
        have q1542 : h1392 ((h 61 1) + 7) 2 = h1368 ((h 61 1) + 7) 2 := jK 0 f1394 (rg_T7_2_0_1 t1) (by first | decide | omega) (by first | decide | omega) (by decide)
        have q1543 : h1368 ((h 61 1) + 7) 2 = h35 ((h 61 1) + 7) 2 := jK 0 f1370 (rg_T7_2_0_1 t1) (by first | decide | omega) (by first | decide | omega) (by decide)
        have q1544 : h35 ((h 61 1) + 7) 2 = h8 ((h 61 1) + 7) 2 := jK 0 f37 (rg_T7_2_0_1 t1) (by first | decide | omega) (by first | decide | omega) (by decide)
        have e1545 : rv h1444 5 = (h8 ((h 61 1) + 7) 2) := (congrArg (fun z => svq h1444 z 5) ((((((q1532.trans q1533).trans q1534).trans q1535).trans q1536).trans q1537).trans q1538)).trans (((((q1539.trans q1540).trans q1541).trans q1542).trans q1543).trans q1544)
        have q1546 : h8 1 2 = h 1 2 := jK 0 f10 rg_1_2_0_1 (by first | decide | omega) (by first | decide | omega) (by decide)
        obtain ⟨w1547, e1548⟩ := Tk.yes c41 (by first | decide | omega)
        have q1549 : h1368 1 2 = h35 1 2 := jK 0 f1370 rg_1_2_0_1 (by first | decide | omega) (by first | decide | omega) (by decide)
        have q1550 : h1410 1 2 = h1392 1 2 := jK 0 f1412 rg_1_2_0_1 (by first | decide | omega) (by first | decide | omega) (by decide)
        obtain ⟨w1551, e1552⟩ := Tk.yes c1430 (by first | decide | omega)
        have m1553 : Ot (h 61 1) h h8 := Ot.trans Ot.refl (c19)
        have m1554 : Ot (h 61 1) h h35 := Ot.fr m1553 f37 (by decide)
        have m1555 : Ot (h 61 1) h h1368 := Ot.fr m1554 f1370 (by decide)
        have m1556 : Ot (h 61 1) h h1392 := Ot.fr m1555 f1394 (by decide)
        have m1557 : Ot (h 61 1) h h1410 := Ot.fr m1556 f1412 (by decide)
        have m1558 : Ot (h 61 1) h h1424 := Ot.fr m1557 f1426 (by decide)
        have m1559 : Ot (h 61 1) h h1444 := Ot.fr m1558 f1446 (by decide)
        refine x_retI (np := 178) (x := 0) (by decide +kernel) (by decide) (Or.inr ⟨by decide +kernel, by first | decide | omega, by first | decide | omega⟩) ⟨_, rfl, (by decide), ?_⟩
        exact ⟨j1445, f1452, (by first | decide | omega), (by first | decide | omega), (by first | decide | omega), (by first | decide | omega), (by first | decide | omega), (fun z => by first | decide | omega), (by first | decide | omega), (or9.y w1547 (show h8 1 2 = h 1 2 by first | decide | omega) e1548 rfl (nm9.y c1399 (by first | decide | omega) (by first | decide | omega) (show h1368 1 2 = h35 1 2 by first | decide | omega) (by first | decide | omega) rfl (wd9.y w1551 (show h1410 1 2 = h1392 1 2 by first | decide | omega) e1552 rfl (nm9.f c1451 (by first | decide | omega) (by first | decide | omega) rfl (by first | decide | omega) (by first | decide | omega))))), m1559⟩
      have q1455 : ¬ (v1440 = 2147483647) := q1455
      have b1560 := c1449 (by first | decide | omega)
      refine x_aload (np := 110) (x := 0) (by decide +kernel) rfl (x_nc_le (by decide)) ?_
      have q1561 : h1444 61 0 = 1 := by have z := jB (e := 0) 0 j1445 rg_61_0_0_1 (by decide) (by decide); omega
      refine x_getR (np := 113) (x := 576) (f := 0) (q := 1) (by decide +kernel) (by decide) (by decide +kernel) q1561 ?_
      refine x_ldcB (i := 11) (idx := 153) (tx := "judged") (by rw [tb_y99]; exact List.mem_of_getElem? (i := 11) rfl) (by decide) (by rw [tb_b99]; decide +kernel) ?_
      have m1565 := Tp.fr m1443 f1446 (by decide) (by decide)
      refine x_cI (t := 6) (mj := 78) (n := 2) (rc := 8) (ml := 2) (nr := 0) (np := 118) (as := [x_r 1, x_b (11 + 1)]) (rest := []) (lo1 := [x_r 1, x_b (11 + 1)]) (by decide +kernel) (by decide) (by decide +kernel) (x_rb_of (by decide +kernel)) rfl rfl (x_wr (by decide) (x_wB (by decide) x_wn)) x_wn (by decide) rfl (c78_1_S0 j1445  (by decide) m1565) (fun v1562 h1566 l1563 q1564 => ?_)
      obtain ⟨j1567, f1568, b1569, c1570, c1571, c1572⟩ := q1564
      have f1573 := Fr.trans f1452 f1568 (by decide)
      have b1574 := jB (e := 2) 0 j1567 rg_1_2_0_1 (by first | decide | omega) (by first | decide | omega)
      have b1575 : iv_tl 11 = 6 := by decide
      refine x_ifz (k := 0) (tg := 176) (np := 121) (by decide +kernel) (by decide) l1563 (fun q1576 => ?_) (fun q1577 => ?_)
      · have q1576 : v1562 = 2147483648 := q1576
        have b1578 := c1571 (by first | decide | omega)
        refine x_const (np := 177) (x := 9223372039002259456) (a := 2147483648) (by decide +kernel) (by decide) (by decide) ?_
        have e1579 : rv h 0 = (h (h 61 1) 7) := (congrArg (fun z => svq h z 0) rfl).trans rfl
        have q1580 : h1566 61 1 = h1444 61 1 := f1568 61 1 (by decide +kernel)
        have q1581 : h1444 61 1 = h1424 61 1 := f1446 61 1 (by decide +kernel)
        have q1582 : h1424 61 1 = h1410 61 1 := f1426 61 1 (by decide +kernel)
        have q1583 : h1410 61 1 = h1392 61 1 := f1412 61 1 (by decide +kernel)
        have q1584 : h1392 61 1 = h1368 61 1 := f1394 61 1 (by decide +kernel)
        have q1585 : h1368 61 1 = h35 61 1 := f1370 61 1 (by decide +kernel)
        have q1586 : h35 61 1 = h8 61 1 := f37 61 1 (by decide +kernel)
        have q1587 : h8 61 1 = h 61 1 := f10 61 1 (by decide +kernel)
        have q1588 : h1566 (h 61 1) 7 = h1444 (h 61 1) 7 := jK 0 f1568 (rg_T0_7_0_1 t1) (by first | decide | omega) (by first | decide | omega) (by decide)
        have q1589 : h1444 (h 61 1) 7 = h1424 (h 61 1) 7 := jK 0 f1446 (rg_T0_7_0_1 t1) (by first | decide | omega) (by first | decide | omega) (by decide)
        have q1590 : h1424 (h 61 1) 7 = h1410 (h 61 1) 7 := jK 0 f1426 (rg_T0_7_0_1 t1) (by first | decide | omega) (by first | decide | omega) (by decide)
        have q1591 : h1410 (h 61 1) 7 = h1392 (h 61 1) 7 := jK 0 f1412 (rg_T0_7_0_1 t1) (by first | decide | omega) (by first | decide | omega) (by decide)
        have q1592 : h1392 (h 61 1) 7 = h1368 (h 61 1) 7 := jK 0 f1394 (rg_T0_7_0_1 t1) (by first | decide | omega) (by first | decide | omega) (by decide)
        have q1593 : h1368 (h 61 1) 7 = h35 (h 61 1) 7 := jK 0 f1370 (rg_T0_7_0_1 t1) (by first | decide | omega) (by first | decide | omega) (by decide)
        have q1594 : h35 (h 61 1) 7 = h8 (h 61 1) 7 := jK 0 f37 (rg_T0_7_0_1 t1) (by first | decide | omega) (by first | decide | omega) (by decide)
        have e1595 : rv h1566 0 = (h8 (h 61 1) 7) := (congrArg (fun z => svq h1566 z 0) (((((((q1580.trans q1581).trans q1582).trans q1583).trans q1584).trans q1585).trans q1586).trans q1587)).trans ((((((q1588.trans q1589).trans q1590).trans q1591).trans q1592).trans q1593).trans q1594)
        have e1596 : rv h 1 = (h (h 61 1) 8) := (congrArg (fun z => svq h z 1) rfl).trans rfl
        have q1597 : h1566 61 1 = h1444 61 1 := f1568 61 1 (by decide +kernel)
        have q1598 : h1444 61 1 = h1424 61 1 := f1446 61 1 (by decide +kernel)
        have q1599 : h1424 61 1 = h1410 61 1 := f1426 61 1 (by decide +kernel)
        have q1600 : h1410 61 1 = h1392 61 1 := f1412 61 1 (by decide +kernel)
        have q1601 : h1392 61 1 = h1368 61 1 := f1394 61 1 (by decide +kernel)
        have q1602 : h1368 61 1 = h35 61 1 := f1370 61 1 (by decide +kernel)
        have q1603 : h35 61 1 = h8 61 1 := f37 61 1 (by decide +kernel)
        have q1604 : h8 61 1 = h 61 1 := f10 61 1 (by decide +kernel)
        have q1605 : h1566 (h 61 1) 8 = h1444 (h 61 1) 8 := jK 0 f1568 (rg_T0_8_0_1 t1) (by first | decide | omega) (by first | decide | omega) (by decide)
        have q1606 : h1444 (h 61 1) 8 = h1424 (h 61 1) 8 := jK 0 f1446 (rg_T0_8_0_1 t1) (by first | decide | omega) (by first | decide | omega) (by decide)
        have q1607 : h1424 (h 61 1) 8 = h1410 (h 61 1) 8 := jK 0 f1426 (rg_T0_8_0_1 t1) (by first | decide | omega) (by first | decide | omega) (by decide)
        have q1608 : h1410 (h 61 1) 8 = h1392 (h 61 1) 8 := jK 0 f1412 (rg_T0_8_0_1 t1) (by first | decide | omega) (by first | decide | omega) (by decide)
        have q1609 : h1392 (h 61 1) 8 = h1368 (h 61 1) 8 := jK 0 f1394 (rg_T0_8_0_1 t1) (by first | decide | omega) (by first | decide | omega) (by decide)
        have q1610 : h1368 (h 61 1) 8 = h35 (h 61 1) 8 := jK 0 f1370 (rg_T0_8_0_1 t1) (by first | decide | omega) (by first | decide | omega) (by decide)
        have q1611 : h35 (h 61 1) 8 = h8 (h 61 1) 8 := jK 0 f37 (rg_T0_8_0_1 t1) (by first | decide | omega) (by first | decide | omega) (by decide)
        have e1612 : rv h1566 1 = (h8 (h 61 1) 8) := (congrArg (fun z => svq h1566 z 1) (((((((q1597.trans q1598).trans q1599).trans q1600).trans q1601).trans q1602).trans q1603).trans q1604)).trans ((((((q1605.trans q1606).trans q1607).trans q1608).trans q1609).trans q1610).trans q1611)
        have e1613 : rv h 2 = (h ((h 61 1) + 1) 2) := (congrArg (fun z => svq h z 2) rfl).trans rfl
        have q1614 : h1566 61 1 = h1444 61 1 := f1568 61 1 (by decide +kernel)
        have q1615 : h1444 61 1 = h1424 61 1 := f1446 61 1 (by decide +kernel)
        have q1616 : h1424 61 1 = h1410 61 1 := f1426 61 1 (by decide +kernel)
        have q1617 : h1410 61 1 = h1392 61 1 := f1412 61 1 (by decide +kernel)
        have q1618 : h1392 61 1 = h1368 61 1 := f1394 61 1 (by decide +kernel)
        have q1619 : h1368 61 1 = h35 61 1 := f1370 61 1 (by decide +kernel)
        have q1620 : h35 61 1 = h8 61 1 := f37 61 1 (by decide +kernel)
        have q1621 : h8 61 1 = h 61 1 := f10 61 1 (by decide +kernel)
        have q1622 : h1566 ((h 61 1) + 1) 2 = h1444 ((h 61 1) + 1) 2 := jK 0 f1568 (rg_T1_2_0_1 t1) (by first | decide | omega) (by first | decide | omega) (by decide)
        have q1623 : h1444 ((h 61 1) + 1) 2 = h1424 ((h 61 1) + 1) 2 := jK 0 f1446 (rg_T1_2_0_1 t1) (by first | decide | omega) (by first | decide | omega) (by decide)
        have q1624 : h1424 ((h 61 1) + 1) 2 = h1410 ((h 61 1) + 1) 2 := jK 0 f1426 (rg_T1_2_0_1 t1) (by first | decide | omega) (by first | decide | omega) (by decide)
        have q1625 : h1410 ((h 61 1) + 1) 2 = h1392 ((h 61 1) + 1) 2 := jK 0 f1412 (rg_T1_2_0_1 t1) (by first | decide | omega) (by first | decide | omega) (by decide)
        have q1626 : h1392 ((h 61 1) + 1) 2 = h1368 ((h 61 1) + 1) 2 := jK 0 f1394 (rg_T1_2_0_1 t1) (by first | decide | omega) (by first | decide | omega) (by decide)
        have q1627 : h1368 ((h 61 1) + 1) 2 = h35 ((h 61 1) + 1) 2 := jK 0 f1370 (rg_T1_2_0_1 t1) (by first | decide | omega) (by first | decide | omega) (by decide)
        have q1628 : h35 ((h 61 1) + 1) 2 = h8 ((h 61 1) + 1) 2 := jK 0 f37 (rg_T1_2_0_1 t1) (by first | decide | omega) (by first | decide | omega) (by decide)
        have e1629 : rv h1566 2 = (h8 ((h 61 1) + 1) 2) := (congrArg (fun z => svq h1566 z 2) (((((((q1614.trans q1615).trans q1616).trans q1617).trans q1618).trans q1619).trans q1620).trans q1621)).trans ((((((q1622.trans q1623).trans q1624).trans q1625).trans q1626).trans q1627).trans q1628)
        have e1630 : rv h 3 = (h ((h 61 1) + 3) 2) := (congrArg (fun z => svq h z 3) rfl).trans rfl
        have q1631 : h1566 61 1 = h1444 61 1 := f1568 61 1 (by decide +kernel)
        have q1632 : h1444 61 1 = h1424 61 1 := f1446 61 1 (by decide +kernel)
        have q1633 : h1424 61 1 = h1410 61 1 := f1426 61 1 (by decide +kernel)
        have q1634 : h1410 61 1 = h1392 61 1 := f1412 61 1 (by decide +kernel)
        have q1635 : h1392 61 1 = h1368 61 1 := f1394 61 1 (by decide +kernel)
        have q1636 : h1368 61 1 = h35 61 1 := f1370 61 1 (by decide +kernel)
        have q1637 : h35 61 1 = h8 61 1 := f37 61 1 (by decide +kernel)
        have q1638 : h8 61 1 = h 61 1 := f10 61 1 (by decide +kernel)
        have q1639 : h1566 ((h 61 1) + 3) 2 = h1444 ((h 61 1) + 3) 2 := jK 0 f1568 (rg_T3_2_0_1 t1) (by first | decide | omega) (by first | decide | omega) (by decide)
        have q1640 : h1444 ((h 61 1) + 3) 2 = h1424 ((h 61 1) + 3) 2 := jK 0 f1446 (rg_T3_2_0_1 t1) (by first | decide | omega) (by first | decide | omega) (by decide)
        have q1641 : h1424 ((h 61 1) + 3) 2 = h1410 ((h 61 1) + 3) 2 := jK 0 f1426 (rg_T3_2_0_1 t1) (by first | decide | omega) (by first | decide | omega) (by decide)
        have q1642 : h1410 ((h 61 1) + 3) 2 = h1392 ((h 61 1) + 3) 2 := jK 0 f1412 (rg_T3_2_0_1 t1) (by first | decide | omega) (by first | decide | omega) (by decide)
        have q1643 : h1392 ((h 61 1) + 3) 2 = h1368 ((h 61 1) + 3) 2 := jK 0 f1394 (rg_T3_2_0_1 t1) (by first | decide | omega) (by first | decide | omega) (by decide)
        have q1644 : h1368 ((h 61 1) + 3) 2 = h35 ((h 61 1) + 3) 2 := jK 0 f1370 (rg_T3_2_0_1 t1) (by first | decide | omega) (by first | decide | omega) (by decide)
        have q1645 : h35 ((h 61 1) + 3) 2 = h8 ((h 61 1) + 3) 2 := jK 0 f37 (rg_T3_2_0_1 t1) (by first | decide | omega) (by first | decide | omega) (by decide)
        have e1646 : rv h1566 3 = (h8 ((h 61 1) + 3) 2) := (congrArg (fun z => svq h1566 z 3) (((((((q1631.trans q1632).trans q1633).trans q1634).trans q1635).trans q1636).trans q1637).trans q1638)).trans ((((((q1639.trans q1640).trans q1641).trans q1642).trans q1643).trans q1644).trans q1645)
        have q1647 : h1566 61 1 = h1444 61 1 := f1568 61 1 (by decide +kernel)
        have q1648 : h1444 61 1 = h1424 61 1 := f1446 61 1 (by decide +kernel)
        have q1649 : h1424 61 1 = h1410 61 1 := f1426 61 1 (by decide +kernel)
        have q1650 : h1410 61 1 = h1392 61 1 := f1412 61 1 (by decide +kernel)
        have q1651 : h1392 61 1 = h1368 61 1 := f1394 61 1 (by decide +kernel)
        have q1652 : h1368 61 1 = h35 61 1 := f1370 61 1 (by decide +kernel)
        have q1653 : h35 61 1 = h8 61 1 := f37 61 1 (by decide +kernel)
        have q1654 : h8 61 1 = h 61 1 := f10 61 1 (by decide +kernel)
        have q1655 : h1566 ((h 61 1) + 5) 2 = h1444 ((h 61 1) + 5) 2 := jK 0 f1568 (rg_T5_2_0_1 t1) (by first | decide | omega) (by first | decide | omega) (by decide)
        have q1656 : h1444 ((h 61 1) + 5) 2 = h1424 ((h 61 1) + 5) 2 := jK 0 f1446 (rg_T5_2_0_1 t1) (by first | decide | omega) (by first | decide | omega) (by decide)
        have q1657 : h1424 ((h 61 1) + 5) 2 = h1410 ((h 61 1) + 5) 2 := jK 0 f1426 (rg_T5_2_0_1 t1) (by first | decide | omega) (by first | decide | omega) (by decide)
        have q1658 : h1410 ((h 61 1) + 5) 2 = h1392 ((h 61 1) + 5) 2 := jK 0 f1412 (rg_T5_2_0_1 t1) (by first | decide | omega) (by first | decide | omega) (by decide)
        have q1659 : h1392 ((h 61 1) + 5) 2 = h1368 ((h 61 1) + 5) 2 := jK 0 f1394 (rg_T5_2_0_1 t1) (by first | decide | omega) (by first | decide | omega) (by decide)
        have q1660 : h1368 ((h 61 1) + 5) 2 = h35 ((h 61 1) + 5) 2 := jK 0 f1370 (rg_T5_2_0_1 t1) (by first | decide | omega) (by first | decide | omega) (by decide)
        have q1661 : h35 ((h 61 1) + 5) 2 = h8 ((h 61 1) + 5) 2 := jK 0 f37 (rg_T5_2_0_1 t1) (by first | decide | omega) (by first | decide | omega) (by decide)
        have e1662 : rv h1566 4 = (h8 ((h 61 1) + 5) 2) := (congrArg (fun z => svq h1566 z 4) (((((((q1647.trans q1648).trans q1649).trans q1650).trans q1651).trans q1652).trans q1653).trans q1654)).trans ((((((q1655.trans q1656).trans q1657).trans q1658).trans q1659).trans q1660).trans q1661)
        have e1663 : rv h 5 = (h ((h 61 1) + 7) 2) := (congrArg (fun z => svq h z 5) rfl).trans rfl
        have q1664 : h1566 61 1 = h1444 61 1 := f1568 61 1 (by decide +kernel)
        have q1665 : h1444 61 1 = h1424 61 1 := f1446 61 1 (by decide +kernel)
        have q1666 : h1424 61 1 = h1410 61 1 := f1426 61 1 (by decide +kernel)
        have q1667 : h1410 61 1 = h1392 61 1 := f1412 61 1 (by decide +kernel)
        have q1668 : h1392 61 1 = h1368 61 1 := f1394 61 1 (by decide +kernel)
        have q1669 : h1368 61 1 = h35 61 1 := f1370 61 1 (by decide +kernel)
        have q1670 : h35 61 1 = h8 61 1 := f37 61 1 (by decide +kernel)
        have q1671 : h8 61 1 = h 61 1 := f10 61 1 (by decide +kernel)
        have q1672 : h1566 ((h 61 1) + 7) 2 = h1444 ((h 61 1) + 7) 2 := jK 0 f1568 (rg_T7_2_0_1 t1) (by first | decide | omega) (by first | decide | omega) (by decide)
        have q1673 : h1444 ((h 61 1) + 7) 2 = h1424 ((h 61 1) + 7) 2 := jK 0 f1446 (rg_T7_2_0_1 t1) (by first | decide | omega) (by first | decide | omega) (by decide)
        have q1674 : h1424 ((h 61 1) + 7) 2 = h1410 ((h 61 1) + 7) 2 := jK 0 f1426 (rg_T7_2_0_1 t1) (by first | decide | omega) (by first | decide | omega) (by decide)
        have q1675 : h1410 ((h 61 1) + 7) 2 = h1392 ((h 61 1) + 7) 2 := jK 0 f1412 (rg_T7_2_0_1 t1) (by first | decide | omega) (by first | decide | omega) (by decide)
        have q1676 : h1392 ((h 61 1) + 7) 2 = h1368 ((h 61 1) + 7) 2 := jK 0 f1394 (rg_T7_2_0_1 t1) (by first | decide | omega) (by first | decide | omega) (by decide)
        have q1677 : h1368 ((h 61 1) + 7) 2 = h35 ((h 61 1) + 7) 2 := jK 0 f1370 (rg_T7_2_0_1 t1) (by first | decide | omega) (by first | decide | omega) (by decide)
        have q1678 : h35 ((h 61 1) + 7) 2 = h8 ((h 61 1) + 7) 2 := jK 0 f37 (rg_T7_2_0_1 t1) (by first | decide | omega) (by first | decide | omega) (by decide)
        have e1679 : rv h1566 5 = (h8 ((h 61 1) + 7) 2) := (congrArg (fun z => svq h1566 z 5) (((((((q1664.trans q1665).trans q1666).trans q1667).trans q1668).trans q1669).trans q1670).trans q1671)).trans ((((((q1672.trans q1673).trans q1674).trans q1675).trans q1676).trans q1677).trans q1678)
        have q1680 : h8 1 2 = h 1 2 := jK 0 f10 rg_1_2_0_1 (by first | decide | omega) (by first | decide | omega) (by decide)
        obtain ⟨w1681, e1682⟩ := Tk.yes c41 (by first | decide | omega)
        have q1683 : h1368 1 2 = h35 1 2 := jK 0 f1370 rg_1_2_0_1 (by first | decide | omega) (by first | decide | omega) (by decide)
        have q1684 : h1410 1 2 = h1392 1 2 := jK 0 f1412 rg_1_2_0_1 (by first | decide | omega) (by first | decide | omega) (by decide)
        obtain ⟨w1685, e1686⟩ := Tk.yes c1430 (by first | decide | omega)
        obtain ⟨w1687, e1688⟩ := Tk.no c1572 (by first | decide | omega)
        have m1689 : Ot (h 61 1) h h8 := Ot.trans Ot.refl (c19)
        have m1690 : Ot (h 61 1) h h35 := Ot.fr m1689 f37 (by decide)
        have m1691 : Ot (h 61 1) h h1368 := Ot.fr m1690 f1370 (by decide)
        have m1692 : Ot (h 61 1) h h1392 := Ot.fr m1691 f1394 (by decide)
        have m1693 : Ot (h 61 1) h h1410 := Ot.fr m1692 f1412 (by decide)
        have m1694 : Ot (h 61 1) h h1424 := Ot.fr m1693 f1426 (by decide)
        have m1695 : Ot (h 61 1) h h1444 := Ot.fr m1694 f1446 (by decide)
        have m1696 : Ot (h 61 1) h h1566 := Ot.fr m1695 f1568 (by decide)
        refine x_retI (np := 178) (x := 0) (by decide +kernel) (by decide) (Or.inr ⟨by decide +kernel, by first | decide | omega, by first | decide | omega⟩) ⟨_, rfl, (by decide), ?_⟩
        exact ⟨j1567, f1573, (by first | decide | omega), (by first | decide | omega), (by first | decide | omega), (by first | decide | omega), (by first | decide | omega), (fun z => by first | decide | omega), (by first | decide | omega), (or9.y w1681 (show h8 1 2 = h 1 2 by first | decide | omega) e1682 rfl (nm9.y c1399 (by first | decide | omega) (by first | decide | omega) (show h1368 1 2 = h35 1 2 by first | decide | omega) (by first | decide | omega) rfl (wd9.y w1685 (show h1410 1 2 = h1392 1 2 by first | decide | omega) e1686 rfl (nm9.y c1451 (by first | decide | omega) (by first | decide | omega) rfl (by first | decide | omega) rfl (wd9.f w1687 rfl (by first | decide | omega)))))), m1696⟩
      have q1577 : ¬ (v1562 = 2147483648) := q1577
      have b1697 := c1570 (by first | decide | omega)
      refine x_aload (np := 122) (x := 0) (by decide +kernel) rfl (x_nc_le (by decide)) ?_
      refine x_aload (np := 123) (x := 0) (by decide +kernel) rfl (x_nc_le (by decide)) ?_
      have q1698 : h1566 61 1 = h1444 61 1 := f1568 61 1 (by decide +kernel)
      have q1699 : h1444 61 1 = h1424 61 1 := f1446 61 1 (by decide +kernel)
      have q1700 : h1424 61 1 = h1410 61 1 := f1426 61 1 (by decide +kernel)
      have q1701 : h1410 61 1 = h1392 61 1 := f1412 61 1 (by decide +kernel)
      have q1702 : h1392 61 1 = h1368 61 1 := f1394 61 1 (by decide +kernel)
      have q1703 : h1368 61 1 = h35 61 1 := f1370 61 1 (by decide +kernel)
      have q1704 : h35 61 1 = h8 61 1 := f37 61 1 (by decide +kernel)
      have q1705 : h8 61 1 = h 61 1 := f10 61 1 (by decide +kernel)
      refine x_getR (np := 126) (x := 577) (f := 1) (q := (h 61 1)) (by decide +kernel) (by decide) (by decide +kernel) (((((((q1698.trans q1699).trans q1700).trans q1701).trans q1702).trans q1703).trans q1704).trans q1705) ?_
      have q1706 : h1566 (h 61 1) 2 = ((h 61 1) + 5) := tf_0_2 j1567 t1
      refine x_getR (np := 129) (x := 514) (f := 2) (q := ((h 61 1) + 5)) (by decide +kernel) (by decide) (tg_0_514_2_1 t1) q1706 ?_
      refine x_iload (np := 130) (x := 1) (by decide +kernel) rfl l6 ?_
      refine x_const (np := 131) (x := 9223372047592194050) (a := 2147483650) (by decide +kernel) (by decide) (by decide) ?_
      refine x_iload (np := 132) (x := 2) (by decide +kernel) rfl l1441 ?_
      refine x_const (np := 134) (x := 9223372086246899723) (a := 2147483659) (by decide +kernel) (by decide) (by decide) ?_
      refine x_nI (t := 6) (mj := 102) (n := 6) (rc := 10) (ml := 7) (nr := 0) (np := 137) (as := [x_r 61, x_r ((h 61 1) + 5), iv_c v5, iv_c 2147483650, iv_c v1440, iv_c 2147483659]) (rest := []) (lo1 := [x_r 61, x_r ((h 61 1) + 5), iv_c v5, iv_c 2147483650, iv_c v1440, iv_c 2147483659, 147573952589676412928]) (by decide +kernel) (by decide) (by decide +kernel) (x_rb_of (by decide +kernel)) rfl rfl (x_wr (by decide) (x_wr (tn_5 t1) (x_wi l6 (x_wi (by decide) (x_wi l1441 (x_wi (by decide) x_wn)))))) x_wn (by decide) rfl ?_
      refine x_aload (np := 1) (x := 0) (by decide +kernel) rfl (x_nc_le (by decide)) ?_
      have q1707 : h1566 61 0 = 1 := by have z := jB (e := 0) 0 j1567 rg_61_0_0_1 (by decide) (by decide); omega
      refine x_getR (np := 4) (x := 576) (f := 0) (q := 1) (by decide +kernel) (by decide) (by decide +kernel) q1707 ?_
      refine x_iload (np := 6) (x := 4) (by decide +kernel) rfl l1441 ?_
      refine x_iload (np := 8) (x := 5) (by decide +kernel) rfl (by decide) ?_
      have m1711 := Tp.fr m1565 f1568 (by decide) (by decide)
      refine x_cI (t := 6) (mj := 79) (n := 3) (rc := 8) (ml := 5) (nr := 0) (np := 11) (as := [x_r 1, iv_c v1440, iv_c 2147483659]) (rest := []) (lo1 := [x_r 1, iv_c v1440, iv_c 2147483659, 147573952589676412928, 147573952589676412928]) (by decide +kernel) (by decide) (by decide +kernel) (x_rb_of (by decide +kernel)) rfl rfl (x_wr (by decide) (x_wi l1441 (x_wi (by decide) x_wn))) x_wn (by decide) rfl (c79_1 j1567  (by first | decide | omega) (by first | decide | omega) m1711) (fun v1708 h1712 l1709 q1710 => ?_)
      obtain ⟨j1713, f1714, b1715, c1716, c1717, c1718, c1719⟩ := q1710
      have f1720 := Fr.trans f1573 f1714 (by decide)
      have b1721 := jB (e := 2) 0 j1713 rg_1_2_0_1 (by first | decide | omega) (by first | decide | omega)
      refine x_istore (np := 13) (x := 6) (lo' := [x_r 61, x_r ((h 61 1) + 5), iv_c v5, iv_c 2147483650, iv_c v1440, iv_c 2147483659, iv_c v1708]) (by decide +kernel) l1709 (Nat.le_of_ble_eq_true rfl) rfl ?_
      refine x_iload (np := 15) (x := 6) (by decide +kernel) rfl l1709 ?_
      refine x_const (np := 16) (x := 9223372034707292159) (a := 2147483647) (by decide +kernel) (by decide) (by decide) ?_
      refine x_icmp (k := 1) (tg := 21) (np := 19) (by decide +kernel) (by decide) l1709 (by decide) (fun q1722 => ?_) (fun q1723 => ?_)
      · have q1722 : v1708 ≠ 2147483647 := q1722
        have b1724 := c1717 (by first | decide | omega)
        refine x_aload (np := 22) (x := 1) (by decide +kernel) rfl (x_nc_le (tn_5 t1)) ?_
        refine x_iload (np := 23) (x := 2) (by decide +kernel) rfl l6 ?_
        refine x_iload (np := 24) (x := 3) (by decide +kernel) rfl (by decide) ?_
        refine x_iload (np := 26) (x := 6) (by decide +kernel) rfl l1709 ?_
        refine x_cV (t := 6) (mj := 69) (n := 4) (rc := 7) (ml := 5) (nr := 0) (np := 29) (as := [x_r ((h 61 1) + 5), iv_c v5, iv_c 2147483650, iv_c v1708]) (rest := []) (lo1 := [x_r ((h 61 1) + 5), iv_c v5, iv_c 2147483650, iv_c v1708, 147573952589676412928]) (by decide +kernel) (by decide) (by decide +kernel) (x_rb_of (tr_5_7 t1)) rfl rfl (x_wr (tn_5 t1) (x_wi l6 (x_wi (by decide) (x_wi l1709 x_wn)))) x_wn (by decide) rfl (c69_T5_c2 j1713 t1 (by first | decide | omega)  (by first | decide | omega)) (fun h1728 q1727 => ?_)
        obtain ⟨j1729, f1730⟩ := q1727
        have f1733 := Fr.trans f1720 f1730 (by decide)
        refine x_const (np := 30) (x := 9223372043297226753) (a := 2147483649) (by decide +kernel) (by decide) (by decide) ?_
        refine x_retI (np := 31) (x := 0) (by decide +kernel) (by decide) (Or.inr ⟨by decide +kernel, by first | decide | omega, by first | decide | omega⟩) ⟨_, rfl, (by decide), ?_⟩
        refine x_ifz (k := 0) (tg := 176) (np := 140) (by decide +kernel) (by decide) (by decide) (fun q1734 => ?_) (fun q1735 => ?_)
        · have q1734 : 2147483649 = 2147483648 := q1734
          exfalso; omega
        have q1735 : ¬ (2147483649 = 2147483648) := q1735
        refine x_aload (np := 141) (x := 0) (by decide +kernel) rfl (x_nc_le (by decide)) ?_
        have q1736 : h1728 61 0 = 1 := by have z := jB (e := 0) 0 j1729 rg_61_0_0_1 (by decide) (by decide); omega
        refine x_getR (np := 144) (x := 576) (f := 0) (q := 1) (by decide +kernel) (by decide) (by decide +kernel) q1736 ?_
        refine x_ldcB (i := 12) (idx := 155) (tx := "of") (by rw [tb_y99]; exact List.mem_of_getElem? (i := 12) rfl) (by decide) (by rw [tb_b99]; decide +kernel) ?_
        have m1741 := Tp.fr m1711 f1714 (by decide) (by decide)
        have m1740 := Tp.fr m1741 f1730 (by decide) (by decide)
        refine x_cI (t := 6) (mj := 78) (n := 2) (rc := 8) (ml := 2) (nr := 0) (np := 149) (as := [x_r 1, x_b (12 + 1)]) (rest := []) (lo1 := [x_r 1, x_b (12 + 1)]) (by decide +kernel) (by decide) (by decide +kernel) (x_rb_of (by decide +kernel)) rfl rfl (x_wr (by decide) (x_wB (by decide) x_wn)) x_wn (by decide) rfl (c78_1_S0 j1729  (by decide) m1740) (fun v1737 h1742 l1738 q1739 => ?_)
        obtain ⟨j1743, f1744, b1745, c1746, c1747, c1748⟩ := q1739
        have f1749 := Fr.trans f1733 f1744 (by decide)
        have q1750 : h1728 1 2 = h1712 1 2 := jK 0 f1730 rg_1_2_0_1 (by first | decide | omega) (by first | decide | omega) (by decide)
        have b1751 := jB (e := 2) 0 j1743 rg_1_2_0_1 (by first | decide | omega) (by first | decide | omega)
        have b1752 : iv_tl 12 = 2 := by decide
        have q1753 : h1728 1 2 = h1712 1 2 := jK 0 f1730 rg_1_2_0_1 (by first | decide | omega) (by first | decide | omega) (by decide)
        refine x_ifz (k := 0) (tg := 176) (np := 152) (by decide +kernel) (by decide) l1738 (fun q1754 => ?_) (fun q1755 => ?_)
        · have q1754 : v1737 = 2147483648 := q1754
          have b1756 := c1747 (by first | decide | omega)
          refine x_const (np := 177) (x := 9223372039002259456) (a := 2147483648) (by decide +kernel) (by decide) (by decide) ?_
          have e1757 : rv h 0 = (h (h 61 1) 7) := (congrArg (fun z => svq h z 0) rfl).trans rfl
          have q1758 : h1742 61 1 = h1728 61 1 := f1744 61 1 (by decide +kernel)
          have q1759 : h1728 61 1 = h1712 61 1 := f1730 61 1 (by decide +kernel)
          have q1760 : h1712 61 1 = h1566 61 1 := f1714 61 1 (by decide +kernel)
          have q1761 : h1566 61 1 = h1444 61 1 := f1568 61 1 (by decide +kernel)
          have q1762 : h1444 61 1 = h1424 61 1 := f1446 61 1 (by decide +kernel)
          have q1763 : h1424 61 1 = h1410 61 1 := f1426 61 1 (by decide +kernel)
          have q1764 : h1410 61 1 = h1392 61 1 := f1412 61 1 (by decide +kernel)
          have q1765 : h1392 61 1 = h1368 61 1 := f1394 61 1 (by decide +kernel)
          have q1766 : h1368 61 1 = h35 61 1 := f1370 61 1 (by decide +kernel)
          have q1767 : h35 61 1 = h8 61 1 := f37 61 1 (by decide +kernel)
          have q1768 : h8 61 1 = h 61 1 := f10 61 1 (by decide +kernel)
          have q1769 : h1742 (h 61 1) 7 = h1728 (h 61 1) 7 := jK 0 f1744 (rg_T0_7_0_1 t1) (by first | decide | omega) (by first | decide | omega) (by decide)
          have q1770 : h1728 (h 61 1) 7 = h1712 (h 61 1) 7 := jK 0 f1730 (rg_T0_7_0_1 t1) (by first | decide | omega) (by first | decide | omega) (by decide)
          have q1771 : h1712 (h 61 1) 7 = h1566 (h 61 1) 7 := jK 0 f1714 (rg_T0_7_0_1 t1) (by first | decide | omega) (by first | decide | omega) (by decide)
          have q1772 : h1566 (h 61 1) 7 = h1444 (h 61 1) 7 := jK 0 f1568 (rg_T0_7_0_1 t1) (by first | decide | omega) (by first | decide | omega) (by decide)
          have q1773 : h1444 (h 61 1) 7 = h1424 (h 61 1) 7 := jK 0 f1446 (rg_T0_7_0_1 t1) (by first | decide | omega) (by first | decide | omega) (by decide)
          have q1774 : h1424 (h 61 1) 7 = h1410 (h 61 1) 7 := jK 0 f1426 (rg_T0_7_0_1 t1) (by first | decide | omega) (by first | decide | omega) (by decide)
          have q1775 : h1410 (h 61 1) 7 = h1392 (h 61 1) 7 := jK 0 f1412 (rg_T0_7_0_1 t1) (by first | decide | omega) (by first | decide | omega) (by decide)
          have q1776 : h1392 (h 61 1) 7 = h1368 (h 61 1) 7 := jK 0 f1394 (rg_T0_7_0_1 t1) (by first | decide | omega) (by first | decide | omega) (by decide)
          have q1777 : h1368 (h 61 1) 7 = h35 (h 61 1) 7 := jK 0 f1370 (rg_T0_7_0_1 t1) (by first | decide | omega) (by first | decide | omega) (by decide)
          have q1778 : h35 (h 61 1) 7 = h8 (h 61 1) 7 := jK 0 f37 (rg_T0_7_0_1 t1) (by first | decide | omega) (by first | decide | omega) (by decide)
          have e1779 : rv h1742 0 = (h8 (h 61 1) 7) := (congrArg (fun z => svq h1742 z 0) ((((((((((q1758.trans q1759).trans q1760).trans q1761).trans q1762).trans q1763).trans q1764).trans q1765).trans q1766).trans q1767).trans q1768)).trans (((((((((q1769.trans q1770).trans q1771).trans q1772).trans q1773).trans q1774).trans q1775).trans q1776).trans q1777).trans q1778)
          have e1780 : rv h 1 = (h (h 61 1) 8) := (congrArg (fun z => svq h z 1) rfl).trans rfl
          have q1781 : h1742 61 1 = h1728 61 1 := f1744 61 1 (by decide +kernel)
          have q1782 : h1728 61 1 = h1712 61 1 := f1730 61 1 (by decide +kernel)
          have q1783 : h1712 61 1 = h1566 61 1 := f1714 61 1 (by decide +kernel)
          have q1784 : h1566 61 1 = h1444 61 1 := f1568 61 1 (by decide +kernel)
          have q1785 : h1444 61 1 = h1424 61 1 := f1446 61 1 (by decide +kernel)
          have q1786 : h1424 61 1 = h1410 61 1 := f1426 61 1 (by decide +kernel)
          have q1787 : h1410 61 1 = h1392 61 1 := f1412 61 1 (by decide +kernel)
          have q1788 : h1392 61 1 = h1368 61 1 := f1394 61 1 (by decide +kernel)
          have q1789 : h1368 61 1 = h35 61 1 := f1370 61 1 (by decide +kernel)
          have q1790 : h35 61 1 = h8 61 1 := f37 61 1 (by decide +kernel)
          have q1791 : h8 61 1 = h 61 1 := f10 61 1 (by decide +kernel)
          have q1792 : h1742 (h 61 1) 8 = h1728 (h 61 1) 8 := jK 0 f1744 (rg_T0_8_0_1 t1) (by first | decide | omega) (by first | decide | omega) (by decide)
          have q1793 : h1728 (h 61 1) 8 = h1712 (h 61 1) 8 := jK 0 f1730 (rg_T0_8_0_1 t1) (by first | decide | omega) (by first | decide | omega) (by decide)
          have q1794 : h1712 (h 61 1) 8 = h1566 (h 61 1) 8 := jK 0 f1714 (rg_T0_8_0_1 t1) (by first | decide | omega) (by first | decide | omega) (by decide)
          have q1795 : h1566 (h 61 1) 8 = h1444 (h 61 1) 8 := jK 0 f1568 (rg_T0_8_0_1 t1) (by first | decide | omega) (by first | decide | omega) (by decide)
          have q1796 : h1444 (h 61 1) 8 = h1424 (h 61 1) 8 := jK 0 f1446 (rg_T0_8_0_1 t1) (by first | decide | omega) (by first | decide | omega) (by decide)
          have q1797 : h1424 (h 61 1) 8 = h1410 (h 61 1) 8 := jK 0 f1426 (rg_T0_8_0_1 t1) (by first | decide | omega) (by first | decide | omega) (by decide)
          have q1798 : h1410 (h 61 1) 8 = h1392 (h 61 1) 8 := jK 0 f1412 (rg_T0_8_0_1 t1) (by first | decide | omega) (by first | decide | omega) (by decide)
          have q1799 : h1392 (h 61 1) 8 = h1368 (h 61 1) 8 := jK 0 f1394 (rg_T0_8_0_1 t1) (by first | decide | omega) (by first | decide | omega) (by decide)
          have q1800 : h1368 (h 61 1) 8 = h35 (h 61 1) 8 := jK 0 f1370 (rg_T0_8_0_1 t1) (by first | decide | omega) (by first | decide | omega) (by decide)
          have q1801 : h35 (h 61 1) 8 = h8 (h 61 1) 8 := jK 0 f37 (rg_T0_8_0_1 t1) (by first | decide | omega) (by first | decide | omega) (by decide)
          have e1802 : rv h1742 1 = (h8 (h 61 1) 8) := (congrArg (fun z => svq h1742 z 1) ((((((((((q1781.trans q1782).trans q1783).trans q1784).trans q1785).trans q1786).trans q1787).trans q1788).trans q1789).trans q1790).trans q1791)).trans (((((((((q1792.trans q1793).trans q1794).trans q1795).trans q1796).trans q1797).trans q1798).trans q1799).trans q1800).trans q1801)
          have e1803 : rv h 2 = (h ((h 61 1) + 1) 2) := (congrArg (fun z => svq h z 2) rfl).trans rfl
          have q1804 : h1742 61 1 = h1728 61 1 := f1744 61 1 (by decide +kernel)
          have q1805 : h1728 61 1 = h1712 61 1 := f1730 61 1 (by decide +kernel)
          have q1806 : h1712 61 1 = h1566 61 1 := f1714 61 1 (by decide +kernel)
          have q1807 : h1566 61 1 = h1444 61 1 := f1568 61 1 (by decide +kernel)
          have q1808 : h1444 61 1 = h1424 61 1 := f1446 61 1 (by decide +kernel)
          have q1809 : h1424 61 1 = h1410 61 1 := f1426 61 1 (by decide +kernel)
          have q1810 : h1410 61 1 = h1392 61 1 := f1412 61 1 (by decide +kernel)
          have q1811 : h1392 61 1 = h1368 61 1 := f1394 61 1 (by decide +kernel)
          have q1812 : h1368 61 1 = h35 61 1 := f1370 61 1 (by decide +kernel)
          have q1813 : h35 61 1 = h8 61 1 := f37 61 1 (by decide +kernel)
          have q1814 : h8 61 1 = h 61 1 := f10 61 1 (by decide +kernel)
          have q1815 : h1742 ((h 61 1) + 1) 2 = h1728 ((h 61 1) + 1) 2 := jK 0 f1744 (rg_T1_2_0_1 t1) (by first | decide | omega) (by first | decide | omega) (by decide)
          have q1816 : h1728 ((h 61 1) + 1) 2 = h1712 ((h 61 1) + 1) 2 := jK 0 f1730 (rg_T1_2_0_1 t1) (by first | decide | omega) (by first | decide | omega) (by decide)
          have q1817 : h1712 ((h 61 1) + 1) 2 = h1566 ((h 61 1) + 1) 2 := jK 0 f1714 (rg_T1_2_0_1 t1) (by first | decide | omega) (by first | decide | omega) (by decide)
          have q1818 : h1566 ((h 61 1) + 1) 2 = h1444 ((h 61 1) + 1) 2 := jK 0 f1568 (rg_T1_2_0_1 t1) (by first | decide | omega) (by first | decide | omega) (by decide)
          have q1819 : h1444 ((h 61 1) + 1) 2 = h1424 ((h 61 1) + 1) 2 := jK 0 f1446 (rg_T1_2_0_1 t1) (by first | decide | omega) (by first | decide | omega) (by decide)
          have q1820 : h1424 ((h 61 1) + 1) 2 = h1410 ((h 61 1) + 1) 2 := jK 0 f1426 (rg_T1_2_0_1 t1) (by first | decide | omega) (by first | decide | omega) (by decide)
          have q1821 : h1410 ((h 61 1) + 1) 2 = h1392 ((h 61 1) + 1) 2 := jK 0 f1412 (rg_T1_2_0_1 t1) (by first | decide | omega) (by first | decide | omega) (by decide)
          have q1822 : h1392 ((h 61 1) + 1) 2 = h1368 ((h 61 1) + 1) 2 := jK 0 f1394 (rg_T1_2_0_1 t1) (by first | decide | omega) (by first | decide | omega) (by decide)
          have q1823 : h1368 ((h 61 1) + 1) 2 = h35 ((h 61 1) + 1) 2 := jK 0 f1370 (rg_T1_2_0_1 t1) (by first | decide | omega) (by first | decide | omega) (by decide)
          have q1824 : h35 ((h 61 1) + 1) 2 = h8 ((h 61 1) + 1) 2 := jK 0 f37 (rg_T1_2_0_1 t1) (by first | decide | omega) (by first | decide | omega) (by decide)
          have e1825 : rv h1742 2 = (h8 ((h 61 1) + 1) 2) := (congrArg (fun z => svq h1742 z 2) ((((((((((q1804.trans q1805).trans q1806).trans q1807).trans q1808).trans q1809).trans q1810).trans q1811).trans q1812).trans q1813).trans q1814)).trans (((((((((q1815.trans q1816).trans q1817).trans q1818).trans q1819).trans q1820).trans q1821).trans q1822).trans q1823).trans q1824)
          have e1826 : rv h 3 = (h ((h 61 1) + 3) 2) := (congrArg (fun z => svq h z 3) rfl).trans rfl
          have q1827 : h1742 61 1 = h1728 61 1 := f1744 61 1 (by decide +kernel)
          have q1828 : h1728 61 1 = h1712 61 1 := f1730 61 1 (by decide +kernel)
          have q1829 : h1712 61 1 = h1566 61 1 := f1714 61 1 (by decide +kernel)
          have q1830 : h1566 61 1 = h1444 61 1 := f1568 61 1 (by decide +kernel)
          have q1831 : h1444 61 1 = h1424 61 1 := f1446 61 1 (by decide +kernel)
          have q1832 : h1424 61 1 = h1410 61 1 := f1426 61 1 (by decide +kernel)
          have q1833 : h1410 61 1 = h1392 61 1 := f1412 61 1 (by decide +kernel)
          have q1834 : h1392 61 1 = h1368 61 1 := f1394 61 1 (by decide +kernel)
          have q1835 : h1368 61 1 = h35 61 1 := f1370 61 1 (by decide +kernel)
          have q1836 : h35 61 1 = h8 61 1 := f37 61 1 (by decide +kernel)
          have q1837 : h8 61 1 = h 61 1 := f10 61 1 (by decide +kernel)
          have q1838 : h1742 ((h 61 1) + 3) 2 = h1728 ((h 61 1) + 3) 2 := jK 0 f1744 (rg_T3_2_0_1 t1) (by first | decide | omega) (by first | decide | omega) (by decide)
          have q1839 : h1728 ((h 61 1) + 3) 2 = h1712 ((h 61 1) + 3) 2 := jK 0 f1730 (rg_T3_2_0_1 t1) (by first | decide | omega) (by first | decide | omega) (by decide)
          have q1840 : h1712 ((h 61 1) + 3) 2 = h1566 ((h 61 1) + 3) 2 := jK 0 f1714 (rg_T3_2_0_1 t1) (by first | decide | omega) (by first | decide | omega) (by decide)
          have q1841 : h1566 ((h 61 1) + 3) 2 = h1444 ((h 61 1) + 3) 2 := jK 0 f1568 (rg_T3_2_0_1 t1) (by first | decide | omega) (by first | decide | omega) (by decide)
          have q1842 : h1444 ((h 61 1) + 3) 2 = h1424 ((h 61 1) + 3) 2 := jK 0 f1446 (rg_T3_2_0_1 t1) (by first | decide | omega) (by first | decide | omega) (by decide)
          have q1843 : h1424 ((h 61 1) + 3) 2 = h1410 ((h 61 1) + 3) 2 := jK 0 f1426 (rg_T3_2_0_1 t1) (by first | decide | omega) (by first | decide | omega) (by decide)
          have q1844 : h1410 ((h 61 1) + 3) 2 = h1392 ((h 61 1) + 3) 2 := jK 0 f1412 (rg_T3_2_0_1 t1) (by first | decide | omega) (by first | decide | omega) (by decide)
          have q1845 : h1392 ((h 61 1) + 3) 2 = h1368 ((h 61 1) + 3) 2 := jK 0 f1394 (rg_T3_2_0_1 t1) (by first | decide | omega) (by first | decide | omega) (by decide)
          have q1846 : h1368 ((h 61 1) + 3) 2 = h35 ((h 61 1) + 3) 2 := jK 0 f1370 (rg_T3_2_0_1 t1) (by first | decide | omega) (by first | decide | omega) (by decide)
          have q1847 : h35 ((h 61 1) + 3) 2 = h8 ((h 61 1) + 3) 2 := jK 0 f37 (rg_T3_2_0_1 t1) (by first | decide | omega) (by first | decide | omega) (by decide)
          have e1848 : rv h1742 3 = (h8 ((h 61 1) + 3) 2) := (congrArg (fun z => svq h1742 z 3) ((((((((((q1827.trans q1828).trans q1829).trans q1830).trans q1831).trans q1832).trans q1833).trans q1834).trans q1835).trans q1836).trans q1837)).trans (((((((((q1838.trans q1839).trans q1840).trans q1841).trans q1842).trans q1843).trans q1844).trans q1845).trans q1846).trans q1847)
          have q1849 : h1742 61 1 = h1728 61 1 := f1744 61 1 (by decide +kernel)
          have q1850 : h1728 61 1 = h1712 61 1 := f1730 61 1 (by decide +kernel)
          have q1851 : h1712 61 1 = h1566 61 1 := f1714 61 1 (by decide +kernel)
          have q1852 : h1566 61 1 = h1444 61 1 := f1568 61 1 (by decide +kernel)
          have q1853 : h1444 61 1 = h1424 61 1 := f1446 61 1 (by decide +kernel)
          have q1854 : h1424 61 1 = h1410 61 1 := f1426 61 1 (by decide +kernel)
          have q1855 : h1410 61 1 = h1392 61 1 := f1412 61 1 (by decide +kernel)
          have q1856 : h1392 61 1 = h1368 61 1 := f1394 61 1 (by decide +kernel)
          have q1857 : h1368 61 1 = h35 61 1 := f1370 61 1 (by decide +kernel)
          have q1858 : h35 61 1 = h8 61 1 := f37 61 1 (by decide +kernel)
          have q1859 : h8 61 1 = h 61 1 := f10 61 1 (by decide +kernel)
          have q1860 : h1742 ((h 61 1) + 5) 2 = h1728 ((h 61 1) + 5) 2 := jK 0 f1744 (rg_T5_2_0_1 t1) (by first | decide | omega) (by first | decide | omega) (by decide)
          have q1861 : h1728 ((h 61 1) + 5) 2 = h1712 ((h 61 1) + 5) 2 := jK 0 f1730 (rg_T5_2_0_1 t1) (by first | decide | omega) (by first | decide | omega) (by decide)
          have q1862 : h1712 ((h 61 1) + 5) 2 = h1566 ((h 61 1) + 5) 2 := jK 0 f1714 (rg_T5_2_0_1 t1) (by first | decide | omega) (by first | decide | omega) (by decide)
          have q1863 : h1566 ((h 61 1) + 5) 2 = h1444 ((h 61 1) + 5) 2 := jK 0 f1568 (rg_T5_2_0_1 t1) (by first | decide | omega) (by first | decide | omega) (by decide)
          have q1864 : h1444 ((h 61 1) + 5) 2 = h1424 ((h 61 1) + 5) 2 := jK 0 f1446 (rg_T5_2_0_1 t1) (by first | decide | omega) (by first | decide | omega) (by decide)
          have q1865 : h1424 ((h 61 1) + 5) 2 = h1410 ((h 61 1) + 5) 2 := jK 0 f1426 (rg_T5_2_0_1 t1) (by first | decide | omega) (by first | decide | omega) (by decide)
          have q1866 : h1410 ((h 61 1) + 5) 2 = h1392 ((h 61 1) + 5) 2 := jK 0 f1412 (rg_T5_2_0_1 t1) (by first | decide | omega) (by first | decide | omega) (by decide)
          have q1867 : h1392 ((h 61 1) + 5) 2 = h1368 ((h 61 1) + 5) 2 := jK 0 f1394 (rg_T5_2_0_1 t1) (by first | decide | omega) (by first | decide | omega) (by decide)
          have q1868 : h1368 ((h 61 1) + 5) 2 = h35 ((h 61 1) + 5) 2 := jK 0 f1370 (rg_T5_2_0_1 t1) (by first | decide | omega) (by first | decide | omega) (by decide)
          have q1869 : h35 ((h 61 1) + 5) 2 = h8 ((h 61 1) + 5) 2 := jK 0 f37 (rg_T5_2_0_1 t1) (by first | decide | omega) (by first | decide | omega) (by decide)
          have e1870 : rv h1742 4 = (h8 ((h 61 1) + 5) 2) := (congrArg (fun z => svq h1742 z 4) ((((((((((q1849.trans q1850).trans q1851).trans q1852).trans q1853).trans q1854).trans q1855).trans q1856).trans q1857).trans q1858).trans q1859)).trans (((((((((q1860.trans q1861).trans q1862).trans q1863).trans q1864).trans q1865).trans q1866).trans q1867).trans q1868).trans q1869)
          have e1871 : rv h 5 = (h ((h 61 1) + 7) 2) := (congrArg (fun z => svq h z 5) rfl).trans rfl
          have q1872 : h1742 61 1 = h1728 61 1 := f1744 61 1 (by decide +kernel)
          have q1873 : h1728 61 1 = h1712 61 1 := f1730 61 1 (by decide +kernel)
          have q1874 : h1712 61 1 = h1566 61 1 := f1714 61 1 (by decide +kernel)
          have q1875 : h1566 61 1 = h1444 61 1 := f1568 61 1 (by decide +kernel)
          have q1876 : h1444 61 1 = h1424 61 1 := f1446 61 1 (by decide +kernel)
          have q1877 : h1424 61 1 = h1410 61 1 := f1426 61 1 (by decide +kernel)
          have q1878 : h1410 61 1 = h1392 61 1 := f1412 61 1 (by decide +kernel)
          have q1879 : h1392 61 1 = h1368 61 1 := f1394 61 1 (by decide +kernel)
          have q1880 : h1368 61 1 = h35 61 1 := f1370 61 1 (by decide +kernel)
          have q1881 : h35 61 1 = h8 61 1 := f37 61 1 (by decide +kernel)
          have q1882 : h8 61 1 = h 61 1 := f10 61 1 (by decide +kernel)
          have q1883 : h1742 ((h 61 1) + 7) 2 = h1728 ((h 61 1) + 7) 2 := jK 0 f1744 (rg_T7_2_0_1 t1) (by first | decide | omega) (by first | decide | omega) (by decide)
          have q1884 : h1728 ((h 61 1) + 7) 2 = h1712 ((h 61 1) + 7) 2 := jK 0 f1730 (rg_T7_2_0_1 t1) (by first | decide | omega) (by first | decide | omega) (by decide)
          have q1885 : h1712 ((h 61 1) + 7) 2 = h1566 ((h 61 1) + 7) 2 := jK 0 f1714 (rg_T7_2_0_1 t1) (by first | decide | omega) (by first | decide | omega) (by decide)
          have q1886 : h1566 ((h 61 1) + 7) 2 = h1444 ((h 61 1) + 7) 2 := jK 0 f1568 (rg_T7_2_0_1 t1) (by first | decide | omega) (by first | decide | omega) (by decide)
          have q1887 : h1444 ((h 61 1) + 7) 2 = h1424 ((h 61 1) + 7) 2 := jK 0 f1446 (rg_T7_2_0_1 t1) (by first | decide | omega) (by first | decide | omega) (by decide)
          have q1888 : h1424 ((h 61 1) + 7) 2 = h1410 ((h 61 1) + 7) 2 := jK 0 f1426 (rg_T7_2_0_1 t1) (by first | decide | omega) (by first | decide | omega) (by decide)
          have q1889 : h1410 ((h 61 1) + 7) 2 = h1392 ((h 61 1) + 7) 2 := jK 0 f1412 (rg_T7_2_0_1 t1) (by first | decide | omega) (by first | decide | omega) (by decide)
          have q1890 : h1392 ((h 61 1) + 7) 2 = h1368 ((h 61 1) + 7) 2 := jK 0 f1394 (rg_T7_2_0_1 t1) (by first | decide | omega) (by first | decide | omega) (by decide)
          have q1891 : h1368 ((h 61 1) + 7) 2 = h35 ((h 61 1) + 7) 2 := jK 0 f1370 (rg_T7_2_0_1 t1) (by first | decide | omega) (by first | decide | omega) (by decide)
          have q1892 : h35 ((h 61 1) + 7) 2 = h8 ((h 61 1) + 7) 2 := jK 0 f37 (rg_T7_2_0_1 t1) (by first | decide | omega) (by first | decide | omega) (by decide)
          have e1893 : rv h1742 5 = (h8 ((h 61 1) + 7) 2) := (congrArg (fun z => svq h1742 z 5) ((((((((((q1872.trans q1873).trans q1874).trans q1875).trans q1876).trans q1877).trans q1878).trans q1879).trans q1880).trans q1881).trans q1882)).trans (((((((((q1883.trans q1884).trans q1885).trans q1886).trans q1887).trans q1888).trans q1889).trans q1890).trans q1891).trans q1892)
          have q1894 : h8 1 2 = h 1 2 := jK 0 f10 rg_1_2_0_1 (by first | decide | omega) (by first | decide | omega) (by decide)
          obtain ⟨w1895, e1896⟩ := Tk.yes c41 (by first | decide | omega)
          have q1897 : h1368 1 2 = h35 1 2 := jK 0 f1370 rg_1_2_0_1 (by first | decide | omega) (by first | decide | omega) (by decide)
          have q1898 : h1410 1 2 = h1392 1 2 := jK 0 f1412 rg_1_2_0_1 (by first | decide | omega) (by first | decide | omega) (by decide)
          obtain ⟨w1899, e1900⟩ := Tk.yes c1430 (by first | decide | omega)
          obtain ⟨w1901, e1902⟩ := Tk.yes c1572 (by first | decide | omega)
          have q1903 : h1728 1 2 = h1712 1 2 := jK 0 f1730 rg_1_2_0_1 (by first | decide | omega) (by first | decide | omega) (by decide)
          obtain ⟨w1904, e1905⟩ := Tk.no c1748 (by first | decide | omega)
          have m1906 : Ot (h 61 1) h h8 := Ot.trans Ot.refl (c19)
          have m1907 : Ot (h 61 1) h h35 := Ot.fr m1906 f37 (by decide)
          have m1908 : Ot (h 61 1) h h1368 := Ot.fr m1907 f1370 (by decide)
          have m1909 : Ot (h 61 1) h h1392 := Ot.fr m1908 f1394 (by decide)
          have m1910 : Ot (h 61 1) h h1410 := Ot.fr m1909 f1412 (by decide)
          have m1911 : Ot (h 61 1) h h1424 := Ot.fr m1910 f1426 (by decide)
          have m1912 : Ot (h 61 1) h h1444 := Ot.fr m1911 f1446 (by decide)
          have m1913 : Ot (h 61 1) h h1566 := Ot.fr m1912 f1568 (by decide)
          have m1914 : Ot (h 61 1) h h1712 := Ot.fr m1913 f1714 (by decide)
          have m1915 : Ot (h 61 1) h h1728 := Ot.fr m1914 f1730 (by decide)
          have m1916 : Ot (h 61 1) h h1742 := Ot.fr m1915 f1744 (by decide)
          refine x_retI (np := 178) (x := 0) (by decide +kernel) (by decide) (Or.inr ⟨by decide +kernel, by first | decide | omega, by first | decide | omega⟩) ⟨_, rfl, (by decide), ?_⟩
          exact ⟨j1743, f1749, (by first | decide | omega), (by first | decide | omega), (by first | decide | omega), (by first | decide | omega), (by first | decide | omega), (fun z => by first | decide | omega), (by first | decide | omega), (or9.y w1895 (show h8 1 2 = h 1 2 by first | decide | omega) e1896 rfl (nm9.y c1399 (by first | decide | omega) (by first | decide | omega) (show h1368 1 2 = h35 1 2 by first | decide | omega) (by first | decide | omega) rfl (wd9.y w1899 (show h1410 1 2 = h1392 1 2 by first | decide | omega) e1900 rfl (nm9.y c1451 (by first | decide | omega) (by first | decide | omega) rfl (by first | decide | omega) rfl (wd9.y w1901 rfl e1902 rfl (nm9.y c1719 (by first | decide | omega) (by first | decide | omega) rfl (by first | decide | omega) rfl (wd9.f w1904 (show h1728 1 2 = h1712 1 2 by first | decide | omega) (by first | decide | omega)))))))), m1916⟩
        have q1755 : ¬ (v1737 = 2147483648) := q1755
        have b1917 := c1746 (by first | decide | omega)
        refine x_aload (np := 153) (x := 0) (by decide +kernel) rfl (x_nc_le (by decide)) ?_
        refine x_aload (np := 154) (x := 0) (by decide +kernel) rfl (x_nc_le (by decide)) ?_
        have q1918 : h1742 61 1 = h1728 61 1 := f1744 61 1 (by decide +kernel)
        have q1919 : h1728 61 1 = h1712 61 1 := f1730 61 1 (by decide +kernel)
        have q1920 : h1712 61 1 = h1566 61 1 := f1714 61 1 (by decide +kernel)
        have q1921 : h1566 61 1 = h1444 61 1 := f1568 61 1 (by decide +kernel)
        have q1922 : h1444 61 1 = h1424 61 1 := f1446 61 1 (by decide +kernel)
        have q1923 : h1424 61 1 = h1410 61 1 := f1426 61 1 (by decide +kernel)
        have q1924 : h1410 61 1 = h1392 61 1 := f1412 61 1 (by decide +kernel)
        have q1925 : h1392 61 1 = h1368 61 1 := f1394 61 1 (by decide +kernel)
        have q1926 : h1368 61 1 = h35 61 1 := f1370 61 1 (by decide +kernel)
        have q1927 : h35 61 1 = h8 61 1 := f37 61 1 (by decide +kernel)
        have q1928 : h8 61 1 = h 61 1 := f10 61 1 (by decide +kernel)
        refine x_getR (np := 157) (x := 577) (f := 1) (q := (h 61 1)) (by decide +kernel) (by decide) (by decide +kernel) ((((((((((q1918.trans q1919).trans q1920).trans q1921).trans q1922).trans q1923).trans q1924).trans q1925).trans q1926).trans q1927).trans q1928) ?_
        have q1929 : h1742 (h 61 1) 2 = ((h 61 1) + 5) := tf_0_2 j1743 t1
        refine x_getR (np := 160) (x := 514) (f := 2) (q := ((h 61 1) + 5)) (by decide +kernel) (by decide) (tg_0_514_2_1 t1) q1929 ?_
        refine x_iload (np := 161) (x := 1) (by decide +kernel) rfl l6 ?_
        refine x_const (np := 162) (x := 9223372051887161347) (a := 2147483651) (by decide +kernel) (by decide) (by decide) ?_
        refine x_const (np := 163) (x := 9223372039002259456) (a := 2147483648) (by decide +kernel) (by decide) (by decide) ?_
        refine x_const (np := 166) (x := 9223376329674589159) (a := 2147484647) (by decide +kernel) (by decide) (by decide) ?_
        refine x_nI (t := 6) (mj := 102) (n := 6) (rc := 10) (ml := 7) (nr := 0) (np := 169) (as := [x_r 61, x_r ((h 61 1) + 5), iv_c v5, iv_c 2147483651, iv_c 2147483648, iv_c 2147484647]) (rest := []) (lo1 := [x_r 61, x_r ((h 61 1) + 5), iv_c v5, iv_c 2147483651, iv_c 2147483648, iv_c 2147484647, 147573952589676412928]) (by decide +kernel) (by decide) (by decide +kernel) (x_rb_of (by decide +kernel)) rfl rfl (x_wr (by decide) (x_wr (tn_5 t1) (x_wi l6 (x_wi (by decide) (x_wi (by decide) (x_wi (by decide) x_wn)))))) x_wn (by decide) rfl ?_
        refine x_aload (np := 1) (x := 0) (by decide +kernel) rfl (x_nc_le (by decide)) ?_
        have q1930 : h1742 61 0 = 1 := by have z := jB (e := 0) 0 j1743 rg_61_0_0_1 (by decide) (by decide); omega
        refine x_getR (np := 4) (x := 576) (f := 0) (q := 1) (by decide +kernel) (by decide) (by decide +kernel) q1930 ?_
        refine x_iload (np := 6) (x := 4) (by decide +kernel) rfl (by decide) ?_
        refine x_iload (np := 8) (x := 5) (by decide +kernel) rfl (by decide) ?_
        have m1934 := Tp.fr m1740 f1744 (by decide) (by decide)
        refine x_cI (t := 6) (mj := 79) (n := 3) (rc := 8) (ml := 5) (nr := 0) (np := 11) (as := [x_r 1, iv_c 2147483648, iv_c 2147484647]) (rest := []) (lo1 := [x_r 1, iv_c 2147483648, iv_c 2147484647, 147573952589676412928, 147573952589676412928]) (by decide +kernel) (by decide) (by decide +kernel) (x_rb_of (by decide +kernel)) rfl rfl (x_wr (by decide) (x_wi (by decide) (x_wi (by decide) x_wn))) x_wn (by decide) rfl (c79_1_c0 j1743   (by first | decide | omega) m1934) (fun v1931 h1935 l1932 q1933 => ?_)
        obtain ⟨j1936, f1937, b1938, c1939, c1940, c1941, c1942⟩ := q1933
        have f1943 := Fr.trans f1749 f1937 (by decide)
        have b1944 := jB (e := 2) 0 j1936 rg_1_2_0_1 (by first | decide | omega) (by first | decide | omega)
        refine x_istore (np := 13) (x := 6) (lo' := [x_r 61, x_r ((h 61 1) + 5), iv_c v5, iv_c 2147483651, iv_c 2147483648, iv_c 2147484647, iv_c v1931]) (by decide +kernel) l1932 (Nat.le_of_ble_eq_true rfl) rfl ?_
        refine x_iload (np := 15) (x := 6) (by decide +kernel) rfl l1932 ?_
        refine x_const (np := 16) (x := 9223372034707292159) (a := 2147483647) (by decide +kernel) (by decide) (by decide) ?_
        refine x_icmp (k := 1) (tg := 21) (np := 19) (by decide +kernel) (by decide) l1932 (by decide) (fun q1945 => ?_) (fun q1946 => ?_)
        · have q1945 : v1931 ≠ 2147483647 := q1945
          have b1947 := c1940 (by first | decide | omega)
          refine x_aload (np := 22) (x := 1) (by decide +kernel) rfl (x_nc_le (tn_5 t1)) ?_
          refine x_iload (np := 23) (x := 2) (by decide +kernel) rfl l6 ?_
          refine x_iload (np := 24) (x := 3) (by decide +kernel) rfl (by decide) ?_
          refine x_iload (np := 26) (x := 6) (by decide +kernel) rfl l1932 ?_
          refine x_cV (t := 6) (mj := 69) (n := 4) (rc := 7) (ml := 5) (nr := 0) (np := 29) (as := [x_r ((h 61 1) + 5), iv_c v5, iv_c 2147483651, iv_c v1931]) (rest := []) (lo1 := [x_r ((h 61 1) + 5), iv_c v5, iv_c 2147483651, iv_c v1931, 147573952589676412928]) (by decide +kernel) (by decide) (by decide +kernel) (x_rb_of (tr_5_7 t1)) rfl rfl (x_wr (tn_5 t1) (x_wi l6 (x_wi (by decide) (x_wi l1932 x_wn)))) x_wn (by decide) rfl (c69_T5_c3 j1936 t1 (by first | decide | omega)  (by first | decide | omega)) (fun h1951 q1950 => ?_)
          obtain ⟨j1952, f1953⟩ := q1950
          have f1956 := Fr.trans f1943 f1953 (by decide)
          refine x_const (np := 30) (x := 9223372043297226753) (a := 2147483649) (by decide +kernel) (by decide) (by decide) ?_
          refine x_retI (np := 31) (x := 0) (by decide +kernel) (by decide) (Or.inr ⟨by decide +kernel, by first | decide | omega, by first | decide | omega⟩) ⟨_, rfl, (by decide), ?_⟩
          refine x_ifz (k := 0) (tg := 176) (np := 172) (by decide +kernel) (by decide) (by decide) (fun q1957 => ?_) (fun q1958 => ?_)
          · have q1957 : 2147483649 = 2147483648 := q1957
            exfalso; omega
          have q1958 : ¬ (2147483649 = 2147483648) := q1958
          refine x_const (np := 173) (x := 9223372043297226753) (a := 2147483649) (by decide +kernel) (by decide) (by decide) ?_
          refine x_goto (np := 176) (x := 177) (by decide +kernel) ?_
          have e1959 : rv h 0 = (h (h 61 1) 7) := (congrArg (fun z => svq h z 0) rfl).trans rfl
          have q1960 : h1951 61 1 = h1935 61 1 := f1953 61 1 (by decide +kernel)
          have q1961 : h1935 61 1 = h1742 61 1 := f1937 61 1 (by decide +kernel)
          have q1962 : h1742 61 1 = h1728 61 1 := f1744 61 1 (by decide +kernel)
          have q1963 : h1728 61 1 = h1712 61 1 := f1730 61 1 (by decide +kernel)
          have q1964 : h1712 61 1 = h1566 61 1 := f1714 61 1 (by decide +kernel)
          have q1965 : h1566 61 1 = h1444 61 1 := f1568 61 1 (by decide +kernel)
          have q1966 : h1444 61 1 = h1424 61 1 := f1446 61 1 (by decide +kernel)
          have q1967 : h1424 61 1 = h1410 61 1 := f1426 61 1 (by decide +kernel)
          have q1968 : h1410 61 1 = h1392 61 1 := f1412 61 1 (by decide +kernel)
          have q1969 : h1392 61 1 = h1368 61 1 := f1394 61 1 (by decide +kernel)
          have q1970 : h1368 61 1 = h35 61 1 := f1370 61 1 (by decide +kernel)
          have q1971 : h35 61 1 = h8 61 1 := f37 61 1 (by decide +kernel)
          have q1972 : h8 61 1 = h 61 1 := f10 61 1 (by decide +kernel)
          have q1973 : h1951 (h 61 1) 7 = h1935 (h 61 1) 7 := jK 0 f1953 (rg_T0_7_0_1 t1) (by first | decide | omega) (by first | decide | omega) (by decide)
          have q1974 : h1935 (h 61 1) 7 = h1742 (h 61 1) 7 := jK 0 f1937 (rg_T0_7_0_1 t1) (by first | decide | omega) (by first | decide | omega) (by decide)
          have q1975 : h1742 (h 61 1) 7 = h1728 (h 61 1) 7 := jK 0 f1744 (rg_T0_7_0_1 t1) (by first | decide | omega) (by first | decide | omega) (by decide)
          have q1976 : h1728 (h 61 1) 7 = h1712 (h 61 1) 7 := jK 0 f1730 (rg_T0_7_0_1 t1) (by first | decide | omega) (by first | decide | omega) (by decide)
          have q1977 : h1712 (h 61 1) 7 = h1566 (h 61 1) 7 := jK 0 f1714 (rg_T0_7_0_1 t1) (by first | decide | omega) (by first | decide | omega) (by decide)
          have q1978 : h1566 (h 61 1) 7 = h1444 (h 61 1) 7 := jK 0 f1568 (rg_T0_7_0_1 t1) (by first | decide | omega) (by first | decide | omega) (by decide)
          have q1979 : h1444 (h 61 1) 7 = h1424 (h 61 1) 7 := jK 0 f1446 (rg_T0_7_0_1 t1) (by first | decide | omega) (by first | decide | omega) (by decide)
          have q1980 : h1424 (h 61 1) 7 = h1410 (h 61 1) 7 := jK 0 f1426 (rg_T0_7_0_1 t1) (by first | decide | omega) (by first | decide | omega) (by decide)
          have q1981 : h1410 (h 61 1) 7 = h1392 (h 61 1) 7 := jK 0 f1412 (rg_T0_7_0_1 t1) (by first | decide | omega) (by first | decide | omega) (by decide)
          have q1982 : h1392 (h 61 1) 7 = h1368 (h 61 1) 7 := jK 0 f1394 (rg_T0_7_0_1 t1) (by first | decide | omega) (by first | decide | omega) (by decide)
          have q1983 : h1368 (h 61 1) 7 = h35 (h 61 1) 7 := jK 0 f1370 (rg_T0_7_0_1 t1) (by first | decide | omega) (by first | decide | omega) (by decide)
          have q1984 : h35 (h 61 1) 7 = h8 (h 61 1) 7 := jK 0 f37 (rg_T0_7_0_1 t1) (by first | decide | omega) (by first | decide | omega) (by decide)
          have e1985 : rv h1951 0 = (h8 (h 61 1) 7) := (congrArg (fun z => svq h1951 z 0) ((((((((((((q1960.trans q1961).trans q1962).trans q1963).trans q1964).trans q1965).trans q1966).trans q1967).trans q1968).trans q1969).trans q1970).trans q1971).trans q1972)).trans (((((((((((q1973.trans q1974).trans q1975).trans q1976).trans q1977).trans q1978).trans q1979).trans q1980).trans q1981).trans q1982).trans q1983).trans q1984)
          have e1986 : rv h 1 = (h (h 61 1) 8) := (congrArg (fun z => svq h z 1) rfl).trans rfl
          have q1987 : h1951 61 1 = h1935 61 1 := f1953 61 1 (by decide +kernel)
          have q1988 : h1935 61 1 = h1742 61 1 := f1937 61 1 (by decide +kernel)
          have q1989 : h1742 61 1 = h1728 61 1 := f1744 61 1 (by decide +kernel)
          have q1990 : h1728 61 1 = h1712 61 1 := f1730 61 1 (by decide +kernel)
          have q1991 : h1712 61 1 = h1566 61 1 := f1714 61 1 (by decide +kernel)
          have q1992 : h1566 61 1 = h1444 61 1 := f1568 61 1 (by decide +kernel)
          have q1993 : h1444 61 1 = h1424 61 1 := f1446 61 1 (by decide +kernel)
          have q1994 : h1424 61 1 = h1410 61 1 := f1426 61 1 (by decide +kernel)
          have q1995 : h1410 61 1 = h1392 61 1 := f1412 61 1 (by decide +kernel)
          have q1996 : h1392 61 1 = h1368 61 1 := f1394 61 1 (by decide +kernel)
          have q1997 : h1368 61 1 = h35 61 1 := f1370 61 1 (by decide +kernel)
          have q1998 : h35 61 1 = h8 61 1 := f37 61 1 (by decide +kernel)
          have q1999 : h8 61 1 = h 61 1 := f10 61 1 (by decide +kernel)
          have q2000 : h1951 (h 61 1) 8 = h1935 (h 61 1) 8 := jK 0 f1953 (rg_T0_8_0_1 t1) (by first | decide | omega) (by first | decide | omega) (by decide)
          have q2001 : h1935 (h 61 1) 8 = h1742 (h 61 1) 8 := jK 0 f1937 (rg_T0_8_0_1 t1) (by first | decide | omega) (by first | decide | omega) (by decide)
          have q2002 : h1742 (h 61 1) 8 = h1728 (h 61 1) 8 := jK 0 f1744 (rg_T0_8_0_1 t1) (by first | decide | omega) (by first | decide | omega) (by decide)
          have q2003 : h1728 (h 61 1) 8 = h1712 (h 61 1) 8 := jK 0 f1730 (rg_T0_8_0_1 t1) (by first | decide | omega) (by first | decide | omega) (by decide)
          have q2004 : h1712 (h 61 1) 8 = h1566 (h 61 1) 8 := jK 0 f1714 (rg_T0_8_0_1 t1) (by first | decide | omega) (by first | decide | omega) (by decide)
          have q2005 : h1566 (h 61 1) 8 = h1444 (h 61 1) 8 := jK 0 f1568 (rg_T0_8_0_1 t1) (by first | decide | omega) (by first | decide | omega) (by decide)
          have q2006 : h1444 (h 61 1) 8 = h1424 (h 61 1) 8 := jK 0 f1446 (rg_T0_8_0_1 t1) (by first | decide | omega) (by first | decide | omega) (by decide)
          have q2007 : h1424 (h 61 1) 8 = h1410 (h 61 1) 8 := jK 0 f1426 (rg_T0_8_0_1 t1) (by first | decide | omega) (by first | decide | omega) (by decide)
          have q2008 : h1410 (h 61 1) 8 = h1392 (h 61 1) 8 := jK 0 f1412 (rg_T0_8_0_1 t1) (by first | decide | omega) (by first | decide | omega) (by decide)
          have q2009 : h1392 (h 61 1) 8 = h1368 (h 61 1) 8 := jK 0 f1394 (rg_T0_8_0_1 t1) (by first | decide | omega) (by first | decide | omega) (by decide)
          have q2010 : h1368 (h 61 1) 8 = h35 (h 61 1) 8 := jK 0 f1370 (rg_T0_8_0_1 t1) (by first | decide | omega) (by first | decide | omega) (by decide)
          have q2011 : h35 (h 61 1) 8 = h8 (h 61 1) 8 := jK 0 f37 (rg_T0_8_0_1 t1) (by first | decide | omega) (by first | decide | omega) (by decide)
          have e2012 : rv h1951 1 = (h8 (h 61 1) 8) := (congrArg (fun z => svq h1951 z 1) ((((((((((((q1987.trans q1988).trans q1989).trans q1990).trans q1991).trans q1992).trans q1993).trans q1994).trans q1995).trans q1996).trans q1997).trans q1998).trans q1999)).trans (((((((((((q2000.trans q2001).trans q2002).trans q2003).trans q2004).trans q2005).trans q2006).trans q2007).trans q2008).trans q2009).trans q2010).trans q2011)
          have e2013 : rv h 2 = (h ((h 61 1) + 1) 2) := (congrArg (fun z => svq h z 2) rfl).trans rfl
          have q2014 : h1951 61 1 = h1935 61 1 := f1953 61 1 (by decide +kernel)
          have q2015 : h1935 61 1 = h1742 61 1 := f1937 61 1 (by decide +kernel)
          have q2016 : h1742 61 1 = h1728 61 1 := f1744 61 1 (by decide +kernel)
          have q2017 : h1728 61 1 = h1712 61 1 := f1730 61 1 (by decide +kernel)
          have q2018 : h1712 61 1 = h1566 61 1 := f1714 61 1 (by decide +kernel)
          have q2019 : h1566 61 1 = h1444 61 1 := f1568 61 1 (by decide +kernel)
          have q2020 : h1444 61 1 = h1424 61 1 := f1446 61 1 (by decide +kernel)
          have q2021 : h1424 61 1 = h1410 61 1 := f1426 61 1 (by decide +kernel)
          have q2022 : h1410 61 1 = h1392 61 1 := f1412 61 1 (by decide +kernel)
          have q2023 : h1392 61 1 = h1368 61 1 := f1394 61 1 (by decide +kernel)
          have q2024 : h1368 61 1 = h35 61 1 := f1370 61 1 (by decide +kernel)
          have q2025 : h35 61 1 = h8 61 1 := f37 61 1 (by decide +kernel)
          have q2026 : h8 61 1 = h 61 1 := f10 61 1 (by decide +kernel)
          have q2027 : h1951 ((h 61 1) + 1) 2 = h1935 ((h 61 1) + 1) 2 := jK 0 f1953 (rg_T1_2_0_1 t1) (by first | decide | omega) (by first | decide | omega) (by decide)
          have q2028 : h1935 ((h 61 1) + 1) 2 = h1742 ((h 61 1) + 1) 2 := jK 0 f1937 (rg_T1_2_0_1 t1) (by first | decide | omega) (by first | decide | omega) (by decide)
          have q2029 : h1742 ((h 61 1) + 1) 2 = h1728 ((h 61 1) + 1) 2 := jK 0 f1744 (rg_T1_2_0_1 t1) (by first | decide | omega) (by first | decide | omega) (by decide)
          have q2030 : h1728 ((h 61 1) + 1) 2 = h1712 ((h 61 1) + 1) 2 := jK 0 f1730 (rg_T1_2_0_1 t1) (by first | decide | omega) (by first | decide | omega) (by decide)
          have q2031 : h1712 ((h 61 1) + 1) 2 = h1566 ((h 61 1) + 1) 2 := jK 0 f1714 (rg_T1_2_0_1 t1) (by first | decide | omega) (by first | decide | omega) (by decide)
          have q2032 : h1566 ((h 61 1) + 1) 2 = h1444 ((h 61 1) + 1) 2 := jK 0 f1568 (rg_T1_2_0_1 t1) (by first | decide | omega) (by first | decide | omega) (by decide)
          have q2033 : h1444 ((h 61 1) + 1) 2 = h1424 ((h 61 1) + 1) 2 := jK 0 f1446 (rg_T1_2_0_1 t1) (by first | decide | omega) (by first | decide | omega) (by decide)
          have q2034 : h1424 ((h 61 1) + 1) 2 = h1410 ((h 61 1) + 1) 2 := jK 0 f1426 (rg_T1_2_0_1 t1) (by first | decide | omega) (by first | decide | omega) (by decide)
          have q2035 : h1410 ((h 61 1) + 1) 2 = h1392 ((h 61 1) + 1) 2 := jK 0 f1412 (rg_T1_2_0_1 t1) (by first | decide | omega) (by first | decide | omega) (by decide)
          have q2036 : h1392 ((h 61 1) + 1) 2 = h1368 ((h 61 1) + 1) 2 := jK 0 f1394 (rg_T1_2_0_1 t1) (by first | decide | omega) (by first | decide | omega) (by decide)
          have q2037 : h1368 ((h 61 1) + 1) 2 = h35 ((h 61 1) + 1) 2 := jK 0 f1370 (rg_T1_2_0_1 t1) (by first | decide | omega) (by first | decide | omega) (by decide)
          have q2038 : h35 ((h 61 1) + 1) 2 = h8 ((h 61 1) + 1) 2 := jK 0 f37 (rg_T1_2_0_1 t1) (by first | decide | omega) (by first | decide | omega) (by decide)
          have e2039 : rv h1951 2 = (h8 ((h 61 1) + 1) 2) := (congrArg (fun z => svq h1951 z 2) ((((((((((((q2014.trans q2015).trans q2016).trans q2017).trans q2018).trans q2019).trans q2020).trans q2021).trans q2022).trans q2023).trans q2024).trans q2025).trans q2026)).trans (((((((((((q2027.trans q2028).trans q2029).trans q2030).trans q2031).trans q2032).trans q2033).trans q2034).trans q2035).trans q2036).trans q2037).trans q2038)
          have e2040 : rv h 3 = (h ((h 61 1) + 3) 2) := (congrArg (fun z => svq h z 3) rfl).trans rfl
          have q2041 : h1951 61 1 = h1935 61 1 := f1953 61 1 (by decide +kernel)
          have q2042 : h1935 61 1 = h1742 61 1 := f1937 61 1 (by decide +kernel)
          have q2043 : h1742 61 1 = h1728 61 1 := f1744 61 1 (by decide +kernel)
          have q2044 : h1728 61 1 = h1712 61 1 := f1730 61 1 (by decide +kernel)
          have q2045 : h1712 61 1 = h1566 61 1 := f1714 61 1 (by decide +kernel)
          have q2046 : h1566 61 1 = h1444 61 1 := f1568 61 1 (by decide +kernel)
          have q2047 : h1444 61 1 = h1424 61 1 := f1446 61 1 (by decide +kernel)
          have q2048 : h1424 61 1 = h1410 61 1 := f1426 61 1 (by decide +kernel)
          have q2049 : h1410 61 1 = h1392 61 1 := f1412 61 1 (by decide +kernel)
          have q2050 : h1392 61 1 = h1368 61 1 := f1394 61 1 (by decide +kernel)
          have q2051 : h1368 61 1 = h35 61 1 := f1370 61 1 (by decide +kernel)
          have q2052 : h35 61 1 = h8 61 1 := f37 61 1 (by decide +kernel)
          have q2053 : h8 61 1 = h 61 1 := f10 61 1 (by decide +kernel)
          have q2054 : h1951 ((h 61 1) + 3) 2 = h1935 ((h 61 1) + 3) 2 := jK 0 f1953 (rg_T3_2_0_1 t1) (by first | decide | omega) (by first | decide | omega) (by decide)
          have q2055 : h1935 ((h 61 1) + 3) 2 = h1742 ((h 61 1) + 3) 2 := jK 0 f1937 (rg_T3_2_0_1 t1) (by first | decide | omega) (by first | decide | omega) (by decide)
          have q2056 : h1742 ((h 61 1) + 3) 2 = h1728 ((h 61 1) + 3) 2 := jK 0 f1744 (rg_T3_2_0_1 t1) (by first | decide | omega) (by first | decide | omega) (by decide)
          have q2057 : h1728 ((h 61 1) + 3) 2 = h1712 ((h 61 1) + 3) 2 := jK 0 f1730 (rg_T3_2_0_1 t1) (by first | decide | omega) (by first | decide | omega) (by decide)
          have q2058 : h1712 ((h 61 1) + 3) 2 = h1566 ((h 61 1) + 3) 2 := jK 0 f1714 (rg_T3_2_0_1 t1) (by first | decide | omega) (by first | decide | omega) (by decide)
          have q2059 : h1566 ((h 61 1) + 3) 2 = h1444 ((h 61 1) + 3) 2 := jK 0 f1568 (rg_T3_2_0_1 t1) (by first | decide | omega) (by first | decide | omega) (by decide)
          have q2060 : h1444 ((h 61 1) + 3) 2 = h1424 ((h 61 1) + 3) 2 := jK 0 f1446 (rg_T3_2_0_1 t1) (by first | decide | omega) (by first | decide | omega) (by decide)
          have q2061 : h1424 ((h 61 1) + 3) 2 = h1410 ((h 61 1) + 3) 2 := jK 0 f1426 (rg_T3_2_0_1 t1) (by first | decide | omega) (by first | decide | omega) (by decide)
          have q2062 : h1410 ((h 61 1) + 3) 2 = h1392 ((h 61 1) + 3) 2 := jK 0 f1412 (rg_T3_2_0_1 t1) (by first | decide | omega) (by first | decide | omega) (by decide)
          have q2063 : h1392 ((h 61 1) + 3) 2 = h1368 ((h 61 1) + 3) 2 := jK 0 f1394 (rg_T3_2_0_1 t1) (by first | decide | omega) (by first | decide | omega) (by decide)
          have q2064 : h1368 ((h 61 1) + 3) 2 = h35 ((h 61 1) + 3) 2 := jK 0 f1370 (rg_T3_2_0_1 t1) (by first | decide | omega) (by first | decide | omega) (by decide)
          have q2065 : h35 ((h 61 1) + 3) 2 = h8 ((h 61 1) + 3) 2 := jK 0 f37 (rg_T3_2_0_1 t1) (by first | decide | omega) (by first | decide | omega) (by decide)
          have e2066 : rv h1951 3 = (h8 ((h 61 1) + 3) 2) := (congrArg (fun z => svq h1951 z 3) ((((((((((((q2041.trans q2042).trans q2043).trans q2044).trans q2045).trans q2046).trans q2047).trans q2048).trans q2049).trans q2050).trans q2051).trans q2052).trans q2053)).trans (((((((((((q2054.trans q2055).trans q2056).trans q2057).trans q2058).trans q2059).trans q2060).trans q2061).trans q2062).trans q2063).trans q2064).trans q2065)
          have q2067 : h1951 61 1 = h1935 61 1 := f1953 61 1 (by decide +kernel)
          have q2068 : h1935 61 1 = h1742 61 1 := f1937 61 1 (by decide +kernel)
          have q2069 : h1742 61 1 = h1728 61 1 := f1744 61 1 (by decide +kernel)
          have q2070 : h1728 61 1 = h1712 61 1 := f1730 61 1 (by decide +kernel)
          have q2071 : h1712 61 1 = h1566 61 1 := f1714 61 1 (by decide +kernel)
          have q2072 : h1566 61 1 = h1444 61 1 := f1568 61 1 (by decide +kernel)
          have q2073 : h1444 61 1 = h1424 61 1 := f1446 61 1 (by decide +kernel)
          have q2074 : h1424 61 1 = h1410 61 1 := f1426 61 1 (by decide +kernel)
          have q2075 : h1410 61 1 = h1392 61 1 := f1412 61 1 (by decide +kernel)
          have q2076 : h1392 61 1 = h1368 61 1 := f1394 61 1 (by decide +kernel)
          have q2077 : h1368 61 1 = h35 61 1 := f1370 61 1 (by decide +kernel)
          have q2078 : h35 61 1 = h8 61 1 := f37 61 1 (by decide +kernel)
          have q2079 : h8 61 1 = h 61 1 := f10 61 1 (by decide +kernel)
          have q2080 : h1951 ((h 61 1) + 5) 2 = h1935 ((h 61 1) + 5) 2 := jK 0 f1953 (rg_T5_2_0_1 t1) (by first | decide | omega) (by first | decide | omega) (by decide)
          have q2081 : h1935 ((h 61 1) + 5) 2 = h1742 ((h 61 1) + 5) 2 := jK 0 f1937 (rg_T5_2_0_1 t1) (by first | decide | omega) (by first | decide | omega) (by decide)
          have q2082 : h1742 ((h 61 1) + 5) 2 = h1728 ((h 61 1) + 5) 2 := jK 0 f1744 (rg_T5_2_0_1 t1) (by first | decide | omega) (by first | decide | omega) (by decide)
          have q2083 : h1728 ((h 61 1) + 5) 2 = h1712 ((h 61 1) + 5) 2 := jK 0 f1730 (rg_T5_2_0_1 t1) (by first | decide | omega) (by first | decide | omega) (by decide)
          have q2084 : h1712 ((h 61 1) + 5) 2 = h1566 ((h 61 1) + 5) 2 := jK 0 f1714 (rg_T5_2_0_1 t1) (by first | decide | omega) (by first | decide | omega) (by decide)
          have q2085 : h1566 ((h 61 1) + 5) 2 = h1444 ((h 61 1) + 5) 2 := jK 0 f1568 (rg_T5_2_0_1 t1) (by first | decide | omega) (by first | decide | omega) (by decide)
          have q2086 : h1444 ((h 61 1) + 5) 2 = h1424 ((h 61 1) + 5) 2 := jK 0 f1446 (rg_T5_2_0_1 t1) (by first | decide | omega) (by first | decide | omega) (by decide)
          have q2087 : h1424 ((h 61 1) + 5) 2 = h1410 ((h 61 1) + 5) 2 := jK 0 f1426 (rg_T5_2_0_1 t1) (by first | decide | omega) (by first | decide | omega) (by decide)
          have q2088 : h1410 ((h 61 1) + 5) 2 = h1392 ((h 61 1) + 5) 2 := jK 0 f1412 (rg_T5_2_0_1 t1) (by first | decide | omega) (by first | decide | omega) (by decide)
          have q2089 : h1392 ((h 61 1) + 5) 2 = h1368 ((h 61 1) + 5) 2 := jK 0 f1394 (rg_T5_2_0_1 t1) (by first | decide | omega) (by first | decide | omega) (by decide)
          have q2090 : h1368 ((h 61 1) + 5) 2 = h35 ((h 61 1) + 5) 2 := jK 0 f1370 (rg_T5_2_0_1 t1) (by first | decide | omega) (by first | decide | omega) (by decide)
          have q2091 : h35 ((h 61 1) + 5) 2 = h8 ((h 61 1) + 5) 2 := jK 0 f37 (rg_T5_2_0_1 t1) (by first | decide | omega) (by first | decide | omega) (by decide)
          have e2092 : rv h1951 4 = (h8 ((h 61 1) + 5) 2) := (congrArg (fun z => svq h1951 z 4) ((((((((((((q2067.trans q2068).trans q2069).trans q2070).trans q2071).trans q2072).trans q2073).trans q2074).trans q2075).trans q2076).trans q2077).trans q2078).trans q2079)).trans (((((((((((q2080.trans q2081).trans q2082).trans q2083).trans q2084).trans q2085).trans q2086).trans q2087).trans q2088).trans q2089).trans q2090).trans q2091)
          have e2093 : rv h 5 = (h ((h 61 1) + 7) 2) := (congrArg (fun z => svq h z 5) rfl).trans rfl
          have q2094 : h1951 61 1 = h1935 61 1 := f1953 61 1 (by decide +kernel)
          have q2095 : h1935 61 1 = h1742 61 1 := f1937 61 1 (by decide +kernel)
          have q2096 : h1742 61 1 = h1728 61 1 := f1744 61 1 (by decide +kernel)
          have q2097 : h1728 61 1 = h1712 61 1 := f1730 61 1 (by decide +kernel)
          have q2098 : h1712 61 1 = h1566 61 1 := f1714 61 1 (by decide +kernel)
          have q2099 : h1566 61 1 = h1444 61 1 := f1568 61 1 (by decide +kernel)
          have q2100 : h1444 61 1 = h1424 61 1 := f1446 61 1 (by decide +kernel)
          have q2101 : h1424 61 1 = h1410 61 1 := f1426 61 1 (by decide +kernel)
          have q2102 : h1410 61 1 = h1392 61 1 := f1412 61 1 (by decide +kernel)
          have q2103 : h1392 61 1 = h1368 61 1 := f1394 61 1 (by decide +kernel)
          have q2104 : h1368 61 1 = h35 61 1 := f1370 61 1 (by decide +kernel)
          have q2105 : h35 61 1 = h8 61 1 := f37 61 1 (by decide +kernel)
          have q2106 : h8 61 1 = h 61 1 := f10 61 1 (by decide +kernel)
          have q2107 : h1951 ((h 61 1) + 7) 2 = h1935 ((h 61 1) + 7) 2 := jK 0 f1953 (rg_T7_2_0_1 t1) (by first | decide | omega) (by first | decide | omega) (by decide)
          have q2108 : h1935 ((h 61 1) + 7) 2 = h1742 ((h 61 1) + 7) 2 := jK 0 f1937 (rg_T7_2_0_1 t1) (by first | decide | omega) (by first | decide | omega) (by decide)
          have q2109 : h1742 ((h 61 1) + 7) 2 = h1728 ((h 61 1) + 7) 2 := jK 0 f1744 (rg_T7_2_0_1 t1) (by first | decide | omega) (by first | decide | omega) (by decide)
          have q2110 : h1728 ((h 61 1) + 7) 2 = h1712 ((h 61 1) + 7) 2 := jK 0 f1730 (rg_T7_2_0_1 t1) (by first | decide | omega) (by first | decide | omega) (by decide)
          have q2111 : h1712 ((h 61 1) + 7) 2 = h1566 ((h 61 1) + 7) 2 := jK 0 f1714 (rg_T7_2_0_1 t1) (by first | decide | omega) (by first | decide | omega) (by decide)
          have q2112 : h1566 ((h 61 1) + 7) 2 = h1444 ((h 61 1) + 7) 2 := jK 0 f1568 (rg_T7_2_0_1 t1) (by first | decide | omega) (by first | decide | omega) (by decide)
          have q2113 : h1444 ((h 61 1) + 7) 2 = h1424 ((h 61 1) + 7) 2 := jK 0 f1446 (rg_T7_2_0_1 t1) (by first | decide | omega) (by first | decide | omega) (by decide)
          have q2114 : h1424 ((h 61 1) + 7) 2 = h1410 ((h 61 1) + 7) 2 := jK 0 f1426 (rg_T7_2_0_1 t1) (by first | decide | omega) (by first | decide | omega) (by decide)
          have q2115 : h1410 ((h 61 1) + 7) 2 = h1392 ((h 61 1) + 7) 2 := jK 0 f1412 (rg_T7_2_0_1 t1) (by first | decide | omega) (by first | decide | omega) (by decide)
          have q2116 : h1392 ((h 61 1) + 7) 2 = h1368 ((h 61 1) + 7) 2 := jK 0 f1394 (rg_T7_2_0_1 t1) (by first | decide | omega) (by first | decide | omega) (by decide)
          have q2117 : h1368 ((h 61 1) + 7) 2 = h35 ((h 61 1) + 7) 2 := jK 0 f1370 (rg_T7_2_0_1 t1) (by first | decide | omega) (by first | decide | omega) (by decide)
          have q2118 : h35 ((h 61 1) + 7) 2 = h8 ((h 61 1) + 7) 2 := jK 0 f37 (rg_T7_2_0_1 t1) (by first | decide | omega) (by first | decide | omega) (by decide)
          have e2119 : rv h1951 5 = (h8 ((h 61 1) + 7) 2) := (congrArg (fun z => svq h1951 z 5) ((((((((((((q2094.trans q2095).trans q2096).trans q2097).trans q2098).trans q2099).trans q2100).trans q2101).trans q2102).trans q2103).trans q2104).trans q2105).trans q2106)).trans (((((((((((q2107.trans q2108).trans q2109).trans q2110).trans q2111).trans q2112).trans q2113).trans q2114).trans q2115).trans q2116).trans q2117).trans q2118)
          have q2120 : h8 1 2 = h 1 2 := jK 0 f10 rg_1_2_0_1 (by first | decide | omega) (by first | decide | omega) (by decide)
          obtain ⟨w2121, e2122⟩ := Tk.yes c41 (by first | decide | omega)
          have q2123 : h1368 1 2 = h35 1 2 := jK 0 f1370 rg_1_2_0_1 (by first | decide | omega) (by first | decide | omega) (by decide)
          have q2124 : h1410 1 2 = h1392 1 2 := jK 0 f1412 rg_1_2_0_1 (by first | decide | omega) (by first | decide | omega) (by decide)
          obtain ⟨w2125, e2126⟩ := Tk.yes c1430 (by first | decide | omega)
          obtain ⟨w2127, e2128⟩ := Tk.yes c1572 (by first | decide | omega)
          have q2129 : h1728 1 2 = h1712 1 2 := jK 0 f1730 rg_1_2_0_1 (by first | decide | omega) (by first | decide | omega) (by decide)
          obtain ⟨w2130, e2131⟩ := Tk.yes c1748 (by first | decide | omega)
          have q2132 : h1951 1 2 = h1935 1 2 := jK 0 f1953 rg_1_2_0_1 (by first | decide | omega) (by first | decide | omega) (by decide)
          have m2133 : Ot (h 61 1) h h8 := Ot.trans Ot.refl (c19)
          have m2134 : Ot (h 61 1) h h35 := Ot.fr m2133 f37 (by decide)
          have m2135 : Ot (h 61 1) h h1368 := Ot.fr m2134 f1370 (by decide)
          have m2136 : Ot (h 61 1) h h1392 := Ot.fr m2135 f1394 (by decide)
          have m2137 : Ot (h 61 1) h h1410 := Ot.fr m2136 f1412 (by decide)
          have m2138 : Ot (h 61 1) h h1424 := Ot.fr m2137 f1426 (by decide)
          have m2139 : Ot (h 61 1) h h1444 := Ot.fr m2138 f1446 (by decide)
          have m2140 : Ot (h 61 1) h h1566 := Ot.fr m2139 f1568 (by decide)
          have m2141 : Ot (h 61 1) h h1712 := Ot.fr m2140 f1714 (by decide)
          have m2142 : Ot (h 61 1) h h1728 := Ot.fr m2141 f1730 (by decide)
          have m2143 : Ot (h 61 1) h h1742 := Ot.fr m2142 f1744 (by decide)
          have m2144 : Ot (h 61 1) h h1935 := Ot.fr m2143 f1937 (by decide)
          have m2145 : Ot (h 61 1) h h1951 := Ot.fr m2144 f1953 (by decide)
          refine x_retI (np := 178) (x := 0) (by decide +kernel) (by decide) (Or.inr ⟨by decide +kernel, by first | decide | omega, by first | decide | omega⟩) ⟨_, rfl, (by decide), ?_⟩
          exact ⟨j1952, f1956, (by first | decide | omega), (by first | decide | omega), (by first | decide | omega), (by first | decide | omega), (by first | decide | omega), (fun z => by first | decide | omega), (by first | decide | omega), (or9.y w2121 (show h8 1 2 = h 1 2 by first | decide | omega) e2122 rfl (nm9.y c1399 (by first | decide | omega) (by first | decide | omega) (show h1368 1 2 = h35 1 2 by first | decide | omega) (by first | decide | omega) rfl (wd9.y w2125 (show h1410 1 2 = h1392 1 2 by first | decide | omega) e2126 rfl (nm9.y c1451 (by first | decide | omega) (by first | decide | omega) rfl (by first | decide | omega) rfl (wd9.y w2127 rfl e2128 rfl (nm9.y c1719 (by first | decide | omega) (by first | decide | omega) rfl (by first | decide | omega) rfl (wd9.y w2130 (show h1728 1 2 = h1712 1 2 by first | decide | omega) e2131 rfl (nm9.y c1942 (by first | decide | omega) (by first | decide | omega) rfl (by first | decide | omega) rfl (fin9.mk (by first | decide | omega) (show h1935 1 2 = h1951 1 2 by first | decide | omega)))))))))), m2145⟩
        have q1946 : ¬ (v1931 ≠ 2147483647) := q1946
        have b2146 := c1941 (by first | decide | omega)
        refine x_const (np := 20) (x := 9223372039002259456) (a := 2147483648) (by decide +kernel) (by decide) (by decide) ?_
        refine x_retI (np := 21) (x := 0) (by decide +kernel) (by decide) (Or.inr ⟨by decide +kernel, by first | decide | omega, by first | decide | omega⟩) ⟨_, rfl, (by decide), ?_⟩
        refine x_ifz (k := 0) (tg := 176) (np := 172) (by decide +kernel) (by decide) (by decide) (fun q2147 => ?_) (fun q2148 => ?_)
        · have q2147 : 2147483648 = 2147483648 := q2147
          refine x_const (np := 177) (x := 9223372039002259456) (a := 2147483648) (by decide +kernel) (by decide) (by decide) ?_
          have e2149 : rv h 0 = (h (h 61 1) 7) := (congrArg (fun z => svq h z 0) rfl).trans rfl
          have q2150 : h1935 61 1 = h1742 61 1 := f1937 61 1 (by decide +kernel)
          have q2151 : h1742 61 1 = h1728 61 1 := f1744 61 1 (by decide +kernel)
          have q2152 : h1728 61 1 = h1712 61 1 := f1730 61 1 (by decide +kernel)
          have q2153 : h1712 61 1 = h1566 61 1 := f1714 61 1 (by decide +kernel)
          have q2154 : h1566 61 1 = h1444 61 1 := f1568 61 1 (by decide +kernel)
          have q2155 : h1444 61 1 = h1424 61 1 := f1446 61 1 (by decide +kernel)
          have q2156 : h1424 61 1 = h1410 61 1 := f1426 61 1 (by decide +kernel)
          have q2157 : h1410 61 1 = h1392 61 1 := f1412 61 1 (by decide +kernel)
          have q2158 : h1392 61 1 = h1368 61 1 := f1394 61 1 (by decide +kernel)
          have q2159 : h1368 61 1 = h35 61 1 := f1370 61 1 (by decide +kernel)
          have q2160 : h35 61 1 = h8 61 1 := f37 61 1 (by decide +kernel)
          have q2161 : h8 61 1 = h 61 1 := f10 61 1 (by decide +kernel)
          have q2162 : h1935 (h 61 1) 7 = h1742 (h 61 1) 7 := jK 0 f1937 (rg_T0_7_0_1 t1) (by first | decide | omega) (by first | decide | omega) (by decide)
          have q2163 : h1742 (h 61 1) 7 = h1728 (h 61 1) 7 := jK 0 f1744 (rg_T0_7_0_1 t1) (by first | decide | omega) (by first | decide | omega) (by decide)
          have q2164 : h1728 (h 61 1) 7 = h1712 (h 61 1) 7 := jK 0 f1730 (rg_T0_7_0_1 t1) (by first | decide | omega) (by first | decide | omega) (by decide)
          have q2165 : h1712 (h 61 1) 7 = h1566 (h 61 1) 7 := jK 0 f1714 (rg_T0_7_0_1 t1) (by first | decide | omega) (by first | decide | omega) (by decide)
          have q2166 : h1566 (h 61 1) 7 = h1444 (h 61 1) 7 := jK 0 f1568 (rg_T0_7_0_1 t1) (by first | decide | omega) (by first | decide | omega) (by decide)
          have q2167 : h1444 (h 61 1) 7 = h1424 (h 61 1) 7 := jK 0 f1446 (rg_T0_7_0_1 t1) (by first | decide | omega) (by first | decide | omega) (by decide)
          have q2168 : h1424 (h 61 1) 7 = h1410 (h 61 1) 7 := jK 0 f1426 (rg_T0_7_0_1 t1) (by first | decide | omega) (by first | decide | omega) (by decide)
          have q2169 : h1410 (h 61 1) 7 = h1392 (h 61 1) 7 := jK 0 f1412 (rg_T0_7_0_1 t1) (by first | decide | omega) (by first | decide | omega) (by decide)
          have q2170 : h1392 (h 61 1) 7 = h1368 (h 61 1) 7 := jK 0 f1394 (rg_T0_7_0_1 t1) (by first | decide | omega) (by first | decide | omega) (by decide)
          have q2171 : h1368 (h 61 1) 7 = h35 (h 61 1) 7 := jK 0 f1370 (rg_T0_7_0_1 t1) (by first | decide | omega) (by first | decide | omega) (by decide)
          have q2172 : h35 (h 61 1) 7 = h8 (h 61 1) 7 := jK 0 f37 (rg_T0_7_0_1 t1) (by first | decide | omega) (by first | decide | omega) (by decide)
          have e2173 : rv h1935 0 = (h8 (h 61 1) 7) := (congrArg (fun z => svq h1935 z 0) (((((((((((q2150.trans q2151).trans q2152).trans q2153).trans q2154).trans q2155).trans q2156).trans q2157).trans q2158).trans q2159).trans q2160).trans q2161)).trans ((((((((((q2162.trans q2163).trans q2164).trans q2165).trans q2166).trans q2167).trans q2168).trans q2169).trans q2170).trans q2171).trans q2172)
          have e2174 : rv h 1 = (h (h 61 1) 8) := (congrArg (fun z => svq h z 1) rfl).trans rfl
          have q2175 : h1935 61 1 = h1742 61 1 := f1937 61 1 (by decide +kernel)
          have q2176 : h1742 61 1 = h1728 61 1 := f1744 61 1 (by decide +kernel)
          have q2177 : h1728 61 1 = h1712 61 1 := f1730 61 1 (by decide +kernel)
          have q2178 : h1712 61 1 = h1566 61 1 := f1714 61 1 (by decide +kernel)
          have q2179 : h1566 61 1 = h1444 61 1 := f1568 61 1 (by decide +kernel)
          have q2180 : h1444 61 1 = h1424 61 1 := f1446 61 1 (by decide +kernel)
          have q2181 : h1424 61 1 = h1410 61 1 := f1426 61 1 (by decide +kernel)
          have q2182 : h1410 61 1 = h1392 61 1 := f1412 61 1 (by decide +kernel)
          have q2183 : h1392 61 1 = h1368 61 1 := f1394 61 1 (by decide +kernel)
          have q2184 : h1368 61 1 = h35 61 1 := f1370 61 1 (by decide +kernel)
          have q2185 : h35 61 1 = h8 61 1 := f37 61 1 (by decide +kernel)
          have q2186 : h8 61 1 = h 61 1 := f10 61 1 (by decide +kernel)
          have q2187 : h1935 (h 61 1) 8 = h1742 (h 61 1) 8 := jK 0 f1937 (rg_T0_8_0_1 t1) (by first | decide | omega) (by first | decide | omega) (by decide)
          have q2188 : h1742 (h 61 1) 8 = h1728 (h 61 1) 8 := jK 0 f1744 (rg_T0_8_0_1 t1) (by first | decide | omega) (by first | decide | omega) (by decide)
          have q2189 : h1728 (h 61 1) 8 = h1712 (h 61 1) 8 := jK 0 f1730 (rg_T0_8_0_1 t1) (by first | decide | omega) (by first | decide | omega) (by decide)
          have q2190 : h1712 (h 61 1) 8 = h1566 (h 61 1) 8 := jK 0 f1714 (rg_T0_8_0_1 t1) (by first | decide | omega) (by first | decide | omega) (by decide)
          have q2191 : h1566 (h 61 1) 8 = h1444 (h 61 1) 8 := jK 0 f1568 (rg_T0_8_0_1 t1) (by first | decide | omega) (by first | decide | omega) (by decide)
          have q2192 : h1444 (h 61 1) 8 = h1424 (h 61 1) 8 := jK 0 f1446 (rg_T0_8_0_1 t1) (by first | decide | omega) (by first | decide | omega) (by decide)
          have q2193 : h1424 (h 61 1) 8 = h1410 (h 61 1) 8 := jK 0 f1426 (rg_T0_8_0_1 t1) (by first | decide | omega) (by first | decide | omega) (by decide)
          have q2194 : h1410 (h 61 1) 8 = h1392 (h 61 1) 8 := jK 0 f1412 (rg_T0_8_0_1 t1) (by first | decide | omega) (by first | decide | omega) (by decide)
          have q2195 : h1392 (h 61 1) 8 = h1368 (h 61 1) 8 := jK 0 f1394 (rg_T0_8_0_1 t1) (by first | decide | omega) (by first | decide | omega) (by decide)
          have q2196 : h1368 (h 61 1) 8 = h35 (h 61 1) 8 := jK 0 f1370 (rg_T0_8_0_1 t1) (by first | decide | omega) (by first | decide | omega) (by decide)
          have q2197 : h35 (h 61 1) 8 = h8 (h 61 1) 8 := jK 0 f37 (rg_T0_8_0_1 t1) (by first | decide | omega) (by first | decide | omega) (by decide)
          have e2198 : rv h1935 1 = (h8 (h 61 1) 8) := (congrArg (fun z => svq h1935 z 1) (((((((((((q2175.trans q2176).trans q2177).trans q2178).trans q2179).trans q2180).trans q2181).trans q2182).trans q2183).trans q2184).trans q2185).trans q2186)).trans ((((((((((q2187.trans q2188).trans q2189).trans q2190).trans q2191).trans q2192).trans q2193).trans q2194).trans q2195).trans q2196).trans q2197)
          have e2199 : rv h 2 = (h ((h 61 1) + 1) 2) := (congrArg (fun z => svq h z 2) rfl).trans rfl
          have q2200 : h1935 61 1 = h1742 61 1 := f1937 61 1 (by decide +kernel)
          have q2201 : h1742 61 1 = h1728 61 1 := f1744 61 1 (by decide +kernel)
          have q2202 : h1728 61 1 = h1712 61 1 := f1730 61 1 (by decide +kernel)
          have q2203 : h1712 61 1 = h1566 61 1 := f1714 61 1 (by decide +kernel)
          have q2204 : h1566 61 1 = h1444 61 1 := f1568 61 1 (by decide +kernel)
          have q2205 : h1444 61 1 = h1424 61 1 := f1446 61 1 (by decide +kernel)
          have q2206 : h1424 61 1 = h1410 61 1 := f1426 61 1 (by decide +kernel)
          have q2207 : h1410 61 1 = h1392 61 1 := f1412 61 1 (by decide +kernel)
          have q2208 : h1392 61 1 = h1368 61 1 := f1394 61 1 (by decide +kernel)
          have q2209 : h1368 61 1 = h35 61 1 := f1370 61 1 (by decide +kernel)
          have q2210 : h35 61 1 = h8 61 1 := f37 61 1 (by decide +kernel)
          have q2211 : h8 61 1 = h 61 1 := f10 61 1 (by decide +kernel)
          have q2212 : h1935 ((h 61 1) + 1) 2 = h1742 ((h 61 1) + 1) 2 := jK 0 f1937 (rg_T1_2_0_1 t1) (by first | decide | omega) (by first | decide | omega) (by decide)
          have q2213 : h1742 ((h 61 1) + 1) 2 = h1728 ((h 61 1) + 1) 2 := jK 0 f1744 (rg_T1_2_0_1 t1) (by first | decide | omega) (by first | decide | omega) (by decide)
          have q2214 : h1728 ((h 61 1) + 1) 2 = h1712 ((h 61 1) + 1) 2 := jK 0 f1730 (rg_T1_2_0_1 t1) (by first | decide | omega) (by first | decide | omega) (by decide)
          have q2215 : h1712 ((h 61 1) + 1) 2 = h1566 ((h 61 1) + 1) 2 := jK 0 f1714 (rg_T1_2_0_1 t1) (by first | decide | omega) (by first | decide | omega) (by decide)
          have q2216 : h1566 ((h 61 1) + 1) 2 = h1444 ((h 61 1) + 1) 2 := jK 0 f1568 (rg_T1_2_0_1 t1) (by first | decide | omega) (by first | decide | omega) (by decide)
          have q2217 : h1444 ((h 61 1) + 1) 2 = h1424 ((h 61 1) + 1) 2 := jK 0 f1446 (rg_T1_2_0_1 t1) (by first | decide | omega) (by first | decide | omega) (by decide)
          have q2218 : h1424 ((h 61 1) + 1) 2 = h1410 ((h 61 1) + 1) 2 := jK 0 f1426 (rg_T1_2_0_1 t1) (by first | decide | omega) (by first | decide | omega) (by decide)
          have q2219 : h1410 ((h 61 1) + 1) 2 = h1392 ((h 61 1) + 1) 2 := jK 0 f1412 (rg_T1_2_0_1 t1) (by first | decide | omega) (by first | decide | omega) (by decide)
          have q2220 : h1392 ((h 61 1) + 1) 2 = h1368 ((h 61 1) + 1) 2 := jK 0 f1394 (rg_T1_2_0_1 t1) (by first | decide | omega) (by first | decide | omega) (by decide)
          have q2221 : h1368 ((h 61 1) + 1) 2 = h35 ((h 61 1) + 1) 2 := jK 0 f1370 (rg_T1_2_0_1 t1) (by first | decide | omega) (by first | decide | omega) (by decide)
          have q2222 : h35 ((h 61 1) + 1) 2 = h8 ((h 61 1) + 1) 2 := jK 0 f37 (rg_T1_2_0_1 t1) (by first | decide | omega) (by first | decide | omega) (by decide)
          have e2223 : rv h1935 2 = (h8 ((h 61 1) + 1) 2) := (congrArg (fun z => svq h1935 z 2) (((((((((((q2200.trans q2201).trans q2202).trans q2203).trans q2204).trans q2205).trans q2206).trans q2207).trans q2208).trans q2209).trans q2210).trans q2211)).trans ((((((((((q2212.trans q2213).trans q2214).trans q2215).trans q2216).trans q2217).trans q2218).trans q2219).trans q2220).trans q2221).trans q2222)
          have e2224 : rv h 3 = (h ((h 61 1) + 3) 2) := (congrArg (fun z => svq h z 3) rfl).trans rfl
          have q2225 : h1935 61 1 = h1742 61 1 := f1937 61 1 (by decide +kernel)
          have q2226 : h1742 61 1 = h1728 61 1 := f1744 61 1 (by decide +kernel)
          have q2227 : h1728 61 1 = h1712 61 1 := f1730 61 1 (by decide +kernel)
          have q2228 : h1712 61 1 = h1566 61 1 := f1714 61 1 (by decide +kernel)
          have q2229 : h1566 61 1 = h1444 61 1 := f1568 61 1 (by decide +kernel)
          have q2230 : h1444 61 1 = h1424 61 1 := f1446 61 1 (by decide +kernel)
          have q2231 : h1424 61 1 = h1410 61 1 := f1426 61 1 (by decide +kernel)
          have q2232 : h1410 61 1 = h1392 61 1 := f1412 61 1 (by decide +kernel)
          have q2233 : h1392 61 1 = h1368 61 1 := f1394 61 1 (by decide +kernel)
          have q2234 : h1368 61 1 = h35 61 1 := f1370 61 1 (by decide +kernel)
          have q2235 : h35 61 1 = h8 61 1 := f37 61 1 (by decide +kernel)
          have q2236 : h8 61 1 = h 61 1 := f10 61 1 (by decide +kernel)
          have q2237 : h1935 ((h 61 1) + 3) 2 = h1742 ((h 61 1) + 3) 2 := jK 0 f1937 (rg_T3_2_0_1 t1) (by first | decide | omega) (by first | decide | omega) (by decide)
          have q2238 : h1742 ((h 61 1) + 3) 2 = h1728 ((h 61 1) + 3) 2 := jK 0 f1744 (rg_T3_2_0_1 t1) (by first | decide | omega) (by first | decide | omega) (by decide)
          have q2239 : h1728 ((h 61 1) + 3) 2 = h1712 ((h 61 1) + 3) 2 := jK 0 f1730 (rg_T3_2_0_1 t1) (by first | decide | omega) (by first | decide | omega) (by decide)
          have q2240 : h1712 ((h 61 1) + 3) 2 = h1566 ((h 61 1) + 3) 2 := jK 0 f1714 (rg_T3_2_0_1 t1) (by first | decide | omega) (by first | decide | omega) (by decide)
          have q2241 : h1566 ((h 61 1) + 3) 2 = h1444 ((h 61 1) + 3) 2 := jK 0 f1568 (rg_T3_2_0_1 t1) (by first | decide | omega) (by first | decide | omega) (by decide)
          have q2242 : h1444 ((h 61 1) + 3) 2 = h1424 ((h 61 1) + 3) 2 := jK 0 f1446 (rg_T3_2_0_1 t1) (by first | decide | omega) (by first | decide | omega) (by decide)
          have q2243 : h1424 ((h 61 1) + 3) 2 = h1410 ((h 61 1) + 3) 2 := jK 0 f1426 (rg_T3_2_0_1 t1) (by first | decide | omega) (by first | decide | omega) (by decide)
          have q2244 : h1410 ((h 61 1) + 3) 2 = h1392 ((h 61 1) + 3) 2 := jK 0 f1412 (rg_T3_2_0_1 t1) (by first | decide | omega) (by first | decide | omega) (by decide)
          have q2245 : h1392 ((h 61 1) + 3) 2 = h1368 ((h 61 1) + 3) 2 := jK 0 f1394 (rg_T3_2_0_1 t1) (by first | decide | omega) (by first | decide | omega) (by decide)
          have q2246 : h1368 ((h 61 1) + 3) 2 = h35 ((h 61 1) + 3) 2 := jK 0 f1370 (rg_T3_2_0_1 t1) (by first | decide | omega) (by first | decide | omega) (by decide)
          have q2247 : h35 ((h 61 1) + 3) 2 = h8 ((h 61 1) + 3) 2 := jK 0 f37 (rg_T3_2_0_1 t1) (by first | decide | omega) (by first | decide | omega) (by decide)
          have e2248 : rv h1935 3 = (h8 ((h 61 1) + 3) 2) := (congrArg (fun z => svq h1935 z 3) (((((((((((q2225.trans q2226).trans q2227).trans q2228).trans q2229).trans q2230).trans q2231).trans q2232).trans q2233).trans q2234).trans q2235).trans q2236)).trans ((((((((((q2237.trans q2238).trans q2239).trans q2240).trans q2241).trans q2242).trans q2243).trans q2244).trans q2245).trans q2246).trans q2247)
          have q2249 : h1935 61 1 = h1742 61 1 := f1937 61 1 (by decide +kernel)
          have q2250 : h1742 61 1 = h1728 61 1 := f1744 61 1 (by decide +kernel)
          have q2251 : h1728 61 1 = h1712 61 1 := f1730 61 1 (by decide +kernel)
          have q2252 : h1712 61 1 = h1566 61 1 := f1714 61 1 (by decide +kernel)
          have q2253 : h1566 61 1 = h1444 61 1 := f1568 61 1 (by decide +kernel)
          have q2254 : h1444 61 1 = h1424 61 1 := f1446 61 1 (by decide +kernel)
          have q2255 : h1424 61 1 = h1410 61 1 := f1426 61 1 (by decide +kernel)
          have q2256 : h1410 61 1 = h1392 61 1 := f1412 61 1 (by decide +kernel)
          have q2257 : h1392 61 1 = h1368 61 1 := f1394 61 1 (by decide +kernel)
          have q2258 : h1368 61 1 = h35 61 1 := f1370 61 1 (by decide +kernel)
          have q2259 : h35 61 1 = h8 61 1 := f37 61 1 (by decide +kernel)
          have q2260 : h8 61 1 = h 61 1 := f10 61 1 (by decide +kernel)
          have q2261 : h1935 ((h 61 1) + 5) 2 = h1742 ((h 61 1) + 5) 2 := jK 0 f1937 (rg_T5_2_0_1 t1) (by first | decide | omega) (by first | decide | omega) (by decide)
          have q2262 : h1742 ((h 61 1) + 5) 2 = h1728 ((h 61 1) + 5) 2 := jK 0 f1744 (rg_T5_2_0_1 t1) (by first | decide | omega) (by first | decide | omega) (by decide)
          have q2263 : h1728 ((h 61 1) + 5) 2 = h1712 ((h 61 1) + 5) 2 := jK 0 f1730 (rg_T5_2_0_1 t1) (by first | decide | omega) (by first | decide | omega) (by decide)
          have q2264 : h1712 ((h 61 1) + 5) 2 = h1566 ((h 61 1) + 5) 2 := jK 0 f1714 (rg_T5_2_0_1 t1) (by first | decide | omega) (by first | decide | omega) (by decide)
          have q2265 : h1566 ((h 61 1) + 5) 2 = h1444 ((h 61 1) + 5) 2 := jK 0 f1568 (rg_T5_2_0_1 t1) (by first | decide | omega) (by first | decide | omega) (by decide)
          have q2266 : h1444 ((h 61 1) + 5) 2 = h1424 ((h 61 1) + 5) 2 := jK 0 f1446 (rg_T5_2_0_1 t1) (by first | decide | omega) (by first | decide | omega) (by decide)
          have q2267 : h1424 ((h 61 1) + 5) 2 = h1410 ((h 61 1) + 5) 2 := jK 0 f1426 (rg_T5_2_0_1 t1) (by first | decide | omega) (by first | decide | omega) (by decide)
          have q2268 : h1410 ((h 61 1) + 5) 2 = h1392 ((h 61 1) + 5) 2 := jK 0 f1412 (rg_T5_2_0_1 t1) (by first | decide | omega) (by first | decide | omega) (by decide)
          have q2269 : h1392 ((h 61 1) + 5) 2 = h1368 ((h 61 1) + 5) 2 := jK 0 f1394 (rg_T5_2_0_1 t1) (by first | decide | omega) (by first | decide | omega) (by decide)
          have q2270 : h1368 ((h 61 1) + 5) 2 = h35 ((h 61 1) + 5) 2 := jK 0 f1370 (rg_T5_2_0_1 t1) (by first | decide | omega) (by first | decide | omega) (by decide)
          have q2271 : h35 ((h 61 1) + 5) 2 = h8 ((h 61 1) + 5) 2 := jK 0 f37 (rg_T5_2_0_1 t1) (by first | decide | omega) (by first | decide | omega) (by decide)
          have e2272 : rv h1935 4 = (h8 ((h 61 1) + 5) 2) := (congrArg (fun z => svq h1935 z 4) (((((((((((q2249.trans q2250).trans q2251).trans q2252).trans q2253).trans q2254).trans q2255).trans q2256).trans q2257).trans q2258).trans q2259).trans q2260)).trans ((((((((((q2261.trans q2262).trans q2263).trans q2264).trans q2265).trans q2266).trans q2267).trans q2268).trans q2269).trans q2270).trans q2271)
          have e2273 : rv h 5 = (h ((h 61 1) + 7) 2) := (congrArg (fun z => svq h z 5) rfl).trans rfl
          have q2274 : h1935 61 1 = h1742 61 1 := f1937 61 1 (by decide +kernel)
          have q2275 : h1742 61 1 = h1728 61 1 := f1744 61 1 (by decide +kernel)
          have q2276 : h1728 61 1 = h1712 61 1 := f1730 61 1 (by decide +kernel)
          have q2277 : h1712 61 1 = h1566 61 1 := f1714 61 1 (by decide +kernel)
          have q2278 : h1566 61 1 = h1444 61 1 := f1568 61 1 (by decide +kernel)
          have q2279 : h1444 61 1 = h1424 61 1 := f1446 61 1 (by decide +kernel)
          have q2280 : h1424 61 1 = h1410 61 1 := f1426 61 1 (by decide +kernel)
          have q2281 : h1410 61 1 = h1392 61 1 := f1412 61 1 (by decide +kernel)
          have q2282 : h1392 61 1 = h1368 61 1 := f1394 61 1 (by decide +kernel)
          have q2283 : h1368 61 1 = h35 61 1 := f1370 61 1 (by decide +kernel)
          have q2284 : h35 61 1 = h8 61 1 := f37 61 1 (by decide +kernel)
          have q2285 : h8 61 1 = h 61 1 := f10 61 1 (by decide +kernel)
          have q2286 : h1935 ((h 61 1) + 7) 2 = h1742 ((h 61 1) + 7) 2 := jK 0 f1937 (rg_T7_2_0_1 t1) (by first | decide | omega) (by first | decide | omega) (by decide)
          have q2287 : h1742 ((h 61 1) + 7) 2 = h1728 ((h 61 1) + 7) 2 := jK 0 f1744 (rg_T7_2_0_1 t1) (by first | decide | omega) (by first | decide | omega) (by decide)
          have q2288 : h1728 ((h 61 1) + 7) 2 = h1712 ((h 61 1) + 7) 2 := jK 0 f1730 (rg_T7_2_0_1 t1) (by first | decide | omega) (by first | decide | omega) (by decide)
          have q2289 : h1712 ((h 61 1) + 7) 2 = h1566 ((h 61 1) + 7) 2 := jK 0 f1714 (rg_T7_2_0_1 t1) (by first | decide | omega) (by first | decide | omega) (by decide)
          have q2290 : h1566 ((h 61 1) + 7) 2 = h1444 ((h 61 1) + 7) 2 := jK 0 f1568 (rg_T7_2_0_1 t1) (by first | decide | omega) (by first | decide | omega) (by decide)
          have q2291 : h1444 ((h 61 1) + 7) 2 = h1424 ((h 61 1) + 7) 2 := jK 0 f1446 (rg_T7_2_0_1 t1) (by first | decide | omega) (by first | decide | omega) (by decide)
          have q2292 : h1424 ((h 61 1) + 7) 2 = h1410 ((h 61 1) + 7) 2 := jK 0 f1426 (rg_T7_2_0_1 t1) (by first | decide | omega) (by first | decide | omega) (by decide)
          have q2293 : h1410 ((h 61 1) + 7) 2 = h1392 ((h 61 1) + 7) 2 := jK 0 f1412 (rg_T7_2_0_1 t1) (by first | decide | omega) (by first | decide | omega) (by decide)
          have q2294 : h1392 ((h 61 1) + 7) 2 = h1368 ((h 61 1) + 7) 2 := jK 0 f1394 (rg_T7_2_0_1 t1) (by first | decide | omega) (by first | decide | omega) (by decide)
          have q2295 : h1368 ((h 61 1) + 7) 2 = h35 ((h 61 1) + 7) 2 := jK 0 f1370 (rg_T7_2_0_1 t1) (by first | decide | omega) (by first | decide | omega) (by decide)
          have q2296 : h35 ((h 61 1) + 7) 2 = h8 ((h 61 1) + 7) 2 := jK 0 f37 (rg_T7_2_0_1 t1) (by first | decide | omega) (by first | decide | omega) (by decide)
          have e2297 : rv h1935 5 = (h8 ((h 61 1) + 7) 2) := (congrArg (fun z => svq h1935 z 5) (((((((((((q2274.trans q2275).trans q2276).trans q2277).trans q2278).trans q2279).trans q2280).trans q2281).trans q2282).trans q2283).trans q2284).trans q2285)).trans ((((((((((q2286.trans q2287).trans q2288).trans q2289).trans q2290).trans q2291).trans q2292).trans q2293).trans q2294).trans q2295).trans q2296)
          have q2298 : h8 1 2 = h 1 2 := jK 0 f10 rg_1_2_0_1 (by first | decide | omega) (by first | decide | omega) (by decide)
          obtain ⟨w2299, e2300⟩ := Tk.yes c41 (by first | decide | omega)
          have q2301 : h1368 1 2 = h35 1 2 := jK 0 f1370 rg_1_2_0_1 (by first | decide | omega) (by first | decide | omega) (by decide)
          have q2302 : h1410 1 2 = h1392 1 2 := jK 0 f1412 rg_1_2_0_1 (by first | decide | omega) (by first | decide | omega) (by decide)
          obtain ⟨w2303, e2304⟩ := Tk.yes c1430 (by first | decide | omega)
          obtain ⟨w2305, e2306⟩ := Tk.yes c1572 (by first | decide | omega)
          have q2307 : h1728 1 2 = h1712 1 2 := jK 0 f1730 rg_1_2_0_1 (by first | decide | omega) (by first | decide | omega) (by decide)
          obtain ⟨w2308, e2309⟩ := Tk.yes c1748 (by first | decide | omega)
          have m2310 : Ot (h 61 1) h h8 := Ot.trans Ot.refl (c19)
          have m2311 : Ot (h 61 1) h h35 := Ot.fr m2310 f37 (by decide)
          have m2312 : Ot (h 61 1) h h1368 := Ot.fr m2311 f1370 (by decide)
          have m2313 : Ot (h 61 1) h h1392 := Ot.fr m2312 f1394 (by decide)
          have m2314 : Ot (h 61 1) h h1410 := Ot.fr m2313 f1412 (by decide)
          have m2315 : Ot (h 61 1) h h1424 := Ot.fr m2314 f1426 (by decide)
          have m2316 : Ot (h 61 1) h h1444 := Ot.fr m2315 f1446 (by decide)
          have m2317 : Ot (h 61 1) h h1566 := Ot.fr m2316 f1568 (by decide)
          have m2318 : Ot (h 61 1) h h1712 := Ot.fr m2317 f1714 (by decide)
          have m2319 : Ot (h 61 1) h h1728 := Ot.fr m2318 f1730 (by decide)
          have m2320 : Ot (h 61 1) h h1742 := Ot.fr m2319 f1744 (by decide)
          have m2321 : Ot (h 61 1) h h1935 := Ot.fr m2320 f1937 (by decide)
          refine x_retI (np := 178) (x := 0) (by decide +kernel) (by decide) (Or.inr ⟨by decide +kernel, by first | decide | omega, by first | decide | omega⟩) ⟨_, rfl, (by decide), ?_⟩
          exact ⟨j1936, f1943, (by first | decide | omega), (by first | decide | omega), (by first | decide | omega), (by first | decide | omega), (by first | decide | omega), (fun z => by first | decide | omega), (by first | decide | omega), (or9.y w2299 (show h8 1 2 = h 1 2 by first | decide | omega) e2300 rfl (nm9.y c1399 (by first | decide | omega) (by first | decide | omega) (show h1368 1 2 = h35 1 2 by first | decide | omega) (by first | decide | omega) rfl (wd9.y w2303 (show h1410 1 2 = h1392 1 2 by first | decide | omega) e2304 rfl (nm9.y c1451 (by first | decide | omega) (by first | decide | omega) rfl (by first | decide | omega) rfl (wd9.y w2305 rfl e2306 rfl (nm9.y c1719 (by first | decide | omega) (by first | decide | omega) rfl (by first | decide | omega) rfl (wd9.y w2308 (show h1728 1 2 = h1712 1 2 by first | decide | omega) e2309 rfl (nm9.f c1942 (by first | decide | omega) (by first | decide | omega) rfl (by first | decide | omega) (by first | decide | omega))))))))), m2321⟩
        have q2148 : ¬ (2147483648 = 2147483648) := q2148
        exfalso; omega
      have q1723 : ¬ (v1708 ≠ 2147483647) := q1723
      have b2322 := c1718 (by first | decide | omega)
      refine x_const (np := 20) (x := 9223372039002259456) (a := 2147483648) (by decide +kernel) (by decide) (by decide) ?_
      refine x_retI (np := 21) (x := 0) (by decide +kernel) (by decide) (Or.inr ⟨by decide +kernel, by first | decide | omega, by first | decide | omega⟩) ⟨_, rfl, (by decide), ?_⟩
      refine x_ifz (k := 0) (tg := 176) (np := 140) (by decide +kernel) (by decide) (by decide) (fun q2323 => ?_) (fun q2324 => ?_)
      · have q2323 : 2147483648 = 2147483648 := q2323
        refine x_const (np := 177) (x := 9223372039002259456) (a := 2147483648) (by decide +kernel) (by decide) (by decide) ?_
        have e2325 : rv h 0 = (h (h 61 1) 7) := (congrArg (fun z => svq h z 0) rfl).trans rfl
        have q2326 : h1712 61 1 = h1566 61 1 := f1714 61 1 (by decide +kernel)
        have q2327 : h1566 61 1 = h1444 61 1 := f1568 61 1 (by decide +kernel)
        have q2328 : h1444 61 1 = h1424 61 1 := f1446 61 1 (by decide +kernel)
        have q2329 : h1424 61 1 = h1410 61 1 := f1426 61 1 (by decide +kernel)
        have q2330 : h1410 61 1 = h1392 61 1 := f1412 61 1 (by decide +kernel)
        have q2331 : h1392 61 1 = h1368 61 1 := f1394 61 1 (by decide +kernel)
        have q2332 : h1368 61 1 = h35 61 1 := f1370 61 1 (by decide +kernel)
        have q2333 : h35 61 1 = h8 61 1 := f37 61 1 (by decide +kernel)
        have q2334 : h8 61 1 = h 61 1 := f10 61 1 (by decide +kernel)
        have q2335 : h1712 (h 61 1) 7 = h1566 (h 61 1) 7 := jK 0 f1714 (rg_T0_7_0_1 t1) (by first | decide | omega) (by first | decide | omega) (by decide)
        have q2336 : h1566 (h 61 1) 7 = h1444 (h 61 1) 7 := jK 0 f1568 (rg_T0_7_0_1 t1) (by first | decide | omega) (by first | decide | omega) (by decide)
        have q2337 : h1444 (h 61 1) 7 = h1424 (h 61 1) 7 := jK 0 f1446 (rg_T0_7_0_1 t1) (by first | decide | omega) (by first | decide | omega) (by decide)
        have q2338 : h1424 (h 61 1) 7 = h1410 (h 61 1) 7 := jK 0 f1426 (rg_T0_7_0_1 t1) (by first | decide | omega) (by first | decide | omega) (by decide)
        have q2339 : h1410 (h 61 1) 7 = h1392 (h 61 1) 7 := jK 0 f1412 (rg_T0_7_0_1 t1) (by first | decide | omega) (by first | decide | omega) (by decide)
        have q2340 : h1392 (h 61 1) 7 = h1368 (h 61 1) 7 := jK 0 f1394 (rg_T0_7_0_1 t1) (by first | decide | omega) (by first | decide | omega) (by decide)
        have q2341 : h1368 (h 61 1) 7 = h35 (h 61 1) 7 := jK 0 f1370 (rg_T0_7_0_1 t1) (by first | decide | omega) (by first | decide | omega) (by decide)
        have q2342 : h35 (h 61 1) 7 = h8 (h 61 1) 7 := jK 0 f37 (rg_T0_7_0_1 t1) (by first | decide | omega) (by first | decide | omega) (by decide)
        have e2343 : rv h1712 0 = (h8 (h 61 1) 7) := (congrArg (fun z => svq h1712 z 0) ((((((((q2326.trans q2327).trans q2328).trans q2329).trans q2330).trans q2331).trans q2332).trans q2333).trans q2334)).trans (((((((q2335.trans q2336).trans q2337).trans q2338).trans q2339).trans q2340).trans q2341).trans q2342)
        have e2344 : rv h 1 = (h (h 61 1) 8) := (congrArg (fun z => svq h z 1) rfl).trans rfl
        have q2345 : h1712 61 1 = h1566 61 1 := f1714 61 1 (by decide +kernel)
        have q2346 : h1566 61 1 = h1444 61 1 := f1568 61 1 (by decide +kernel)
        have q2347 : h1444 61 1 = h1424 61 1 := f1446 61 1 (by decide +kernel)
        have q2348 : h1424 61 1 = h1410 61 1 := f1426 61 1 (by decide +kernel)
        have q2349 : h1410 61 1 = h1392 61 1 := f1412 61 1 (by decide +kernel)
        have q2350 : h1392 61 1 = h1368 61 1 := f1394 61 1 (by decide +kernel)
        have q2351 : h1368 61 1 = h35 61 1 := f1370 61 1 (by decide +kernel)
        have q2352 : h35 61 1 = h8 61 1 := f37 61 1 (by decide +kernel)
        have q2353 : h8 61 1 = h 61 1 := f10 61 1 (by decide +kernel)
        have q2354 : h1712 (h 61 1) 8 = h1566 (h 61 1) 8 := jK 0 f1714 (rg_T0_8_0_1 t1) (by first | decide | omega) (by first | decide | omega) (by decide)
        have q2355 : h1566 (h 61 1) 8 = h1444 (h 61 1) 8 := jK 0 f1568 (rg_T0_8_0_1 t1) (by first | decide | omega) (by first | decide | omega) (by decide)
        have q2356 : h1444 (h 61 1) 8 = h1424 (h 61 1) 8 := jK 0 f1446 (rg_T0_8_0_1 t1) (by first | decide | omega) (by first | decide | omega) (by decide)
        have q2357 : h1424 (h 61 1) 8 = h1410 (h 61 1) 8 := jK 0 f1426 (rg_T0_8_0_1 t1) (by first | decide | omega) (by first | decide | omega) (by decide)
        have q2358 : h1410 (h 61 1) 8 = h1392 (h 61 1) 8 := jK 0 f1412 (rg_T0_8_0_1 t1) (by first | decide | omega) (by first | decide | omega) (by decide)
        have q2359 : h1392 (h 61 1) 8 = h1368 (h 61 1) 8 := jK 0 f1394 (rg_T0_8_0_1 t1) (by first | decide | omega) (by first | decide | omega) (by decide)
        have q2360 : h1368 (h 61 1) 8 = h35 (h 61 1) 8 := jK 0 f1370 (rg_T0_8_0_1 t1) (by first | decide | omega) (by first | decide | omega) (by decide)
        have q2361 : h35 (h 61 1) 8 = h8 (h 61 1) 8 := jK 0 f37 (rg_T0_8_0_1 t1) (by first | decide | omega) (by first | decide | omega) (by decide)
        have e2362 : rv h1712 1 = (h8 (h 61 1) 8) := (congrArg (fun z => svq h1712 z 1) ((((((((q2345.trans q2346).trans q2347).trans q2348).trans q2349).trans q2350).trans q2351).trans q2352).trans q2353)).trans (((((((q2354.trans q2355).trans q2356).trans q2357).trans q2358).trans q2359).trans q2360).trans q2361)
        have e2363 : rv h 2 = (h ((h 61 1) + 1) 2) := (congrArg (fun z => svq h z 2) rfl).trans rfl
        have q2364 : h1712 61 1 = h1566 61 1 := f1714 61 1 (by decide +kernel)
        have q2365 : h1566 61 1 = h1444 61 1 := f1568 61 1 (by decide +kernel)
        have q2366 : h1444 61 1 = h1424 61 1 := f1446 61 1 (by decide +kernel)
        have q2367 : h1424 61 1 = h1410 61 1 := f1426 61 1 (by decide +kernel)
        have q2368 : h1410 61 1 = h1392 61 1 := f1412 61 1 (by decide +kernel)
        have q2369 : h1392 61 1 = h1368 61 1 := f1394 61 1 (by decide +kernel)
        have q2370 : h1368 61 1 = h35 61 1 := f1370 61 1 (by decide +kernel)
        have q2371 : h35 61 1 = h8 61 1 := f37 61 1 (by decide +kernel)
        have q2372 : h8 61 1 = h 61 1 := f10 61 1 (by decide +kernel)
        have q2373 : h1712 ((h 61 1) + 1) 2 = h1566 ((h 61 1) + 1) 2 := jK 0 f1714 (rg_T1_2_0_1 t1) (by first | decide | omega) (by first | decide | omega) (by decide)
        have q2374 : h1566 ((h 61 1) + 1) 2 = h1444 ((h 61 1) + 1) 2 := jK 0 f1568 (rg_T1_2_0_1 t1) (by first | decide | omega) (by first | decide | omega) (by decide)
        have q2375 : h1444 ((h 61 1) + 1) 2 = h1424 ((h 61 1) + 1) 2 := jK 0 f1446 (rg_T1_2_0_1 t1) (by first | decide | omega) (by first | decide | omega) (by decide)
        have q2376 : h1424 ((h 61 1) + 1) 2 = h1410 ((h 61 1) + 1) 2 := jK 0 f1426 (rg_T1_2_0_1 t1) (by first | decide | omega) (by first | decide | omega) (by decide)
        have q2377 : h1410 ((h 61 1) + 1) 2 = h1392 ((h 61 1) + 1) 2 := jK 0 f1412 (rg_T1_2_0_1 t1) (by first | decide | omega) (by first | decide | omega) (by decide)
        have q2378 : h1392 ((h 61 1) + 1) 2 = h1368 ((h 61 1) + 1) 2 := jK 0 f1394 (rg_T1_2_0_1 t1) (by first | decide | omega) (by first | decide | omega) (by decide)
        have q2379 : h1368 ((h 61 1) + 1) 2 = h35 ((h 61 1) + 1) 2 := jK 0 f1370 (rg_T1_2_0_1 t1) (by first | decide | omega) (by first | decide | omega) (by decide)
        have q2380 : h35 ((h 61 1) + 1) 2 = h8 ((h 61 1) + 1) 2 := jK 0 f37 (rg_T1_2_0_1 t1) (by first | decide | omega) (by first | decide | omega) (by decide)
        have e2381 : rv h1712 2 = (h8 ((h 61 1) + 1) 2) := (congrArg (fun z => svq h1712 z 2) ((((((((q2364.trans q2365).trans q2366).trans q2367).trans q2368).trans q2369).trans q2370).trans q2371).trans q2372)).trans (((((((q2373.trans q2374).trans q2375).trans q2376).trans q2377).trans q2378).trans q2379).trans q2380)
        have e2382 : rv h 3 = (h ((h 61 1) + 3) 2) := (congrArg (fun z => svq h z 3) rfl).trans rfl
        have q2383 : h1712 61 1 = h1566 61 1 := f1714 61 1 (by decide +kernel)
        have q2384 : h1566 61 1 = h1444 61 1 := f1568 61 1 (by decide +kernel)
        have q2385 : h1444 61 1 = h1424 61 1 := f1446 61 1 (by decide +kernel)
        have q2386 : h1424 61 1 = h1410 61 1 := f1426 61 1 (by decide +kernel)
        have q2387 : h1410 61 1 = h1392 61 1 := f1412 61 1 (by decide +kernel)
        have q2388 : h1392 61 1 = h1368 61 1 := f1394 61 1 (by decide +kernel)
        have q2389 : h1368 61 1 = h35 61 1 := f1370 61 1 (by decide +kernel)
        have q2390 : h35 61 1 = h8 61 1 := f37 61 1 (by decide +kernel)
        have q2391 : h8 61 1 = h 61 1 := f10 61 1 (by decide +kernel)
        have q2392 : h1712 ((h 61 1) + 3) 2 = h1566 ((h 61 1) + 3) 2 := jK 0 f1714 (rg_T3_2_0_1 t1) (by first | decide | omega) (by first | decide | omega) (by decide)
        have q2393 : h1566 ((h 61 1) + 3) 2 = h1444 ((h 61 1) + 3) 2 := jK 0 f1568 (rg_T3_2_0_1 t1) (by first | decide | omega) (by first | decide | omega) (by decide)
        have q2394 : h1444 ((h 61 1) + 3) 2 = h1424 ((h 61 1) + 3) 2 := jK 0 f1446 (rg_T3_2_0_1 t1) (by first | decide | omega) (by first | decide | omega) (by decide)
        have q2395 : h1424 ((h 61 1) + 3) 2 = h1410 ((h 61 1) + 3) 2 := jK 0 f1426 (rg_T3_2_0_1 t1) (by first | decide | omega) (by first | decide | omega) (by decide)
        have q2396 : h1410 ((h 61 1) + 3) 2 = h1392 ((h 61 1) + 3) 2 := jK 0 f1412 (rg_T3_2_0_1 t1) (by first | decide | omega) (by first | decide | omega) (by decide)
        have q2397 : h1392 ((h 61 1) + 3) 2 = h1368 ((h 61 1) + 3) 2 := jK 0 f1394 (rg_T3_2_0_1 t1) (by first | decide | omega) (by first | decide | omega) (by decide)
        have q2398 : h1368 ((h 61 1) + 3) 2 = h35 ((h 61 1) + 3) 2 := jK 0 f1370 (rg_T3_2_0_1 t1) (by first | decide | omega) (by first | decide | omega) (by decide)
        have q2399 : h35 ((h 61 1) + 3) 2 = h8 ((h 61 1) + 3) 2 := jK 0 f37 (rg_T3_2_0_1 t1) (by first | decide | omega) (by first | decide | omega) (by decide)
        have e2400 : rv h1712 3 = (h8 ((h 61 1) + 3) 2) := (congrArg (fun z => svq h1712 z 3) ((((((((q2383.trans q2384).trans q2385).trans q2386).trans q2387).trans q2388).trans q2389).trans q2390).trans q2391)).trans (((((((q2392.trans q2393).trans q2394).trans q2395).trans q2396).trans q2397).trans q2398).trans q2399)
        have q2401 : h1712 61 1 = h1566 61 1 := f1714 61 1 (by decide +kernel)
        have q2402 : h1566 61 1 = h1444 61 1 := f1568 61 1 (by decide +kernel)
        have q2403 : h1444 61 1 = h1424 61 1 := f1446 61 1 (by decide +kernel)
        have q2404 : h1424 61 1 = h1410 61 1 := f1426 61 1 (by decide +kernel)
        have q2405 : h1410 61 1 = h1392 61 1 := f1412 61 1 (by decide +kernel)
        have q2406 : h1392 61 1 = h1368 61 1 := f1394 61 1 (by decide +kernel)
        have q2407 : h1368 61 1 = h35 61 1 := f1370 61 1 (by decide +kernel)
        have q2408 : h35 61 1 = h8 61 1 := f37 61 1 (by decide +kernel)
        have q2409 : h8 61 1 = h 61 1 := f10 61 1 (by decide +kernel)
        have q2410 : h1712 ((h 61 1) + 5) 2 = h1566 ((h 61 1) + 5) 2 := jK 0 f1714 (rg_T5_2_0_1 t1) (by first | decide | omega) (by first | decide | omega) (by decide)
        have q2411 : h1566 ((h 61 1) + 5) 2 = h1444 ((h 61 1) + 5) 2 := jK 0 f1568 (rg_T5_2_0_1 t1) (by first | decide | omega) (by first | decide | omega) (by decide)
        have q2412 : h1444 ((h 61 1) + 5) 2 = h1424 ((h 61 1) + 5) 2 := jK 0 f1446 (rg_T5_2_0_1 t1) (by first | decide | omega) (by first | decide | omega) (by decide)
        have q2413 : h1424 ((h 61 1) + 5) 2 = h1410 ((h 61 1) + 5) 2 := jK 0 f1426 (rg_T5_2_0_1 t1) (by first | decide | omega) (by first | decide | omega) (by decide)
        have q2414 : h1410 ((h 61 1) + 5) 2 = h1392 ((h 61 1) + 5) 2 := jK 0 f1412 (rg_T5_2_0_1 t1) (by first | decide | omega) (by first | decide | omega) (by decide)
        have q2415 : h1392 ((h 61 1) + 5) 2 = h1368 ((h 61 1) + 5) 2 := jK 0 f1394 (rg_T5_2_0_1 t1) (by first | decide | omega) (by first | decide | omega) (by decide)
        have q2416 : h1368 ((h 61 1) + 5) 2 = h35 ((h 61 1) + 5) 2 := jK 0 f1370 (rg_T5_2_0_1 t1) (by first | decide | omega) (by first | decide | omega) (by decide)
        have q2417 : h35 ((h 61 1) + 5) 2 = h8 ((h 61 1) + 5) 2 := jK 0 f37 (rg_T5_2_0_1 t1) (by first | decide | omega) (by first | decide | omega) (by decide)
        have e2418 : rv h1712 4 = (h8 ((h 61 1) + 5) 2) := (congrArg (fun z => svq h1712 z 4) ((((((((q2401.trans q2402).trans q2403).trans q2404).trans q2405).trans q2406).trans q2407).trans q2408).trans q2409)).trans (((((((q2410.trans q2411).trans q2412).trans q2413).trans q2414).trans q2415).trans q2416).trans q2417)
        have e2419 : rv h 5 = (h ((h 61 1) + 7) 2) := (congrArg (fun z => svq h z 5) rfl).trans rfl
        have q2420 : h1712 61 1 = h1566 61 1 := f1714 61 1 (by decide +kernel)
        have q2421 : h1566 61 1 = h1444 61 1 := f1568 61 1 (by decide +kernel)
        have q2422 : h1444 61 1 = h1424 61 1 := f1446 61 1 (by decide +kernel)
        have q2423 : h1424 61 1 = h1410 61 1 := f1426 61 1 (by decide +kernel)
        have q2424 : h1410 61 1 = h1392 61 1 := f1412 61 1 (by decide +kernel)
        have q2425 : h1392 61 1 = h1368 61 1 := f1394 61 1 (by decide +kernel)
        have q2426 : h1368 61 1 = h35 61 1 := f1370 61 1 (by decide +kernel)
        have q2427 : h35 61 1 = h8 61 1 := f37 61 1 (by decide +kernel)
        have q2428 : h8 61 1 = h 61 1 := f10 61 1 (by decide +kernel)
        have q2429 : h1712 ((h 61 1) + 7) 2 = h1566 ((h 61 1) + 7) 2 := jK 0 f1714 (rg_T7_2_0_1 t1) (by first | decide | omega) (by first | decide | omega) (by decide)
        have q2430 : h1566 ((h 61 1) + 7) 2 = h1444 ((h 61 1) + 7) 2 := jK 0 f1568 (rg_T7_2_0_1 t1) (by first | decide | omega) (by first | decide | omega) (by decide)
        have q2431 : h1444 ((h 61 1) + 7) 2 = h1424 ((h 61 1) + 7) 2 := jK 0 f1446 (rg_T7_2_0_1 t1) (by first | decide | omega) (by first | decide | omega) (by decide)
        have q2432 : h1424 ((h 61 1) + 7) 2 = h1410 ((h 61 1) + 7) 2 := jK 0 f1426 (rg_T7_2_0_1 t1) (by first | decide | omega) (by first | decide | omega) (by decide)
        have q2433 : h1410 ((h 61 1) + 7) 2 = h1392 ((h 61 1) + 7) 2 := jK 0 f1412 (rg_T7_2_0_1 t1) (by first | decide | omega) (by first | decide | omega) (by decide)
        have q2434 : h1392 ((h 61 1) + 7) 2 = h1368 ((h 61 1) + 7) 2 := jK 0 f1394 (rg_T7_2_0_1 t1) (by first | decide | omega) (by first | decide | omega) (by decide)
        have q2435 : h1368 ((h 61 1) + 7) 2 = h35 ((h 61 1) + 7) 2 := jK 0 f1370 (rg_T7_2_0_1 t1) (by first | decide | omega) (by first | decide | omega) (by decide)
        have q2436 : h35 ((h 61 1) + 7) 2 = h8 ((h 61 1) + 7) 2 := jK 0 f37 (rg_T7_2_0_1 t1) (by first | decide | omega) (by first | decide | omega) (by decide)
        have e2437 : rv h1712 5 = (h8 ((h 61 1) + 7) 2) := (congrArg (fun z => svq h1712 z 5) ((((((((q2420.trans q2421).trans q2422).trans q2423).trans q2424).trans q2425).trans q2426).trans q2427).trans q2428)).trans (((((((q2429.trans q2430).trans q2431).trans q2432).trans q2433).trans q2434).trans q2435).trans q2436)
        have q2438 : h8 1 2 = h 1 2 := jK 0 f10 rg_1_2_0_1 (by first | decide | omega) (by first | decide | omega) (by decide)
        obtain ⟨w2439, e2440⟩ := Tk.yes c41 (by first | decide | omega)
        have q2441 : h1368 1 2 = h35 1 2 := jK 0 f1370 rg_1_2_0_1 (by first | decide | omega) (by first | decide | omega) (by decide)
        have q2442 : h1410 1 2 = h1392 1 2 := jK 0 f1412 rg_1_2_0_1 (by first | decide | omega) (by first | decide | omega) (by decide)
        obtain ⟨w2443, e2444⟩ := Tk.yes c1430 (by first | decide | omega)
        obtain ⟨w2445, e2446⟩ := Tk.yes c1572 (by first | decide | omega)
        have m2447 : Ot (h 61 1) h h8 := Ot.trans Ot.refl (c19)
        have m2448 : Ot (h 61 1) h h35 := Ot.fr m2447 f37 (by decide)
        have m2449 : Ot (h 61 1) h h1368 := Ot.fr m2448 f1370 (by decide)
        have m2450 : Ot (h 61 1) h h1392 := Ot.fr m2449 f1394 (by decide)
        have m2451 : Ot (h 61 1) h h1410 := Ot.fr m2450 f1412 (by decide)
        have m2452 : Ot (h 61 1) h h1424 := Ot.fr m2451 f1426 (by decide)
        have m2453 : Ot (h 61 1) h h1444 := Ot.fr m2452 f1446 (by decide)
        have m2454 : Ot (h 61 1) h h1566 := Ot.fr m2453 f1568 (by decide)
        have m2455 : Ot (h 61 1) h h1712 := Ot.fr m2454 f1714 (by decide)
        refine x_retI (np := 178) (x := 0) (by decide +kernel) (by decide) (Or.inr ⟨by decide +kernel, by first | decide | omega, by first | decide | omega⟩) ⟨_, rfl, (by decide), ?_⟩
        exact ⟨j1713, f1720, (by first | decide | omega), (by first | decide | omega), (by first | decide | omega), (by first | decide | omega), (by first | decide | omega), (fun z => by first | decide | omega), (by first | decide | omega), (or9.y w2439 (show h8 1 2 = h 1 2 by first | decide | omega) e2440 rfl (nm9.y c1399 (by first | decide | omega) (by first | decide | omega) (show h1368 1 2 = h35 1 2 by first | decide | omega) (by first | decide | omega) rfl (wd9.y w2443 (show h1410 1 2 = h1392 1 2 by first | decide | omega) e2444 rfl (nm9.y c1451 (by first | decide | omega) (by first | decide | omega) rfl (by first | decide | omega) rfl (wd9.y w2445 rfl e2446 rfl (nm9.f c1719 (by first | decide | omega) (by first | decide | omega) rfl (by first | decide | omega) (by first | decide | omega))))))), m2455⟩
      have q2324 : ¬ (2147483648 = 2147483648) := q2324
      exfalso; omega
    have q1437 : ¬ (v1419 ≠ 2147483648) := q1437
    have b2456 := c1429 (by first | decide | omega)
    refine x_const (np := 92) (x := 9223372039002259456) (a := 2147483648) (by decide +kernel) (by decide) (by decide) ?_
    have e2457 : rv h 0 = (h (h 61 1) 7) := (congrArg (fun z => svq h z 0) rfl).trans rfl
    have q2458 : h1424 61 1 = h1410 61 1 := f1426 61 1 (by decide +kernel)
    have q2459 : h1410 61 1 = h1392 61 1 := f1412 61 1 (by decide +kernel)
    have q2460 : h1392 61 1 = h1368 61 1 := f1394 61 1 (by decide +kernel)
    have q2461 : h1368 61 1 = h35 61 1 := f1370 61 1 (by decide +kernel)
    have q2462 : h35 61 1 = h8 61 1 := f37 61 1 (by decide +kernel)
    have q2463 : h8 61 1 = h 61 1 := f10 61 1 (by decide +kernel)
    have q2464 : h1424 (h 61 1) 7 = h1410 (h 61 1) 7 := jK 0 f1426 (rg_T0_7_0_1 t1) (by first | decide | omega) (by first | decide | omega) (by decide)
    have q2465 : h1410 (h 61 1) 7 = h1392 (h 61 1) 7 := jK 0 f1412 (rg_T0_7_0_1 t1) (by first | decide | omega) (by first | decide | omega) (by decide)
    have q2466 : h1392 (h 61 1) 7 = h1368 (h 61 1) 7 := jK 0 f1394 (rg_T0_7_0_1 t1) (by first | decide | omega) (by first | decide | omega) (by decide)
    have q2467 : h1368 (h 61 1) 7 = h35 (h 61 1) 7 := jK 0 f1370 (rg_T0_7_0_1 t1) (by first | decide | omega) (by first | decide | omega) (by decide)
    have q2468 : h35 (h 61 1) 7 = h8 (h 61 1) 7 := jK 0 f37 (rg_T0_7_0_1 t1) (by first | decide | omega) (by first | decide | omega) (by decide)
    have e2469 : rv h1424 0 = (h8 (h 61 1) 7) := (congrArg (fun z => svq h1424 z 0) (((((q2458.trans q2459).trans q2460).trans q2461).trans q2462).trans q2463)).trans ((((q2464.trans q2465).trans q2466).trans q2467).trans q2468)
    have e2470 : rv h 1 = (h (h 61 1) 8) := (congrArg (fun z => svq h z 1) rfl).trans rfl
    have q2471 : h1424 61 1 = h1410 61 1 := f1426 61 1 (by decide +kernel)
    have q2472 : h1410 61 1 = h1392 61 1 := f1412 61 1 (by decide +kernel)
    have q2473 : h1392 61 1 = h1368 61 1 := f1394 61 1 (by decide +kernel)
    have q2474 : h1368 61 1 = h35 61 1 := f1370 61 1 (by decide +kernel)
    have q2475 : h35 61 1 = h8 61 1 := f37 61 1 (by decide +kernel)
    have q2476 : h8 61 1 = h 61 1 := f10 61 1 (by decide +kernel)
    have q2477 : h1424 (h 61 1) 8 = h1410 (h 61 1) 8 := jK 0 f1426 (rg_T0_8_0_1 t1) (by first | decide | omega) (by first | decide | omega) (by decide)
    have q2478 : h1410 (h 61 1) 8 = h1392 (h 61 1) 8 := jK 0 f1412 (rg_T0_8_0_1 t1) (by first | decide | omega) (by first | decide | omega) (by decide)
    have q2479 : h1392 (h 61 1) 8 = h1368 (h 61 1) 8 := jK 0 f1394 (rg_T0_8_0_1 t1) (by first | decide | omega) (by first | decide | omega) (by decide)
    have q2480 : h1368 (h 61 1) 8 = h35 (h 61 1) 8 := jK 0 f1370 (rg_T0_8_0_1 t1) (by first | decide | omega) (by first | decide | omega) (by decide)
    have q2481 : h35 (h 61 1) 8 = h8 (h 61 1) 8 := jK 0 f37 (rg_T0_8_0_1 t1) (by first | decide | omega) (by first | decide | omega) (by decide)
    have e2482 : rv h1424 1 = (h8 (h 61 1) 8) := (congrArg (fun z => svq h1424 z 1) (((((q2471.trans q2472).trans q2473).trans q2474).trans q2475).trans q2476)).trans ((((q2477.trans q2478).trans q2479).trans q2480).trans q2481)
    have e2483 : rv h 2 = (h ((h 61 1) + 1) 2) := (congrArg (fun z => svq h z 2) rfl).trans rfl
    have q2484 : h1424 61 1 = h1410 61 1 := f1426 61 1 (by decide +kernel)
    have q2485 : h1410 61 1 = h1392 61 1 := f1412 61 1 (by decide +kernel)
    have q2486 : h1392 61 1 = h1368 61 1 := f1394 61 1 (by decide +kernel)
    have q2487 : h1368 61 1 = h35 61 1 := f1370 61 1 (by decide +kernel)
    have q2488 : h35 61 1 = h8 61 1 := f37 61 1 (by decide +kernel)
    have q2489 : h8 61 1 = h 61 1 := f10 61 1 (by decide +kernel)
    have q2490 : h1424 ((h 61 1) + 1) 2 = h1410 ((h 61 1) + 1) 2 := jK 0 f1426 (rg_T1_2_0_1 t1) (by first | decide | omega) (by first | decide | omega) (by decide)
    have q2491 : h1410 ((h 61 1) + 1) 2 = h1392 ((h 61 1) + 1) 2 := jK 0 f1412 (rg_T1_2_0_1 t1) (by first | decide | omega) (by first | decide | omega) (by decide)
    have q2492 : h1392 ((h 61 1) + 1) 2 = h1368 ((h 61 1) + 1) 2 := jK 0 f1394 (rg_T1_2_0_1 t1) (by first | decide | omega) (by first | decide | omega) (by decide)
    have q2493 : h1368 ((h 61 1) + 1) 2 = h35 ((h 61 1) + 1) 2 := jK 0 f1370 (rg_T1_2_0_1 t1) (by first | decide | omega) (by first | decide | omega) (by decide)
    have q2494 : h35 ((h 61 1) + 1) 2 = h8 ((h 61 1) + 1) 2 := jK 0 f37 (rg_T1_2_0_1 t1) (by first | decide | omega) (by first | decide | omega) (by decide)
    have e2495 : rv h1424 2 = (h8 ((h 61 1) + 1) 2) := (congrArg (fun z => svq h1424 z 2) (((((q2484.trans q2485).trans q2486).trans q2487).trans q2488).trans q2489)).trans ((((q2490.trans q2491).trans q2492).trans q2493).trans q2494)
    have e2496 : rv h 3 = (h ((h 61 1) + 3) 2) := (congrArg (fun z => svq h z 3) rfl).trans rfl
    have q2497 : h1424 61 1 = h1410 61 1 := f1426 61 1 (by decide +kernel)
    have q2498 : h1410 61 1 = h1392 61 1 := f1412 61 1 (by decide +kernel)
    have q2499 : h1392 61 1 = h1368 61 1 := f1394 61 1 (by decide +kernel)
    have q2500 : h1368 61 1 = h35 61 1 := f1370 61 1 (by decide +kernel)
    have q2501 : h35 61 1 = h8 61 1 := f37 61 1 (by decide +kernel)
    have q2502 : h8 61 1 = h 61 1 := f10 61 1 (by decide +kernel)
    have q2503 : h1424 ((h 61 1) + 3) 2 = h1410 ((h 61 1) + 3) 2 := jK 0 f1426 (rg_T3_2_0_1 t1) (by first | decide | omega) (by first | decide | omega) (by decide)
    have q2504 : h1410 ((h 61 1) + 3) 2 = h1392 ((h 61 1) + 3) 2 := jK 0 f1412 (rg_T3_2_0_1 t1) (by first | decide | omega) (by first | decide | omega) (by decide)
    have q2505 : h1392 ((h 61 1) + 3) 2 = h1368 ((h 61 1) + 3) 2 := jK 0 f1394 (rg_T3_2_0_1 t1) (by first | decide | omega) (by first | decide | omega) (by decide)
    have q2506 : h1368 ((h 61 1) + 3) 2 = h35 ((h 61 1) + 3) 2 := jK 0 f1370 (rg_T3_2_0_1 t1) (by first | decide | omega) (by first | decide | omega) (by decide)
    have q2507 : h35 ((h 61 1) + 3) 2 = h8 ((h 61 1) + 3) 2 := jK 0 f37 (rg_T3_2_0_1 t1) (by first | decide | omega) (by first | decide | omega) (by decide)
    have e2508 : rv h1424 3 = (h8 ((h 61 1) + 3) 2) := (congrArg (fun z => svq h1424 z 3) (((((q2497.trans q2498).trans q2499).trans q2500).trans q2501).trans q2502)).trans ((((q2503.trans q2504).trans q2505).trans q2506).trans q2507)
    have q2509 : h1424 61 1 = h1410 61 1 := f1426 61 1 (by decide +kernel)
    have q2510 : h1410 61 1 = h1392 61 1 := f1412 61 1 (by decide +kernel)
    have q2511 : h1392 61 1 = h1368 61 1 := f1394 61 1 (by decide +kernel)
    have q2512 : h1368 61 1 = h35 61 1 := f1370 61 1 (by decide +kernel)
    have q2513 : h35 61 1 = h8 61 1 := f37 61 1 (by decide +kernel)
    have q2514 : h8 61 1 = h 61 1 := f10 61 1 (by decide +kernel)
    have q2515 : h1424 ((h 61 1) + 5) 2 = h1410 ((h 61 1) + 5) 2 := jK 0 f1426 (rg_T5_2_0_1 t1) (by first | decide | omega) (by first | decide | omega) (by decide)
    have q2516 : h1410 ((h 61 1) + 5) 2 = h1392 ((h 61 1) + 5) 2 := jK 0 f1412 (rg_T5_2_0_1 t1) (by first | decide | omega) (by first | decide | omega) (by decide)
    have q2517 : h1392 ((h 61 1) + 5) 2 = h1368 ((h 61 1) + 5) 2 := jK 0 f1394 (rg_T5_2_0_1 t1) (by first | decide | omega) (by first | decide | omega) (by decide)
    have q2518 : h1368 ((h 61 1) + 5) 2 = h35 ((h 61 1) + 5) 2 := jK 0 f1370 (rg_T5_2_0_1 t1) (by first | decide | omega) (by first | decide | omega) (by decide)
    have q2519 : h35 ((h 61 1) + 5) 2 = h8 ((h 61 1) + 5) 2 := jK 0 f37 (rg_T5_2_0_1 t1) (by first | decide | omega) (by first | decide | omega) (by decide)
    have e2520 : rv h1424 4 = (h8 ((h 61 1) + 5) 2) := (congrArg (fun z => svq h1424 z 4) (((((q2509.trans q2510).trans q2511).trans q2512).trans q2513).trans q2514)).trans ((((q2515.trans q2516).trans q2517).trans q2518).trans q2519)
    have e2521 : rv h 5 = (h ((h 61 1) + 7) 2) := (congrArg (fun z => svq h z 5) rfl).trans rfl
    have q2522 : h1424 61 1 = h1410 61 1 := f1426 61 1 (by decide +kernel)
    have q2523 : h1410 61 1 = h1392 61 1 := f1412 61 1 (by decide +kernel)
    have q2524 : h1392 61 1 = h1368 61 1 := f1394 61 1 (by decide +kernel)
    have q2525 : h1368 61 1 = h35 61 1 := f1370 61 1 (by decide +kernel)
    have q2526 : h35 61 1 = h8 61 1 := f37 61 1 (by decide +kernel)
    have q2527 : h8 61 1 = h 61 1 := f10 61 1 (by decide +kernel)
    have q2528 : h1424 ((h 61 1) + 7) 2 = h1410 ((h 61 1) + 7) 2 := jK 0 f1426 (rg_T7_2_0_1 t1) (by first | decide | omega) (by first | decide | omega) (by decide)
    have q2529 : h1410 ((h 61 1) + 7) 2 = h1392 ((h 61 1) + 7) 2 := jK 0 f1412 (rg_T7_2_0_1 t1) (by first | decide | omega) (by first | decide | omega) (by decide)
    have q2530 : h1392 ((h 61 1) + 7) 2 = h1368 ((h 61 1) + 7) 2 := jK 0 f1394 (rg_T7_2_0_1 t1) (by first | decide | omega) (by first | decide | omega) (by decide)
    have q2531 : h1368 ((h 61 1) + 7) 2 = h35 ((h 61 1) + 7) 2 := jK 0 f1370 (rg_T7_2_0_1 t1) (by first | decide | omega) (by first | decide | omega) (by decide)
    have q2532 : h35 ((h 61 1) + 7) 2 = h8 ((h 61 1) + 7) 2 := jK 0 f37 (rg_T7_2_0_1 t1) (by first | decide | omega) (by first | decide | omega) (by decide)
    have e2533 : rv h1424 5 = (h8 ((h 61 1) + 7) 2) := (congrArg (fun z => svq h1424 z 5) (((((q2522.trans q2523).trans q2524).trans q2525).trans q2526).trans q2527)).trans ((((q2528.trans q2529).trans q2530).trans q2531).trans q2532)
    have q2534 : h8 1 2 = h 1 2 := jK 0 f10 rg_1_2_0_1 (by first | decide | omega) (by first | decide | omega) (by decide)
    obtain ⟨w2535, e2536⟩ := Tk.yes c41 (by first | decide | omega)
    have q2537 : h1368 1 2 = h35 1 2 := jK 0 f1370 rg_1_2_0_1 (by first | decide | omega) (by first | decide | omega) (by decide)
    have q2538 : h1410 1 2 = h1392 1 2 := jK 0 f1412 rg_1_2_0_1 (by first | decide | omega) (by first | decide | omega) (by decide)
    obtain ⟨w2539, e2540⟩ := Tk.no c1430 (by first | decide | omega)
    have m2541 : Ot (h 61 1) h h8 := Ot.trans Ot.refl (c19)
    have m2542 : Ot (h 61 1) h h35 := Ot.fr m2541 f37 (by decide)
    have m2543 : Ot (h 61 1) h h1368 := Ot.fr m2542 f1370 (by decide)
    have m2544 : Ot (h 61 1) h h1392 := Ot.fr m2543 f1394 (by decide)
    have m2545 : Ot (h 61 1) h h1410 := Ot.fr m2544 f1412 (by decide)
    have m2546 : Ot (h 61 1) h h1424 := Ot.fr m2545 f1426 (by decide)
    refine x_retI (np := 93) (x := 0) (by decide +kernel) (by decide) (Or.inr ⟨by decide +kernel, by first | decide | omega, by first | decide | omega⟩) ⟨_, rfl, (by decide), ?_⟩
    exact ⟨j1425, f1431, (by first | decide | omega), (by first | decide | omega), (by first | decide | omega), (by first | decide | omega), (by first | decide | omega), (fun z => by first | decide | omega), (by first | decide | omega), (or9.y w2535 (show h8 1 2 = h 1 2 by first | decide | omega) e2536 rfl (nm9.y c1399 (by first | decide | omega) (by first | decide | omega) (show h1368 1 2 = h35 1 2 by first | decide | omega) (by first | decide | omega) rfl (wd9.f w2539 (show h1410 1 2 = h1392 1 2 by first | decide | omega) (by first | decide | omega)))), m2546⟩
  have q1405 : ¬ (v1387 ≠ 2147483647) := q1405
  have b2547 := c1398 (by first | decide | omega)
  refine x_const (np := 20) (x := 9223372039002259456) (a := 2147483648) (by decide +kernel) (by decide) (by decide) ?_
  refine x_retI (np := 21) (x := 0) (by decide +kernel) (by decide) (Or.inr ⟨by decide +kernel, by first | decide | omega, by first | decide | omega⟩) ⟨_, rfl, (by decide), ?_⟩
  refine x_ifz (k := 0) (tg := 91) (np := 79) (by decide +kernel) (by decide) (by decide) (fun q2548 => ?_) (fun q2549 => ?_)
  · have q2548 : 2147483648 = 2147483648 := q2548
    refine x_const (np := 92) (x := 9223372039002259456) (a := 2147483648) (by decide +kernel) (by decide) (by decide) ?_
    have e2550 : rv h 0 = (h (h 61 1) 7) := (congrArg (fun z => svq h z 0) rfl).trans rfl
    have q2551 : h1392 61 1 = h1368 61 1 := f1394 61 1 (by decide +kernel)
    have q2552 : h1368 61 1 = h35 61 1 := f1370 61 1 (by decide +kernel)
    have q2553 : h35 61 1 = h8 61 1 := f37 61 1 (by decide +kernel)
    have q2554 : h8 61 1 = h 61 1 := f10 61 1 (by decide +kernel)
    have q2555 : h1392 (h 61 1) 7 = h1368 (h 61 1) 7 := jK 0 f1394 (rg_T0_7_0_1 t1) (by first | decide | omega) (by first | decide | omega) (by decide)
    have q2556 : h1368 (h 61 1) 7 = h35 (h 61 1) 7 := jK 0 f1370 (rg_T0_7_0_1 t1) (by first | decide | omega) (by first | decide | omega) (by decide)
    have q2557 : h35 (h 61 1) 7 = h8 (h 61 1) 7 := jK 0 f37 (rg_T0_7_0_1 t1) (by first | decide | omega) (by first | decide | omega) (by decide)
    have e2558 : rv h1392 0 = (h8 (h 61 1) 7) := (congrArg (fun z => svq h1392 z 0) (((q2551.trans q2552).trans q2553).trans q2554)).trans ((q2555.trans q2556).trans q2557)
    have e2559 : rv h 1 = (h (h 61 1) 8) := (congrArg (fun z => svq h z 1) rfl).trans rfl
    have q2560 : h1392 61 1 = h1368 61 1 := f1394 61 1 (by decide +kernel)
    have q2561 : h1368 61 1 = h35 61 1 := f1370 61 1 (by decide +kernel)
    have q2562 : h35 61 1 = h8 61 1 := f37 61 1 (by decide +kernel)
    have q2563 : h8 61 1 = h 61 1 := f10 61 1 (by decide +kernel)
    have q2564 : h1392 (h 61 1) 8 = h1368 (h 61 1) 8 := jK 0 f1394 (rg_T0_8_0_1 t1) (by first | decide | omega) (by first | decide | omega) (by decide)
    have q2565 : h1368 (h 61 1) 8 = h35 (h 61 1) 8 := jK 0 f1370 (rg_T0_8_0_1 t1) (by first | decide | omega) (by first | decide | omega) (by decide)
    have q2566 : h35 (h 61 1) 8 = h8 (h 61 1) 8 := jK 0 f37 (rg_T0_8_0_1 t1) (by first | decide | omega) (by first | decide | omega) (by decide)
    have e2567 : rv h1392 1 = (h8 (h 61 1) 8) := (congrArg (fun z => svq h1392 z 1) (((q2560.trans q2561).trans q2562).trans q2563)).trans ((q2564.trans q2565).trans q2566)
    have e2568 : rv h 2 = (h ((h 61 1) + 1) 2) := (congrArg (fun z => svq h z 2) rfl).trans rfl
    have q2569 : h1392 61 1 = h1368 61 1 := f1394 61 1 (by decide +kernel)
    have q2570 : h1368 61 1 = h35 61 1 := f1370 61 1 (by decide +kernel)
    have q2571 : h35 61 1 = h8 61 1 := f37 61 1 (by decide +kernel)
    have q2572 : h8 61 1 = h 61 1 := f10 61 1 (by decide +kernel)
    have q2573 : h1392 ((h 61 1) + 1) 2 = h1368 ((h 61 1) + 1) 2 := jK 0 f1394 (rg_T1_2_0_1 t1) (by first | decide | omega) (by first | decide | omega) (by decide)
    have q2574 : h1368 ((h 61 1) + 1) 2 = h35 ((h 61 1) + 1) 2 := jK 0 f1370 (rg_T1_2_0_1 t1) (by first | decide | omega) (by first | decide | omega) (by decide)
    have q2575 : h35 ((h 61 1) + 1) 2 = h8 ((h 61 1) + 1) 2 := jK 0 f37 (rg_T1_2_0_1 t1) (by first | decide | omega) (by first | decide | omega) (by decide)
    have e2576 : rv h1392 2 = (h8 ((h 61 1) + 1) 2) := (congrArg (fun z => svq h1392 z 2) (((q2569.trans q2570).trans q2571).trans q2572)).trans ((q2573.trans q2574).trans q2575)
    have e2577 : rv h 3 = (h ((h 61 1) + 3) 2) := (congrArg (fun z => svq h z 3) rfl).trans rfl
    have q2578 : h1392 61 1 = h1368 61 1 := f1394 61 1 (by decide +kernel)
    have q2579 : h1368 61 1 = h35 61 1 := f1370 61 1 (by decide +kernel)
    have q2580 : h35 61 1 = h8 61 1 := f37 61 1 (by decide +kernel)
    have q2581 : h8 61 1 = h 61 1 := f10 61 1 (by decide +kernel)
    have q2582 : h1392 ((h 61 1) + 3) 2 = h1368 ((h 61 1) + 3) 2 := jK 0 f1394 (rg_T3_2_0_1 t1) (by first | decide | omega) (by first | decide | omega) (by decide)
    have q2583 : h1368 ((h 61 1) + 3) 2 = h35 ((h 61 1) + 3) 2 := jK 0 f1370 (rg_T3_2_0_1 t1) (by first | decide | omega) (by first | decide | omega) (by decide)
    have q2584 : h35 ((h 61 1) + 3) 2 = h8 ((h 61 1) + 3) 2 := jK 0 f37 (rg_T3_2_0_1 t1) (by first | decide | omega) (by first | decide | omega) (by decide)
    have e2585 : rv h1392 3 = (h8 ((h 61 1) + 3) 2) := (congrArg (fun z => svq h1392 z 3) (((q2578.trans q2579).trans q2580).trans q2581)).trans ((q2582.trans q2583).trans q2584)
    have q2586 : h1392 61 1 = h1368 61 1 := f1394 61 1 (by decide +kernel)
    have q2587 : h1368 61 1 = h35 61 1 := f1370 61 1 (by decide +kernel)
    have q2588 : h35 61 1 = h8 61 1 := f37 61 1 (by decide +kernel)
    have q2589 : h8 61 1 = h 61 1 := f10 61 1 (by decide +kernel)
    have q2590 : h1392 ((h 61 1) + 5) 2 = h1368 ((h 61 1) + 5) 2 := jK 0 f1394 (rg_T5_2_0_1 t1) (by first | decide | omega) (by first | decide | omega) (by decide)
    have q2591 : h1368 ((h 61 1) + 5) 2 = h35 ((h 61 1) + 5) 2 := jK 0 f1370 (rg_T5_2_0_1 t1) (by first | decide | omega) (by first | decide | omega) (by decide)
    have q2592 : h35 ((h 61 1) + 5) 2 = h8 ((h 61 1) + 5) 2 := jK 0 f37 (rg_T5_2_0_1 t1) (by first | decide | omega) (by first | decide | omega) (by decide)
    have e2593 : rv h1392 4 = (h8 ((h 61 1) + 5) 2) := (congrArg (fun z => svq h1392 z 4) (((q2586.trans q2587).trans q2588).trans q2589)).trans ((q2590.trans q2591).trans q2592)
    have e2594 : rv h 5 = (h ((h 61 1) + 7) 2) := (congrArg (fun z => svq h z 5) rfl).trans rfl
    have q2595 : h1392 61 1 = h1368 61 1 := f1394 61 1 (by decide +kernel)
    have q2596 : h1368 61 1 = h35 61 1 := f1370 61 1 (by decide +kernel)
    have q2597 : h35 61 1 = h8 61 1 := f37 61 1 (by decide +kernel)
    have q2598 : h8 61 1 = h 61 1 := f10 61 1 (by decide +kernel)
    have q2599 : h1392 ((h 61 1) + 7) 2 = h1368 ((h 61 1) + 7) 2 := jK 0 f1394 (rg_T7_2_0_1 t1) (by first | decide | omega) (by first | decide | omega) (by decide)
    have q2600 : h1368 ((h 61 1) + 7) 2 = h35 ((h 61 1) + 7) 2 := jK 0 f1370 (rg_T7_2_0_1 t1) (by first | decide | omega) (by first | decide | omega) (by decide)
    have q2601 : h35 ((h 61 1) + 7) 2 = h8 ((h 61 1) + 7) 2 := jK 0 f37 (rg_T7_2_0_1 t1) (by first | decide | omega) (by first | decide | omega) (by decide)
    have e2602 : rv h1392 5 = (h8 ((h 61 1) + 7) 2) := (congrArg (fun z => svq h1392 z 5) (((q2595.trans q2596).trans q2597).trans q2598)).trans ((q2599.trans q2600).trans q2601)
    have q2603 : h8 1 2 = h 1 2 := jK 0 f10 rg_1_2_0_1 (by first | decide | omega) (by first | decide | omega) (by decide)
    obtain ⟨w2604, e2605⟩ := Tk.yes c41 (by first | decide | omega)
    have q2606 : h1368 1 2 = h35 1 2 := jK 0 f1370 rg_1_2_0_1 (by first | decide | omega) (by first | decide | omega) (by decide)
    have m2607 : Ot (h 61 1) h h8 := Ot.trans Ot.refl (c19)
    have m2608 : Ot (h 61 1) h h35 := Ot.fr m2607 f37 (by decide)
    have m2609 : Ot (h 61 1) h h1368 := Ot.fr m2608 f1370 (by decide)
    have m2610 : Ot (h 61 1) h h1392 := Ot.fr m2609 f1394 (by decide)
    refine x_retI (np := 93) (x := 0) (by decide +kernel) (by decide) (Or.inr ⟨by decide +kernel, by first | decide | omega, by first | decide | omega⟩) ⟨_, rfl, (by decide), ?_⟩
    exact ⟨j1393, f1400, (by first | decide | omega), (by first | decide | omega), (by first | decide | omega), (by first | decide | omega), (by first | decide | omega), (fun z => by first | decide | omega), (by first | decide | omega), (or9.y w2604 (show h8 1 2 = h 1 2 by first | decide | omega) e2605 rfl (nm9.f c1399 (by first | decide | omega) (by first | decide | omega) (show h1368 1 2 = h35 1 2 by first | decide | omega) (by first | decide | omega) (by first | decide | omega))), m2610⟩
  have q2549 : ¬ (2147483648 = 2147483648) := q2549
  exfalso; omega
