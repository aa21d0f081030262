/-! ===== operations, 2 ===== -/
section OPS2
variable {sc : Nat × Nat} {mi d : Nat} {out : Nat × iv_H} {p : Program} {l : Launch} {e : Env} {R : Room} {s : State} {m : MethodId} {args : Array Value} {below : List Frame} {meth : Method} {c : Code} {D : va_G} {cI cB cJ : ClassId} {b : Nat → Nat} {ws0 : va_W} {ih : iv_I} {c0 s0 pc np x : Nat} {lo st : List Nat} {L : iv_H}
theorem iv_fit1 {v : Nat} (h : iv_fit 1 v = true) : v < 18446744073709551616 := by
  have e : iv_fit 1 v = Nat.ble v 18446744073709551615 := rfl
  rw [e, iv_n7] at h
  omega
theorem iv_fit2 {v : Nat} (h : iv_fit 2 v = true) : v < 18446744073709551616 ∧ 2147483520 ≤ v % 4294967296 ∧ v / 4294967296 ≤ 2147483775 := by
  have e : iv_fit 2 v = @Bool.rec (fun _ => Bool) false (@Bool.rec (fun _ => Bool) false (Nat.ble (Nat.div v 4294967296) 2147483775) (Nat.ble 2147483520 (Nat.mod v 4294967296))) (Nat.ble v 18446744073709551615) := rfl
  rw [e] at h
  obtain ⟨h1, h⟩ := iv_bB h
  obtain ⟨h2, h⟩ := iv_bB h
  rw [iv_n7] at h1
  rw [iv_n7, iv_n2] at h2
  rw [iv_n7, iv_n1] at h
  exact ⟨by omega, h2, h⟩
theorem iv_fit3 {v : Nat} (h : iv_fit 3 v = true) : v / 18446744073709551616 = 4 := by
  have e : iv_fit 3 v = Nat.beq (Nat.div v 18446744073709551616) 4 := rfl
  rw [e, iv_n8, iv_n1] at h
  exact h
theorem iv_nar {x : Int32} (h1 : 2147483520 ≤ iv_bs x) (h2 : iv_bs x ≤ 2147483775) : vp_nar .byte x = x := by
  rw [vp_nar_byte]
  have e := iv_bs_eq x
  apply Int32.toInt_inj.mp
  rw [Int8.toInt_toInt32, Int32.toInt_toInt8, Int.bmod_def]
  split <;> omega
theorem iv_cellW {b : Nat → Nat} {al : Nat → Option Nat} {cI cB cJ : ClassId} {kd n cts k v : Nat} {f : Nat → Int32} {cA : ClassId} (hk : (kd = 1 ∧ cA = cI) ∨ (kd = 2 ∧ cA = cB)) (hf : ∀ k, k < n → iv_gt cts k < 18446744073709551616 ∧ iv_in (iv_gt cts k) (f k)) {z : Int32} (hv : v < 18446744073709551616) (hz : iv_in v z) : iv_cell b al cI cB cJ (kd, n, iv_st cts k v) (.inl (cA, n, .inl (upd f k z))) := by
  have key : ∀ j, j < n → iv_gt (iv_st cts k v) j < 18446744073709551616 ∧ iv_in (iv_gt (iv_st cts k v) j) (upd f k z j) := by
    intro j hj
    by_cases e : j = k
    · subst e
      rw [iv_gt_st (by omega), pk_us]
      exact ⟨hv, hz⟩
    · rw [iv_gt_st_ne (by omega) e, pk_un e]
      exact hf j hj
  rcases hk with ⟨rfl, rfl⟩ | ⟨rfl, rfl⟩
  · exact Or.inr (Or.inl ⟨rfl, _, rfl, key⟩)
  · exact Or.inr (Or.inr (Or.inl ⟨rfl, _, rfl, key⟩))
set_option maxRecDepth 100000 in
theorem ss_iast (X : iv_Cx sc mi d p l R s m args meth c D cI cB cJ b ws0) (hd : decode (pm_b mi) pc = .ok (.iastore, 1)) (hn : np = pc + 1) (hI : iv_IH ih d mi out p l e R s m args below meth c D cI cB cJ b ws0) (h : iv_oAst 1 ih (d, mi, c0, s0) (pg_c mi) np lo st L = some out) : iv_G mi out p l e R s m args below meth c D cI cB cJ b ws0 c0 s0 pc lo st L := by
  intro ws H locs ls sv hS hc hs
  obtain ⟨hW, hL, hK, hP, hD, hA, hX⟩ := hS
  obtain ⟨hx, hb, hml, hown, hts, hE, -⟩ := X
  subst hn
  obtain ⟨v, st2, rfl, h⟩ := iv_l1 h
  obtain ⟨i, st1, rfl, h⟩ := iv_l1 h
  obtain ⟨r, st', rfl, h⟩ := iv_l1 h
  obtain ⟨a0, h⟩ := iv_b1 h
  obtain ⟨a1, h⟩ := iv_b1 h
  obtain ⟨a2, h⟩ := iv_b1 h
  obtain ⟨a3, h⟩ := iv_b1 h
  obtain ⟨a4, h⟩ := iv_b1 h
  obtain ⟨a5, h⟩ := iv_b1 h
  obtain ⟨q, h3, h⟩ := iv_hg_some h
  obtain ⟨a6, h⟩ := iv_b1 h
  obtain ⟨a7, h⟩ := iv_b1 h
  rw [iv_f_eq] at h
  obtain ⟨L', h, w1, w2, w3⟩ := iv_hs_some h
  rw [iv_n7] at a0 a1 a2
  rw [iv_n7, iv_n2] at a3
  rw [iv_n8, iv_n1, iv_n2] at a4
  rw [iv_n8] at a6
  rw [iv_n7, iv_n6, iv_n4, iv_n2] at a7
  rw [iv_n4 r] at h3 w2 w3
  obtain ⟨Vv, sv2, rfl, r0, hK2⟩ := iv_stk_cons hK
  obtain ⟨Vi, sv1, rfl, r1, hK1⟩ := iv_stk_cons hK2
  obtain ⟨Vr, sv', rfl, r2, hQ⟩ := iv_stk_cons hK1
  obtain ⟨j, rfl, hj⟩ := iv_rel_int (by omega) r1
  obtain ⟨a, r3, rfl⟩ := iv_rel_ref a1 a2 r2
  obtain ⟨ev, r4, r5⟩ := iv_W_at hW h3 r3
  obtain ⟨hin, hcl⟩ := iv_cidx hj.1 hj.2 a3 a4 a7
  generalize hk0 : r - 18446744073709551616 = k0 at h3 w2 w3 r3 r4
  rw [iv_n4, iv_n2] at w2
  generalize hi0 : i % 4294967296 - 2147483648 = i0 at w2 hcl
  rcases r5 with ⟨t, -⟩ | ⟨t, f, hev, t2⟩ | ⟨t, f, hev, t2⟩ | ⟨t, -⟩
  · omega
  · subst hev
    have fv := iv_fit1 a5
    obtain ⟨z, rfl, hz⟩ := iv_rel_int fv r0
    refine va_iast hx hb hE.1 hP hD hA k0 0 r4 rfl hin hd (fun H1 locs1 p1 p2 p3 => ?_)
    rw [hcl] at p1 p2
    have hcell := iv_cellW (b := b) (al := iv_al ws) (cI := cI) (cB := cB) (cJ := cJ) (kd := q.1) (k := i0) (cA := cI) (Or.inl ⟨a6, rfl⟩) t2 fv hz
    exact hI _ _ _ _ _ _ h _ H1 locs1 ls _ ⟨iv_W_set hW w1 w2 w3 r4 (hcell), iv_loc_mono (fun j z hz => by rw [iv_al_set r4]; exact hz) hL, iv_stk_mono (fun j z hz => by rw [iv_al_set r4]; exact hz) hQ, p1, p2, p3, hX.trans (fun j z hz => by rw [iv_al_set r4]; exact hz)⟩ hc hs
  · omega
  · omega
set_option maxRecDepth 100000 in
theorem ss_bast (X : iv_Cx sc mi d p l R s m args meth c D cI cB cJ b ws0) (hd : decode (pm_b mi) pc = .ok (.bastore, 1)) (hn : np = pc + 1) (hI : iv_IH ih d mi out p l e R s m args below meth c D cI cB cJ b ws0) (h : iv_oAst 2 ih (d, mi, c0, s0) (pg_c mi) np lo st L = some out) : iv_G mi out p l e R s m args below meth c D cI cB cJ b ws0 c0 s0 pc lo st L := by
  intro ws H locs ls sv hS hc hs
  obtain ⟨hW, hL, hK, hP, hD, hA, hX⟩ := hS
  obtain ⟨hx, hb, hml, hown, hts, hE, -⟩ := X
  subst hn
  obtain ⟨v, st2, rfl, h⟩ := iv_l1 h
  obtain ⟨i, st1, rfl, h⟩ := iv_l1 h
  obtain ⟨r, st', rfl, h⟩ := iv_l1 h
  obtain ⟨a0, h⟩ := iv_b1 h
  obtain ⟨a1, h⟩ := iv_b1 h
  obtain ⟨a2, h⟩ := iv_b1 h
  obtain ⟨a3, h⟩ := iv_b1 h
  obtain ⟨a4, h⟩ := iv_b1 h
  obtain ⟨a5, h⟩ := iv_b1 h
  obtain ⟨q, h3, h⟩ := iv_hg_some h
  obtain ⟨a6, h⟩ := iv_b1 h
  obtain ⟨a7, h⟩ := iv_b1 h
  rw [iv_f_eq] at h
  obtain ⟨L', h, w1, w2, w3⟩ := iv_hs_some h
  rw [iv_n7] at a0 a1 a2
  rw [iv_n7, iv_n2] at a3
  rw [iv_n8, iv_n1, iv_n2] at a4
  rw [iv_n8] at a6
  rw [iv_n7, iv_n6, iv_n4, iv_n2] at a7
  rw [iv_n4 r] at h3 w2 w3
  obtain ⟨Vv, sv2, rfl, r0, hK2⟩ := iv_stk_cons hK
  obtain ⟨Vi, sv1, rfl, r1, hK1⟩ := iv_stk_cons hK2
  obtain ⟨Vr, sv', rfl, r2, hQ⟩ := iv_stk_cons hK1
  obtain ⟨j, rfl, hj⟩ := iv_rel_int (by omega) r1
  obtain ⟨a, r3, rfl⟩ := iv_rel_ref a1 a2 r2
  obtain ⟨ev, r4, r5⟩ := iv_W_at hW h3 r3
  obtain ⟨hin, hcl⟩ := iv_cidx hj.1 hj.2 a3 a4 a7
  generalize hk0 : r - 18446744073709551616 = k0 at h3 w2 w3 r3 r4
  rw [iv_n4, iv_n2] at w2
  generalize hi0 : i % 4294967296 - 2147483648 = i0 at w2 hcl
  rcases r5 with ⟨t, -⟩ | ⟨t, f, hev, t2⟩ | ⟨t, f, hev, t2⟩ | ⟨t, -⟩
  · omega
  · omega
  · subst hev
    obtain ⟨fv, fw, fu⟩ := iv_fit2 a5
    obtain ⟨z, rfl, hz⟩ := iv_rel_int fv r0
    refine va_bast hx hb hE.1 hP hD hA k0 1 r4 rfl hin hd (fun H1 locs1 p1 p2 p3 => ?_)
    rw [hcl, iv_nar (Nat.le_trans fw hz.1) (Nat.le_trans hz.2 fu)] at p1 p2
    have hcell := iv_cellW (b := b) (al := iv_al ws) (cI := cI) (cB := cB) (cJ := cJ) (kd := q.1) (k := i0) (cA := cB) (Or.inr ⟨a6, rfl⟩) t2 fv hz
    exact hI _ _ _ _ _ _ h _ H1 locs1 ls _ ⟨iv_W_set hW w1 w2 w3 r4 (hcell), iv_loc_mono (fun j z hz => by rw [iv_al_set r4]; exact hz) hL, iv_stk_mono (fun j z hz => by rw [iv_al_set r4]; exact hz) hQ, p1, p2, p3, hX.trans (fun j z hz => by rw [iv_al_set r4]; exact hz)⟩ hc hs
  · omega
set_option maxRecDepth 100000 in
theorem ss_last (X : iv_Cx sc mi d p l R s m args meth c D cI cB cJ b ws0) (hd : decode (pm_b mi) pc = .ok (.lastore, 1)) (hn : np = pc + 1) (hI : iv_IH ih d mi out p l e R s m args below meth c D cI cB cJ b ws0) (h : iv_oAst 3 ih (d, mi, c0, s0) (pg_c mi) np lo st L = some out) : iv_G mi out p l e R s m args below meth c D cI cB cJ b ws0 c0 s0 pc lo st L := by
  intro ws H locs ls sv hS hc hs
  obtain ⟨hW, hL, hK, hP, hD, hA, hX⟩ := hS
  obtain ⟨hx, hb, hml, hown, hts, hE, -⟩ := X
  subst hn
  obtain ⟨v, st2, rfl, h⟩ := iv_l1 h
  obtain ⟨i, st1, rfl, h⟩ := iv_l1 h
  obtain ⟨r, st', rfl, h⟩ := iv_l1 h
  obtain ⟨a0, h⟩ := iv_b1 h
  obtain ⟨a1, h⟩ := iv_b1 h
  obtain ⟨a2, h⟩ := iv_b1 h
  obtain ⟨a3, h⟩ := iv_b1 h
  obtain ⟨a4, h⟩ := iv_b1 h
  obtain ⟨a5, h⟩ := iv_b1 h
  obtain ⟨q, h3, h⟩ := iv_hg_some h
  obtain ⟨a6, h⟩ := iv_b1 h
  obtain ⟨a7, h⟩ := iv_b1 h
  rw [iv_f_eq] at h
  obtain ⟨L', h, w1, w2, w3⟩ := iv_hs_some h
  rw [iv_n7] at a0 a1 a2
  rw [iv_n7, iv_n2] at a3
  rw [iv_n8, iv_n1, iv_n2] at a4
  rw [iv_n8] at a6
  rw [iv_n7, iv_n6, iv_n4, iv_n2] at a7
  rw [iv_n4 r] at h3 w2 w3
  obtain ⟨Vv, sv2, rfl, r0, hK2⟩ := iv_stk_cons hK
  obtain ⟨Vi, sv1, rfl, r1, hK1⟩ := iv_stk_cons hK2
  obtain ⟨Vr, sv', rfl, r2, hQ⟩ := iv_stk_cons hK1
  obtain ⟨j, rfl, hj⟩ := iv_rel_int (by omega) r1
  obtain ⟨a, r3, rfl⟩ := iv_rel_ref a1 a2 r2
  obtain ⟨ev, r4, r5⟩ := iv_W_at hW h3 r3
  obtain ⟨hin, hcl⟩ := iv_cidx hj.1 hj.2 a3 a4 a7
  generalize hk0 : r - 18446744073709551616 = k0 at h3 w2 w3 r3 r4
  rw [iv_n4, iv_n2] at w2
  generalize hi0 : i % 4294967296 - 2147483648 = i0 at w2 hcl
  rcases r5 with ⟨t, -⟩ | ⟨t, -⟩ | ⟨t, -⟩ | ⟨t, f, hev, t2⟩
  · omega
  · omega
  · omega
  · subst hev
    have fv := iv_fit3 a5
    obtain ⟨z, rfl, hz⟩ := iv_rel_lng fv r0
    refine va_last hx hb hE.1 hP hD hA k0 2 r4 rfl hin hd (fun H1 locs1 p1 p2 p3 => ?_)
    rw [hcl] at p1 p2
    have hcell : iv_cell b (iv_al ws) cI cB cJ (q.1, q.2.1, iv_st q.2.2 i0 v) (.inl (cJ, q.2.1, .inr (.inl (vp_updL f i0 z.toInt64)))) := by
      refine Or.inr (Or.inr (Or.inr ⟨a6, _, rfl, fun y hy => ?_⟩))
      by_cases e : y = i0
      · subst e
        show iv_rel b (iv_al ws) (iv_gt (iv_st q.2.2 y v) y) (.long (vp_updL f y z.toInt64 y))
        rw [iv_gt_st (by omega), pk_uLs]
        exact r0
      · show iv_rel b (iv_al ws) (iv_gt (iv_st q.2.2 i0 v) y) (.long (vp_updL f i0 z.toInt64 y))
        rw [iv_gt_st_ne (by omega) e, pk_uLn e]
        exact t2 y hy
    exact hI _ _ _ _ _ _ h _ H1 locs1 ls _ ⟨iv_W_set hW w1 w2 w3 r4 (hcell), iv_loc_mono (fun j z hz => by rw [iv_al_set r4]; exact hz) hL, iv_stk_mono (fun j z hz => by rw [iv_al_set r4]; exact hz) hQ, p1, p2, p3, hX.trans (fun j z hz => by rw [iv_al_set r4]; exact hz)⟩ hc hs
set_option maxRecDepth 100000 in
theorem ss_lald (X : iv_Cx sc mi d p l R s m args meth c D cI cB cJ b ws0) (hd : decode (pm_b mi) pc = .ok (.laload, 1)) (hn : np = pc + 1) (hI : iv_IH ih d mi out p l e R s m args below meth c D cI cB cJ b ws0) (h : iv_oLald ih (d, mi, c0, s0) (pg_c mi) np lo st L = some out) : iv_G mi out p l e R s m args below meth c D cI cB cJ b ws0 c0 s0 pc lo st L := by
  intro ws H locs ls sv hS hc hs
  obtain ⟨hW, hL, hK, hP, hD, hA, hX⟩ := hS
  obtain ⟨hx, hb, hml, hown, hts, hE, -⟩ := X
  subst hn
  obtain ⟨i, st1, rfl, h⟩ := iv_l1 h
  obtain ⟨r, st', rfl, h⟩ := iv_l1 h
  obtain ⟨a0, h⟩ := iv_b1 h
  obtain ⟨a1, h⟩ := iv_b1 h
  obtain ⟨a2, h⟩ := iv_b1 h
  obtain ⟨a3, h⟩ := iv_b1 h
  obtain ⟨a4, h⟩ := iv_b1 h
  obtain ⟨q, h3, h⟩ := iv_hg_some h
  obtain ⟨a6, h⟩ := iv_b1 h
  obtain ⟨a7, h⟩ := iv_b1 h
  rw [iv_f_eq, iv_n4, iv_n2] at h
  rw [iv_n7] at a0 a1 a2
  rw [iv_n7, iv_n2] at a3
  rw [iv_n8, iv_n1, iv_n2] at a4
  rw [iv_n8] at a6
  rw [iv_n7, iv_n6, iv_n4, iv_n2] at a7
  rw [iv_n4] at h3
  obtain ⟨Vi, sv1, rfl, r1, hK1⟩ := iv_stk_cons hK
  obtain ⟨Vr, sv', rfl, r2, hQ⟩ := iv_stk_cons hK1
  obtain ⟨j, rfl, hj⟩ := iv_rel_int (by omega) r1
  obtain ⟨a, r3, rfl⟩ := iv_rel_ref a1 a2 r2
  obtain ⟨ev, r4, r5⟩ := iv_W_at hW h3 r3
  obtain ⟨hin, hcl⟩ := iv_cidx hj.1 hj.2 a3 a4 a7
  rcases r5 with ⟨t, -⟩ | ⟨t, -⟩ | ⟨t, -⟩ | ⟨t, f, hev, t2⟩
  · omega
  · omega
  · omega
  · subst hev
    refine va_lald hx hb hE.1 hP (r - 18446744073709551616) 2 r4 rfl hin hd ?_
    have t3 := t2 _ (show i % 4294967296 - 2147483648 < q.2.1 from a7)
    rw [hcl]
    exact hI _ _ _ _ _ _ h ws H locs ls _ ⟨hW, hL, ⟨t3, hQ⟩, hP, hD, hA, hX⟩ hc hs
theorem iv_loc_set2 {al : Nat → Option Nat} {lo : List Nat} {nL i v : Nat} {V : Value} {lv : List (Nat × Value)} (h0 : lo.length = nL) (h2 : ∀ q ∈ lv, q.2.category = 1) (h3 : ∀ i v, lo[i]? = some v → v < 147573952589676412928 → ∃ V, (i, V) ∈ lv ∧ iv_rel b al v V) (hc : V.category = 1) (hr : iv_rel b al v V) (ls' : Array Slot)
    (hl : lv_has ls' nL ((i, V) :: lv.filter (fun q => !(q.1 == i) && !(q.1 + 1 == i && q.2.category == 2)))) : iv_loc b al (lo.set i v) ls' nL := by
  refine ⟨by rw [List.length_set]; exact h0, _, hl, fun q hq => ?_, fun j w hj hw => ?_⟩
  · rcases List.mem_cons.mp hq with rfl | hq
    · exact hc
    · exact h2 q (List.mem_filter.mp hq).1
  · by_cases hji : j = i
    · subst hji
      have hl2 : j < lo.length := by
        have := (List.getElem?_eq_some_iff.mp hj).1
        rw [List.length_set] at this
        exact this
      rw [List.getElem?_set_self hl2] at hj
      cases hj
      exact ⟨V, List.mem_cons_self, hr⟩
    · rw [List.getElem?_set_ne (fun z => hji z.symm)] at hj
      obtain ⟨W, g1, g2⟩ := h3 j w hj hw
      refine ⟨W, List.mem_cons_of_mem _ (List.mem_filter.mpr ⟨g1, ?_⟩), g2⟩
      have := h2 _ g1
      simp [hji, this]
set_option maxRecDepth 100000 in
theorem ss_iinc {w : Int32} (hw : x / 256 = iv_c (iv_bs w)) (hr : ∀ (H : Heap) (locs : List Loc) (ls : Array Slot) (rest : List Value) (Q : State → Prop) (lv : List (Nat × Value)) (k : Nat) (v : Int32), lv_has ls (pg_i mi).1 lv → lv[k]? = some (x % 256, .int v) → x % 256 < (pg_i mi).1 → (∀ ls', lv_has ls' (pg_i mi).1 ((x % 256, .int (v + w)) :: lv.filter (fun q => !(q.1 == x % 256) && !(q.1 + 1 == x % 256 && q.2.category == 2))) → W p l e R s m args below meth c H locs c0 s0 Q (F0 m np ls' rest)) → W p l e R s m args below meth c H locs c0 s0 Q (F0 m pc ls rest)) (hI : iv_IH ih d mi out p l e R s m args below meth c D cI cB cJ b ws0) (h : iv_oIinc ih (d, mi, c0, s0) (pg_c mi) x np lo st L = some out) : iv_G mi out p l e R s m args below meth c D cI cB cJ b ws0 c0 s0 pc lo st L := by
  intro ws H locs ls sv hS hc hs
  obtain ⟨hW, hL, hK, hP, hD, hA, hX⟩ := hS
  obtain ⟨v, h1, h⟩ := iv_nth_some _ _ _ _ h
  obtain ⟨h2, h⟩ := iv_b1 h
  obtain ⟨h3, h⟩ := iv_b1 h
  rw [iv_f_eq] at h
  obtain ⟨h4, h⟩ := iv_set_some _ _ _ _ _ h
  rw [iv_n7] at h2
  rw [iv_n7, iv_n1] at h3
  rw [iv_n2] at h1 h4
  rw [iv_n2, iv_n1] at h
  obtain ⟨l0, lv, l1, l2, l3⟩ := hL
  obtain ⟨V, g1, g2⟩ := l3 _ _ h1 (by omega)
  obtain ⟨z, rfl, g3⟩ := iv_rel_int (by omega) g2
  obtain ⟨k, hk⟩ := List.getElem?_of_mem g1
  have g4 : iv_in (x / 256) w := by rw [hw]; exact iv_in_c rfl
  obtain ⟨k1, k2⟩ := iv_add_ok (by omega) (by omega) g3 g4
  refine hr _ _ _ _ _ lv k z l1 hk (by rw [← l0]; exact h4) (fun ls' hl => ?_)
  exact hI _ _ _ _ _ _ h ws H locs ls' _ ⟨hW, iv_loc_set2 l0 l2 l3 rfl (iv_rel_i k2 k1) ls' hl, hK, hP, hD, hA, hX⟩ hc hs
set_option maxRecDepth 100000 in
theorem ss_istore (hr : ∀ (H : Heap) (locs : List Loc) (ls : Array Slot) (rest : List Value) (Q : State → Prop) (lv : List (Nat × Value)) (v : Int32), lv_has ls (pg_i mi).1 lv → x < (pg_i mi).1 → (∀ ls', lv_has ls' (pg_i mi).1 ((x, .int v) :: lv.filter (fun q => !(q.1 == x) && !(q.1 + 1 == x && q.2.category == 2))) → W p l e R s m args below meth c H locs c0 s0 Q (F0 m np ls' rest)) → W p l e R s m args below meth c H locs c0 s0 Q (F0 m pc ls (.int v :: rest))) (hI : iv_IH ih d mi out p l e R s m args below meth c D cI cB cJ b ws0) (h : iv_oIstore ih (d, mi, c0, s0) (pg_c mi) x np lo st L = some out) : iv_G mi out p l e R s m args below meth c D cI cB cJ b ws0 c0 s0 pc lo st L := by
  intro ws H locs ls sv hS hc hs
  obtain ⟨hW, hL, hK, hP, hD, hA, hX⟩ := hS
  obtain ⟨v, st', rfl, h⟩ := iv_l1 h
  obtain ⟨h2, h⟩ := iv_b1 h
  rw [iv_f_eq] at h
  obtain ⟨h4, h⟩ := iv_set_some _ _ _ _ _ h
  rw [iv_n7] at h2
  obtain ⟨V, sv', rfl, r1, hQ⟩ := iv_stk_cons hK
  obtain ⟨z, rfl, g3⟩ := iv_rel_int (by omega) r1
  obtain ⟨l0, lv, l1, l2, l3⟩ := hL
  refine hr _ _ _ _ _ lv z l1 (by rw [← l0]; exact h4) (fun ls' hl => ?_)
  exact hI _ _ _ _ _ _ h ws H locs ls' _ ⟨hW, iv_loc_set2 l0 l2 l3 rfl r1 ls' hl, hQ, hP, hD, hA, hX⟩ hc hs
set_option maxRecDepth 100000 in
theorem ss_astore (hr : ∀ (H : Heap) (locs : List Loc) (ls : Array Slot) (rest : List Value) (Q : State → Prop) (lv : List (Nat × Value)) (a : Nat), lv_has ls (pg_i mi).1 lv → x < (pg_i mi).1 → (∀ ls', lv_has ls' (pg_i mi).1 ((x, .ref a) :: lv.filter (fun q => !(q.1 == x) && !(q.1 + 1 == x && q.2.category == 2))) → W p l e R s m args below meth c H locs c0 s0 Q (F0 m np ls' rest)) → W p l e R s m args below meth c H locs c0 s0 Q (F0 m pc ls (.ref a :: rest))) (hI : iv_IH ih d mi out p l e R s m args below meth c D cI cB cJ b ws0) (h : iv_oAstore ih (d, mi, c0, s0) (pg_c mi) x np lo st L = some out) : iv_G mi out p l e R s m args below meth c D cI cB cJ b ws0 c0 s0 pc lo st L := by
  intro ws H locs ls sv hS hc hs
  obtain ⟨hW, hL, hK, hP, hD, hA, hX⟩ := hS
  obtain ⟨v, st', rfl, h⟩ := iv_l1 h
  obtain ⟨h2, h⟩ := iv_b1 h
  rw [iv_n7] at h2
  rcases iv_b2 h with ⟨h3, h⟩ | ⟨-, h⟩
  · rw [iv_f_eq] at h
    rw [iv_n7] at h3
    obtain ⟨h4, h⟩ := iv_set_some _ _ _ _ _ h
    obtain ⟨V, sv', rfl, r1, hQ⟩ := iv_stk_cons hK
    obtain ⟨a, -, rfl⟩ := iv_rel_ref h2 h3 r1
    obtain ⟨l0, lv, l1, l2, l3⟩ := hL
    refine hr _ _ _ _ _ lv a l1 (by rw [← l0]; exact h4) (fun ls' hl => ?_)
    exact hI _ _ _ _ _ _ h ws H locs ls' _ ⟨hW, iv_loc_set2 l0 l2 l3 rfl r1 ls' hl, hQ, hP, hD, hA, hX⟩ hc hs
  · obtain ⟨h3, h⟩ := iv_b1 h
    rw [iv_f_eq] at h
    rw [iv_n8] at h3
    subst h3
    obtain ⟨h4, h⟩ := iv_set_some _ _ _ _ _ h
    obtain ⟨V, sv', rfl, r1, hQ⟩ := iv_stk_cons hK
    obtain ⟨a, rfl⟩ := iv_rel_xr r1
    obtain ⟨l0, lv, l1, l2, l3⟩ := hL
    refine hr _ _ _ _ _ lv a l1 (by rw [← l0]; exact h4) (fun ls' hl => ?_)
    exact hI _ _ _ _ _ _ h ws H locs ls' _ ⟨hW, iv_loc_set2 l0 l2 l3 rfl r1 ls' hl, hQ, hP, hD, hA, hX⟩ hc hs

end OPS2
