/-! ===== operations, 4 ===== -/
section OPS4
variable {sc : Nat × Nat} {mi d : Nat} {out : Nat × iv_H} {p : Program} {l : Launch} {e : Env} {R : Room} {s : State} {m : MethodId} {args : Array Value} {below : List Frame} {meth : Method} {c : Code} {D : va_G} {cI cB cJ : ClassId} {b : Nat → Nat} {ws0 : va_W} {ih : iv_I} {c0 s0 pc np x : Nat} {lo st : List Nat} {L : iv_H}
def iv_FPK (mi idx x : Nat) : Prop := ∀ ci, iv_sub2 ci (x / 64 % 64) = true → ∃ (C : String) (T : u_T) (N : Nat) (ref : String) (ty0 : Nat → FieldType) (tv : FieldType), vwCl[ci]? = some (C, T, N) ∧ x % 64 < N ∧ (∀ w ∈ u_ws C T N, w ∈ iv_T) ∧ (∀ k, k < N → parseFieldDescriptor (T k).2.2.1 = some (ty0 k)) ∧ (∀ a, a < N → ∀ b, b < N → a ≠ b → (T a).2.1 ≠ (T b).2.1) ∧
  Cond.fieldLink (pm_y mi).cls idx ref (T (x % 64)).2.1 (T (x % 64)).2.2.1 ∈ iv_T ∧ ((T (x % 64)).1 = ref ∨ Cond.sameField ref (T (x % 64)).1 (T (x % 64)).2.1 (T (x % 64)).2.2.1 ∈ iv_T) ∧ parseFieldDescriptor (T (x % 64)).2.2.1 = some tv ∧
  ((x / 4096 % 4 = 0 ∧ tv = .int) ∨ (x / 4096 % 4 = 1 ∧ tv = .boolean) ∨ (x / 4096 % 4 = 2 ∧ ((∃ n, tv = .object n) ∨ ∃ t, tv = .array t))) ∧
  ((T (x % 64)).2.2.2 = false ∨ ((T (x % 64)).2.2.2 = true ∧ (pm_y mi).name = "<init>" ∧ (T (x % 64)).1 = (pm_y mi).cls))
theorem iv_pfit_ok {ty v : Nat} {V : Value} {tv : FieldType} {al : Nat → Option Nat} (h : iv_pfit ty v = true) (hr : iv_rel b al v V) (ht : (ty = 0 ∧ tv = .int) ∨ (ty = 1 ∧ tv = .boolean) ∨ (ty = 2 ∧ ((∃ n, tv = .object n) ∨ ∃ t, tv = .array t))) : narrow tv V = V ∧ fits tv V = true ∧ v < 4722366482869645213696 := by
  rcases ht with ⟨rfl, rfl⟩ | ⟨rfl, rfl⟩ | ⟨rfl, ht⟩
  · have e : iv_pfit 0 v = Nat.ble v 18446744073709551615 := rfl
    rw [e, iv_n7] at h
    obtain ⟨z, rfl, -⟩ := iv_rel_int (by omega) hr
    exact ⟨rfl, rfl, by omega⟩
  · have e : iv_pfit 1 v = @Bool.rec (fun _ => Bool) false (@Bool.rec (fun _ => Bool) false (@Bool.rec (fun _ => Bool) false true (Nat.ble (Nat.div v 4294967296) 2147483649)) (Nat.ble 2147483648 (Nat.mod v 4294967296))) (Nat.ble v 18446744073709551615) := rfl
    rw [e] at h
    obtain ⟨h1, h⟩ := iv_bB h
    obtain ⟨h2, h⟩ := iv_bB h
    obtain ⟨h3, h⟩ := iv_bB h
    rw [iv_n7] at h1
    rw [iv_n7, iv_n2] at h2
    rw [iv_n7, iv_n1] at h3
    obtain ⟨z, rfl, g⟩ := iv_rel_int (by omega) hr
    rcases (show iv_bs z = 2147483648 ∨ iv_bs z = 2147483649 by have := g.1; have := g.2; omega) with e | e
    · rw [iv_of_const e]
      exact ⟨by decide, by decide, by omega⟩
    · rw [iv_of_const e]
      exact ⟨by decide, by decide, by omega⟩
  · have e : iv_pfit 2 v = @Bool.rec (fun _ => Bool) false (@Bool.rec (fun _ => Bool) false true (Nat.ble v 18446744078004518912)) (Nat.ble 18446744073709551616 v) := rfl
    rw [e] at h
    obtain ⟨h1, h⟩ := iv_bB h
    obtain ⟨h2, h⟩ := iv_bB h
    rw [iv_n7] at h1 h2
    obtain ⟨a, -, rfl⟩ := iv_rel_ref h1 h2 hr
    rcases ht with ⟨n, rfl⟩ | ⟨t, rfl⟩
    · exact ⟨rfl, rfl, by omega⟩
    · exact ⟨rfl, rfl, by omega⟩
set_option maxRecDepth 100000 in
theorem ss_putf (hd : ∃ idx, decode (pm_b mi) pc = .ok (.putfield idx, 3) ∧ np = pc + 3 ∧ iv_FPK mi idx x) (X : iv_Cx sc mi d p l R s m args meth c D cI cB cJ b ws0) (hI : iv_IH ih d mi out p l e R s m args below meth c D cI cB cJ b ws0) (h : iv_oPutf ih (d, mi, c0, s0) (pg_c mi) x np lo st L = some out) : iv_G mi out p l e R s m args below meth c D cI cB cJ b ws0 c0 s0 pc lo st L := by
  intro ws H locs ls sv hS hc hs
  obtain ⟨hW, hL, hK, hP, hD, hA, hX⟩ := hS
  obtain ⟨hx, hb, hml, hown, hts, hE, hR, hl, hlk, hnm, hrt, htb⟩ := X
  obtain ⟨v, st1, rfl, h⟩ := iv_l1 h
  obtain ⟨r, st', rfl, h⟩ := iv_l1 h
  obtain ⟨a1, h⟩ := iv_b1 h
  obtain ⟨a2, h⟩ := iv_b1 h
  obtain ⟨a3, h⟩ := iv_b1 h
  obtain ⟨q, h3, h⟩ := iv_hg_some h
  obtain ⟨a4, h⟩ := iv_b1 h
  obtain ⟨a5, h⟩ := iv_b1 h
  obtain ⟨a6, h⟩ := iv_b1 h
  rw [iv_f_eq] at h
  obtain ⟨L', h, w1, w2, w3⟩ := iv_hs_some h
  rw [iv_n7] at a1 a2
  simp only [iv_n1, iv_n2] at a3
  rw [iv_n8, iv_n2] at a4
  simp only [iv_n1, iv_n2] at a5
  rw [iv_n7, iv_n6, iv_n2] at a6
  rw [iv_n2] at w2
  rw [iv_n4 r] at h3 w2 w3
  obtain ⟨Vv, sv1, rfl, r0, hK1⟩ := iv_stk_cons hK
  obtain ⟨Vr, sv', rfl, r2, hQ⟩ := iv_stk_cons hK1
  obtain ⟨a, r3, rfl⟩ := iv_rel_ref a1 a2 r2
  obtain ⟨ev, r4, r5⟩ := iv_W_at hW h3 r3
  generalize hk0 : r - 18446744073709551616 = k0 at h3 w2 w3 r3 r4
  obtain ⟨idx, d1, rfl, d3⟩ := hd
  obtain ⟨C, T, N, ref, ty0, tv, f1, f2, f3, f4, f5, f6, f7, f8, f9, f10⟩ := d3 _ a5
  obtain ⟨n1, n2, n3⟩ := iv_pfit_ok a3 r0 f9
  rcases r5 with ⟨-, fs, hev, t1, t2⟩ | ⟨t, -⟩ | ⟨t, -⟩ | ⟨t, -⟩
  · subst hev
    have hcell : iv_cell b (iv_al ws) cI cB cJ (q.1, q.2.1, iv_st q.2.2 (x % 64) v) (.inr (q.1 / 4, fs.set (x % 64) Vv)) := by
      refine Or.inl ⟨a4, _, rfl, by rw [List.length_set]; exact t1, fun y hy => ?_⟩
      by_cases ey : y = x % 64
      · subst ey
        refine ⟨Vv, List.getElem?_set_self (by rw [t1]; exact hy), ?_⟩
        show iv_rel b (iv_al ws) (iv_gt (iv_st q.2.2 (x % 64) v) (x % 64)) Vv
        rw [iv_gt_st n3]
        exact r0
      · obtain ⟨V, u1, u2⟩ := t2 y hy
        refine ⟨V, by rw [List.getElem?_set_ne (fun z => ey z.symm)]; exact u1, ?_⟩
        show iv_rel b (iv_al ws) (iv_gt (iv_st q.2.2 (x % 64) v) y) V
        rw [iv_gt_st_ne n3 ey]
        exact u2
    rcases f10 with g1 | ⟨g1, g2, g3⟩
    · refine va_put hx hb hts f3 ty0 f4 f5 hown hE.1 hP hD hA k0 r4 f1 (x % 64) f2 (hts _ f6) (iv_same hts f7) g1 f8 n1 n2 (by rw [t1]; exact a6) d1 (fun H1 locs1 p1 p2 p3 => ?_)
      exact hI _ _ _ _ _ _ h _ H1 locs1 ls _ ⟨iv_W_set hW w1 w2 w3 r4 (hcell), iv_loc_mono (fun j z hz => by rw [iv_al_set r4]; exact hz) hL, iv_stk_mono (fun j z hz => by rw [iv_al_set r4]; exact hz) hQ, p1, p2, p3, hX.trans (fun j z hz => by rw [iv_al_set r4]; exact hz)⟩ hc hs
    · refine va_putF hx hb hts f3 ty0 f4 f5 hown hE.1 hP hD hA k0 r4 f1 (x % 64) f2 (hts _ f6) (iv_same hts f7) g1 (by rw [hnm]; exact g2) g3 f8 n1 n2 (by rw [t1]; exact a6) d1 (fun H1 locs1 p1 p2 p3 => ?_)
      exact hI _ _ _ _ _ _ h _ H1 locs1 ls _ ⟨iv_W_set hW w1 w2 w3 r4 (hcell), iv_loc_mono (fun j z hz => by rw [iv_al_set r4]; exact hz) hL, iv_stk_mono (fun j z hz => by rw [iv_al_set r4]; exact hz) hQ, p1, p2, p3, hX.trans (fun j z hz => by rw [iv_al_set r4]; exact hz)⟩ hc hs
  · omega
  · omega
  · omega
def iv_NOK (mi idx ci : Nat) : Prop := ∃ (C : String) (T : u_T) (N : Nat) (ty : Nat → FieldType), vwCl[ci]? = some (C, T, N) ∧ (∀ w ∈ u_ws C T N, w ∈ iv_T) ∧ (∀ k, k < N → parseFieldDescriptor (T k).2.2.1 = some (ty k)) ∧ Cond.classLink (pm_y mi).cls idx C ∈ iv_T ∧ Cond.instantiable C N ∈ iv_T ∧ Cond.initialized C ∈ iv_T ∧ (pg_k ci).1 = N ∧
  ∀ k, k < N → (iv_gt (pg_k ci).2 k = 9223372039002259456 ∧ (ty k = .int ∨ ty k = .boolean)) ∨ (iv_gt (pg_k ci).2 k = 36893488147419103232 ∧ ((∃ n, ty k = .object n) ∨ ∃ t, ty k = .array t))
theorem iv_f_ex {v : Nat} {k : Nat → iv_R} {o : Nat × iv_H} (h : iv_f v k = some o) : ∃ w, w = v ∧ k w = some o := ⟨v, rfl, by rw [iv_f_eq] at h; exact h⟩
theorem iv_in_zero : iv_in 9223372039002259456 0 := by unfold iv_in; decide
theorem iv_hk2 {n : Nat} {G : List (List iv_C)} {k : Nat} {L : iv_H} (h : L.2 = G) : iv_hk (n, G) k = iv_hk L k := by
  unfold iv_hk
  rw [h]
set_option maxRecDepth 100000 in
theorem ss_new (hd : ∃ idx, decode (pm_b mi) pc = .ok (.new idx, 3) ∧ np = pc + 3 ∧ iv_NOK mi idx x) (X : iv_Cx sc mi d p l R s m args meth c D cI cB cJ b ws0) (hI : iv_IH ih d mi out p l e R s m args below meth c D cI cB cJ b ws0) (h : iv_oNew ih (d, mi, c0, s0) (pg_c mi) x np lo st L = some out) : iv_G mi out p l e R s m args below meth c D cI cB cJ b ws0 c0 s0 pc lo st L := by
  intro ws H locs ls sv hS hc hs
  obtain ⟨hW, hL, hK, hP, hD, hA, hX⟩ := hS
  obtain ⟨hx, hb, hml, hown, hts, hE, hR, hl, hlk, hnm, hrt, htb⟩ := X
  obtain ⟨a1, h⟩ := iv_b1 h
  obtain ⟨a2, h⟩ := iv_b1 h
  obtain ⟨a3, h⟩ := iv_b1 h
  obtain ⟨L1, h, w1, w2, w3⟩ := iv_hs_some h
  rw [iv_f_eq, iv_f_eq, iv_f_eq, iv_f_eq] at h
  rw [iv_n7, iv_n6] at a1
  rw [iv_n7, iv_n3] at a2
  rw [iv_n7] at a3
  simp only [iv_n3, iv_n6] at h
  obtain ⟨idx, d1, rfl, C, T, N, ty, f1, f2, f3, f4, f5, f6, f7, f8⟩ := hd
  have a1 : c0 + 1 ≤ (pg_i mi).2.2.1 := a1
  have a2 : s0 + (pg_k x).1 ≤ (pg_i mi).2.2.2 := a2
  have hfs : ∀ j, j < N → defaultValue (ty j) = vp_V ((List.range N).map (fun j => defaultValue (ty j))) j := fun j hj => by
    unfold vp_V
    rw [List.getD_eq_getElem?_getD, List.getElem?_map, List.getElem?_range hj]
    rfl
  refine va_new (ci := x) (fs := (List.range N).map (fun j => defaultValue (ty j))) hx hb hts f2 ty f3 hown (hts _ f4) (hts _ f5) (hts _ f6) hE.1 hP hD hA (fun q hq => Or.inr hq) f1 hfs (by omega) (by omega) d1 (fun q H1 p1 p2 p3 => ?_)
  have hcell : iv_cell b (iv_al (ws ++ [(q, .inr (x, (List.range N).map (fun j => defaultValue (ty j))))])) cI cB cJ (Nat.mul 4 x, pg_k x) (.inr (x, (List.range N).map (fun j => defaultValue (ty j)))) := by
    refine Or.inl ⟨?_, (List.range N).map (fun j => defaultValue (ty j)), ?_, ?_, fun k hk => ?_⟩
    · show (4 * x) % 4 = 0
      omega
    · show Sum.inr _ = Sum.inr (4 * x / 4, _)
      rw [Nat.mul_div_cancel_left x (by decide)]
    · show _ = (pg_k x).1
      rw [List.length_map, List.length_range, f7]
    · have hk : k < (pg_k x).1 := hk
      rw [f7] at hk
      refine ⟨defaultValue (ty k), by rw [List.getElem?_map, List.getElem?_range hk]; rfl, ?_⟩
      show iv_rel b _ (iv_gt (pg_k x).2 k) _
      rcases f8 k hk with ⟨g1, g2 | g2⟩ | ⟨g1, ⟨n, g2⟩ | ⟨t, g2⟩⟩
      · rw [g1, g2]
        exact iv_rel_i (x := 0) (by decide) iv_in_zero
      · rw [g1, g2]
        exact iv_rel_i (x := 0) (by decide) iv_in_zero
      · rw [g1, g2]
        exact Or.inr (Or.inr (Or.inl ⟨rfl, rfl⟩))
      · rw [g1, g2]
        exact Or.inr (Or.inr (Or.inl ⟨rfl, rfl⟩))
  have hv : iv_rel b (iv_al (ws ++ [(q, .inr (x, (List.range N).map (fun j => defaultValue (ty j))))])) (18446744073709551616 + L1.1) (.ref q) := iv_rel_r rfl (by rw [w1]; omega) (by rw [w1, ← hW.1]; exact iv_al_new ws _)
  rw [f7] at h
  rw [f7] at a2
  exact hI _ _ _ _ _ _ h _ H1 locs ls _ ⟨iv_W_new hW (by omega) (by show L1.1 + 1 = _; rw [w1]) (by rw [iv_hk2 rfl]; exact w2) (fun j hj => by rw [iv_hk2 rfl]; exact w3 j hj) hcell, iv_loc_mono (fun j z hz => iv_al_app hz) hL, ⟨hv, iv_stk_mono (fun j z hz => iv_al_app hz) hK⟩, p1, p2, p3, hX.trans (fun j z hz => iv_al_app hz)⟩ (by omega) (by omega)
/-- an array class is one -/
theorem iv_one {tys : List (ClassId × FieldType)} {D : va_G} {cA cX : ClassId} {ty : FieldType} {k j : Nat} {U : State} (h : va_K D vwCl tys U) (h1 : tys[k]? = some (cA, ty)) (h2 : tys[j]? = some (cX, ty)) (hp : ∀ C, ty ≠ .object C) : cA = cX := by
  have g1 := (h.2 k _ h1).2
  have g2 := (h.2 j _ h2).2
  have e1 : U.vm.findClass ("[" ++ ty.toString) = some cA := by
    cases ty <;> first | exact g1 | exact absurd rfl (hp _)
  have e2 : U.vm.findClass ("[" ++ ty.toString) = some cX := by
    cases ty <;> first | exact g2 | exact absurd rfl (hp _)
  exact Option.some.inj (e1.symm.trans e2)
set_option maxRecDepth 100000 in
theorem ss_newa_int (hxe : x = 1) (hw : Cond.arrayClass .int ∈ iv_T) (hd : decode (pm_b mi) pc = .ok (.newarray .int, 2)) (hn : np = pc + 2) (X : iv_Cx sc mi d p l R s m args meth c D cI cB cJ b ws0) (hI : iv_IH ih d mi out p l e R s m args below meth c D cI cB cJ b ws0) (h : iv_oNewa ih (d, mi, c0, s0) (pg_c mi) x np lo st L = some out) : iv_G mi out p l e R s m args below meth c D cI cB cJ b ws0 c0 s0 pc lo st L := by
  intro ws H locs ls sv hS hc hs
  obtain ⟨hW, hL, hK, hP, hD, hA, hX⟩ := hS
  obtain ⟨hx, hb, hml, hown, hts, hE, hR, hl, hlk, hnm, hrt, htb⟩ := X
  subst hn
  obtain ⟨n, st', rfl, h⟩ := iv_l1 h
  obtain ⟨a1, h⟩ := iv_b1 h
  obtain ⟨a2, h⟩ := iv_b1 h
  obtain ⟨a3, h⟩ := iv_b1 h
  obtain ⟨a4, h⟩ := iv_b1 h
  obtain ⟨a7, h⟩ := iv_b1 h
  obtain ⟨a8, h⟩ := iv_b1 h
  obtain ⟨len, hlen, h⟩ := iv_f_ex h
  rw [iv_n4, iv_n2] at hlen
  rw [iv_n7] at a1
  rw [iv_n8, iv_n1, iv_n2] at a2
  rw [iv_n7, iv_n2] at a3 a4
  obtain ⟨a5, h⟩ := iv_b1 h
  obtain ⟨a6, h⟩ := iv_b1 h
  obtain ⟨a9, h⟩ := iv_b1 h
  rw [iv_f_eq] at h
  obtain ⟨L1, h, w1, w2, w3⟩ := iv_hs_some h
  rw [iv_f_eq, iv_f_eq, iv_f_eq, iv_f_eq] at h
  rw [iv_n7] at a9
  rw [iv_n7, iv_n6] at a5
  rw [iv_n7, iv_n3] at a6
  have a5 : c0 + 1 ≤ (pg_i mi).2.2.1 := a5
  have a6 : s0 + len ≤ (pg_i mi).2.2.2 := a6
  have hl4 : len ≤ 10000 := by omega
  obtain ⟨Vn, sv', rfl, r1, hQ⟩ := iv_stk_cons hK
  obtain ⟨z, rfl, hz⟩ := iv_rel_int (by omega) r1
  obtain ⟨hin, hcl⟩ := iv_cidx (n := len + 1) hz.1 hz.2 a3 a2 (by omega)
  rw [← hlen] at hcl
  have hz0 : ¬ z < 0 := by
    rw [iv_lt_iff]
    have e0 : iv_bs 0 = 2147483648 := by decide
    have := hz.1
    omega
  have ef : (@Bool.rec (fun _ => Nat) 9223372039002259456 83010348333840465920 (Nat.beq x 3)) = 9223372039002259456 := by rw [hxe]; rfl
  rw [ef, hxe] at w2
  simp only [iv_n3, iv_n6] at h
  refine va_newa (atype := .int) (ty := .int) (N' := len) (a0 := (len, .inl (fun _ => 0))) hx hb (hts _ hw) rfl hE.1 hP hD hA (fun q hq => Or.inr hq) (fun cA => rfl) hz0 hcl (by show len * 4 ≤ _; omega) (by omega) (by omega) hd (fun q cA H1 k1 p1 p2 p3 => ?_)
  have hcc : cI = cA := (iv_one k1 (k := 3) (j := 0) rfl rfl (fun C hC => by cases hC)).symm
  subst hcc
  have key : ∀ k, k < len → iv_gt (iv_fill 9223372039002259456 len) k < 18446744073709551616 ∧ iv_in (iv_gt (iv_fill 9223372039002259456 len) k) 0 := fun k hk => by
    rw [iv_fill_gt (by decide) len k hk]
    exact ⟨by decide, iv_in_zero⟩
  have hcell : iv_cell b (iv_al (ws ++ [(q, .inl (cI, (len, .inl (fun _ => 0))))])) cI cB cJ (1, len, iv_fill 9223372039002259456 len) (.inl (cI, (len, .inl (fun _ => 0)))) := Or.inr (Or.inl ⟨rfl, fun _ => 0, rfl, key⟩)
  have hv : iv_rel b (iv_al (ws ++ [(q, .inl (cI, (len, .inl (fun _ => 0))))])) (18446744073709551616 + L1.1) (.ref q) := iv_rel_r rfl (by rw [w1]; omega) (by rw [w1, ← hW.1]; exact iv_al_new ws _)
  exact hI _ _ _ _ _ _ h _ H1 locs ls _ ⟨iv_W_new hW (by omega) (by show L1.1 + 1 = _; rw [w1]) (by rw [iv_hk2 rfl]; exact w2) (fun j hj => by rw [iv_hk2 rfl]; exact w3 j hj) hcell, iv_loc_mono (fun j z hz => iv_al_app hz) hL, ⟨hv, iv_stk_mono (fun j z hz => iv_al_app hz) hQ⟩, p1, p2, p3, hX.trans (fun j z hz => iv_al_app hz)⟩ (by omega) (by omega)
set_option maxRecDepth 100000 in
theorem ss_newa_byte (hxe : x = 2) (hw : Cond.arrayClass .byte ∈ iv_T) (hd : decode (pm_b mi) pc = .ok (.newarray .byte, 2)) (hn : np = pc + 2) (X : iv_Cx sc mi d p l R s m args meth c D cI cB cJ b ws0) (hI : iv_IH ih d mi out p l e R s m args below meth c D cI cB cJ b ws0) (h : iv_oNewa ih (d, mi, c0, s0) (pg_c mi) x np lo st L = some out) : iv_G mi out p l e R s m args below meth c D cI cB cJ b ws0 c0 s0 pc lo st L := by
  intro ws H locs ls sv hS hc hs
  obtain ⟨hW, hL, hK, hP, hD, hA, hX⟩ := hS
  obtain ⟨hx, hb, hml, hown, hts, hE, hR, hl, hlk, hnm, hrt, htb⟩ := X
  subst hn
  obtain ⟨n, st', rfl, h⟩ := iv_l1 h
  obtain ⟨a1, h⟩ := iv_b1 h
  obtain ⟨a2, h⟩ := iv_b1 h
  obtain ⟨a3, h⟩ := iv_b1 h
  obtain ⟨a4, h⟩ := iv_b1 h
  obtain ⟨a7, h⟩ := iv_b1 h
  obtain ⟨a8, h⟩ := iv_b1 h
  obtain ⟨len, hlen, h⟩ := iv_f_ex h
  rw [iv_n4, iv_n2] at hlen
  rw [iv_n7] at a1
  rw [iv_n8, iv_n1, iv_n2] at a2
  rw [iv_n7, iv_n2] at a3 a4
  obtain ⟨a5, h⟩ := iv_b1 h
  obtain ⟨a6, h⟩ := iv_b1 h
  obtain ⟨a9, h⟩ := iv_b1 h
  rw [iv_f_eq] at h
  obtain ⟨L1, h, w1, w2, w3⟩ := iv_hs_some h
  rw [iv_f_eq, iv_f_eq, iv_f_eq, iv_f_eq] at h
  rw [iv_n7] at a9
  rw [iv_n7, iv_n6] at a5
  rw [iv_n7, iv_n3] at a6
  have a5 : c0 + 1 ≤ (pg_i mi).2.2.1 := a5
  have a6 : s0 + len ≤ (pg_i mi).2.2.2 := a6
  have hl4 : len ≤ 10000 := by omega
  obtain ⟨Vn, sv', rfl, r1, hQ⟩ := iv_stk_cons hK
  obtain ⟨z, rfl, hz⟩ := iv_rel_int (by omega) r1
  obtain ⟨hin, hcl⟩ := iv_cidx (n := len + 1) hz.1 hz.2 a3 a2 (by omega)
  rw [← hlen] at hcl
  have hz0 : ¬ z < 0 := by
    rw [iv_lt_iff]
    have e0 : iv_bs 0 = 2147483648 := by decide
    have := hz.1
    omega
  have ef : (@Bool.rec (fun _ => Nat) 9223372039002259456 83010348333840465920 (Nat.beq x 3)) = 9223372039002259456 := by rw [hxe]; rfl
  rw [ef, hxe] at w2
  simp only [iv_n3, iv_n6] at h
  refine va_newa (atype := .byte) (ty := .byte) (N' := len) (a0 := (len, .inl (fun _ => 0))) hx hb (hts _ hw) rfl hE.1 hP hD hA (fun q hq => Or.inr hq) (fun cA => rfl) hz0 hcl (by show len * 1 ≤ _; omega) (by omega) (by omega) hd (fun q cA H1 k1 p1 p2 p3 => ?_)
  have hcc : cB = cA := (iv_one k1 (k := 3) (j := 1) rfl rfl (fun C hC => by cases hC)).symm
  subst hcc
  have key : ∀ k, k < len → iv_gt (iv_fill 9223372039002259456 len) k < 18446744073709551616 ∧ iv_in (iv_gt (iv_fill 9223372039002259456 len) k) 0 := fun k hk => by
    rw [iv_fill_gt (by decide) len k hk]
    exact ⟨by decide, iv_in_zero⟩
  have hcell : iv_cell b (iv_al (ws ++ [(q, .inl (cB, (len, .inl (fun _ => 0))))])) cI cB cJ (2, len, iv_fill 9223372039002259456 len) (.inl (cB, (len, .inl (fun _ => 0)))) := Or.inr (Or.inr (Or.inl ⟨rfl, fun _ => 0, rfl, key⟩))
  have hv : iv_rel b (iv_al (ws ++ [(q, .inl (cB, (len, .inl (fun _ => 0))))])) (18446744073709551616 + L1.1) (.ref q) := iv_rel_r rfl (by rw [w1]; omega) (by rw [w1, ← hW.1]; exact iv_al_new ws _)
  exact hI _ _ _ _ _ _ h _ H1 locs ls _ ⟨iv_W_new hW (by omega) (by show L1.1 + 1 = _; rw [w1]) (by rw [iv_hk2 rfl]; exact w2) (fun j hj => by rw [iv_hk2 rfl]; exact w3 j hj) hcell, iv_loc_mono (fun j z hz => iv_al_app hz) hL, ⟨hv, iv_stk_mono (fun j z hz => iv_al_app hz) hQ⟩, p1, p2, p3, hX.trans (fun j z hz => iv_al_app hz)⟩ (by omega) (by omega)
set_option maxRecDepth 100000 in
theorem ss_newa_long (hxe : x = 3) (hw : Cond.arrayClass .long ∈ iv_T) (hd : decode (pm_b mi) pc = .ok (.newarray .long, 2)) (hn : np = pc + 2) (X : iv_Cx sc mi d p l R s m args meth c D cI cB cJ b ws0) (hI : iv_IH ih d mi out p l e R s m args below meth c D cI cB cJ b ws0) (h : iv_oNewa ih (d, mi, c0, s0) (pg_c mi) x np lo st L = some out) : iv_G mi out p l e R s m args below meth c D cI cB cJ b ws0 c0 s0 pc lo st L := by
  intro ws H locs ls sv hS hc hs
  obtain ⟨hW, hL, hK, hP, hD, hA, hX⟩ := hS
  obtain ⟨hx, hb, hml, hown, hts, hE, hR, hl, hlk, hnm, hrt, htb⟩ := X
  subst hn
  obtain ⟨n, st', rfl, h⟩ := iv_l1 h
  obtain ⟨a1, h⟩ := iv_b1 h
  obtain ⟨a2, h⟩ := iv_b1 h
  obtain ⟨a3, h⟩ := iv_b1 h
  obtain ⟨a4, h⟩ := iv_b1 h
  obtain ⟨a7, h⟩ := iv_b1 h
  obtain ⟨a8, h⟩ := iv_b1 h
  obtain ⟨len, hlen, h⟩ := iv_f_ex h
  rw [iv_n4, iv_n2] at hlen
  rw [iv_n7] at a1
  rw [iv_n8, iv_n1, iv_n2] at a2
  rw [iv_n7, iv_n2] at a3 a4
  obtain ⟨a5, h⟩ := iv_b1 h
  obtain ⟨a6, h⟩ := iv_b1 h
  obtain ⟨a9, h⟩ := iv_b1 h
  rw [iv_f_eq] at h
  obtain ⟨L1, h, w1, w2, w3⟩ := iv_hs_some h
  rw [iv_f_eq, iv_f_eq, iv_f_eq, iv_f_eq] at h
  rw [iv_n7] at a9
  rw [iv_n7, iv_n6] at a5
  rw [iv_n7, iv_n3] at a6
  have a5 : c0 + 1 ≤ (pg_i mi).2.2.1 := a5
  have a6 : s0 + len ≤ (pg_i mi).2.2.2 := a6
  have hl4 : len ≤ 10000 := by omega
  obtain ⟨Vn, sv', rfl, r1, hQ⟩ := iv_stk_cons hK
  obtain ⟨z, rfl, hz⟩ := iv_rel_int (by omega) r1
  obtain ⟨hin, hcl⟩ := iv_cidx (n := len + 1) hz.1 hz.2 a3 a2 (by omega)
  rw [← hlen] at hcl
  have hz0 : ¬ z < 0 := by
    rw [iv_lt_iff]
    have e0 : iv_bs 0 = 2147483648 := by decide
    have := hz.1
    omega
  have ef : (@Bool.rec (fun _ => Nat) 9223372039002259456 83010348333840465920 (Nat.beq x 3)) = 83010348333840465920 := by rw [hxe]; rfl
  rw [ef, hxe] at w2
  simp only [iv_n3, iv_n6] at h
  refine va_newa (atype := .long) (ty := .long) (N' := len) (a0 := (len, .inr (.inl (fun _ => 0)))) hx hb (hts _ hw) rfl hE.1 hP hD hA (fun q hq => Or.inr hq) (fun cA => rfl) hz0 hcl (by show len * 8 ≤ _; omega) (by omega) (by omega) hd (fun q cA H1 k1 p1 p2 p3 => ?_)
  have hcc : cJ = cA := (iv_one k1 (k := 3) (j := 2) rfl rfl (fun C hC => by cases hC)).symm
  subst hcc
  have key : ∀ k, k < len → iv_rel b (iv_al (ws ++ [(q, .inl (cJ, len, .inr (.inl (fun _ => 0))))])) (iv_gt (iv_fill 83010348333840465920 len) k) (.long 0) := fun k hk => by
    rw [iv_fill_gt (by decide) len k hk]
    exact iv_rel_l (x := 0) (w := 9223372039002259456) (by decide) iv_in_zero rfl
  have hcell : iv_cell b (iv_al (ws ++ [(q, .inl (cJ, (len, .inr (.inl (fun _ => 0)))))])) cI cB cJ (3, len, iv_fill 83010348333840465920 len) (.inl (cJ, (len, .inr (.inl (fun _ => 0))))) := Or.inr (Or.inr (Or.inr ⟨rfl, fun _ => 0, rfl, key⟩))
  have hv : iv_rel b (iv_al (ws ++ [(q, .inl (cJ, (len, .inr (.inl (fun _ => 0)))))])) (18446744073709551616 + L1.1) (.ref q) := iv_rel_r rfl (by rw [w1]; omega) (by rw [w1, ← hW.1]; exact iv_al_new ws _)
  exact hI _ _ _ _ _ _ h _ H1 locs ls _ ⟨iv_W_new hW (by omega) (by show L1.1 + 1 = _; rw [w1]) (by rw [iv_hk2 rfl]; exact w2) (fun j hj => by rw [iv_hk2 rfl]; exact w3 j hj) hcell, iv_loc_mono (fun j z hz => iv_al_app hz) hL, ⟨hv, iv_stk_mono (fun j z hz => iv_al_app hz) hQ⟩, p1, p2, p3, hX.trans (fun j z hz => iv_al_app hz)⟩ (by omega) (by omega)
end OPS4
