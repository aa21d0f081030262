/-! ===== operations, 3 ===== -/
section OPS3
variable {sc : Nat × Nat} {mi d : Nat} {out : Nat × iv_H} {p : Program} {l : Launch} {e : Env} {R : Room} {s : State} {m : MethodId} {args : Array Value} {below : List Frame} {meth : Method} {c : Code} {D : va_G} {cI cB cJ : ClassId} {b : Nat → Nat} {ws0 : va_W} {ih : iv_I} {c0 s0 pc np x : Nat} {lo st : List Nat} {L : iv_H}
set_option maxRecDepth 100000 in
theorem ss_alu {g2 : Int32 → Int32 → Int32} {P : Int32 → Prop} (hk : ∀ a z r, iv_alu x a z = some r → z < 4294967296 → r = g2 (iv_ub a) (iv_ub z) ∧ P (iv_ub z)) (hk2 : x ≤ 5 → ∀ z, P z) (hk3 : x = 0 → ∀ a z, g2 a z = a &&& z) (hr : ∀ (H : Heap) (locs : List Loc) (ls : Array Slot) (rest : List Value) (Q : State → Prop) (a z : Int32), P z → W p l e R s m args below meth c H locs c0 s0 Q (F0 m np ls (.int (g2 a z) :: rest)) → W p l e R s m args below meth c H locs c0 s0 Q (F0 m pc ls (.int z :: .int a :: rest))) (hI : iv_IH ih d mi out p l e R s m args below meth c D cI cB cJ b ws0) (h : iv_oAlu ih (d, mi, c0, s0) (pg_c mi) x np lo st L = some out) : iv_G mi out p l e R s m args below meth c D cI cB cJ b ws0 c0 s0 pc lo st L := by
  intro ws H locs ls sv hS hc hs
  obtain ⟨hW, hL, hK, hP, hD, hA, hX⟩ := hS
  obtain ⟨v2, st1, rfl, h⟩ := iv_l1 h
  obtain ⟨v1, st', rfl, h⟩ := iv_l1 h
  obtain ⟨h1, h⟩ := iv_b1 h
  obtain ⟨h2, h⟩ := iv_b1 h
  rw [iv_n7] at h1
  rw [iv_n8, iv_n1, iv_n2] at h2
  obtain ⟨V2, sv1, rfl, r1, hK1⟩ := iv_stk_cons hK
  obtain ⟨V1, sv', rfl, r2, hQ⟩ := iv_stk_cons hK1
  obtain ⟨z, rfl, g1⟩ := iv_rel_int (by omega) r1
  have ez : iv_bs z = v2 % 4294967296 := Nat.le_antisymm (by rw [h2]; exact g1.2) g1.1
  have uz := iv_of_const ez
  rcases iv_b2 h with ⟨h3, h⟩ | ⟨-, h⟩
  · rw [iv_n7] at h3
    obtain ⟨a, rfl, g2'⟩ := iv_rel_int (by omega) r2
    rcases iv_b2 h with ⟨h4, h⟩ | ⟨-, h⟩
    · rw [iv_n8, iv_n1, iv_n2] at h4
      have ea : iv_bs a = v1 % 4294967296 := Nat.le_antisymm (by rw [h4]; exact g2'.2) g2'.1
      have ua := iv_of_const ea
      obtain ⟨w, h5, h⟩ := iv_o1 h
      rw [iv_f_eq] at h
      rw [iv_n2, iv_n2] at h5
      obtain ⟨k1, k2⟩ := hk _ _ _ h5 (Nat.mod_lt _ (by decide))
      rw [← ua, ← uz] at k1
      rw [← uz] at k2
      refine hr _ _ _ _ _ a z k2 ?_
      rw [← k1]
      exact hI _ _ _ _ _ _ h ws H locs ls _ ⟨hW, hL, ⟨iv_rel_i (iv_c_lt (iv_bs_lt w)) (iv_in_c rfl), hQ⟩, hP, hD, hA, hX⟩ hc hs
    · obtain ⟨h4, h⟩ := iv_b1 h
      rw [iv_n7] at h4
      exact hr _ _ _ _ _ a z (hk2 h4 z) (hI _ _ _ _ _ _ h ws H locs ls _ ⟨hW, hL, ⟨iv_rel_i iv_top_lt (iv_in_top _), hQ⟩, hP, hD, hA, hX⟩ hc hs)
  · obtain ⟨h3, h⟩ := iv_b1 h
    obtain ⟨h4, h⟩ := iv_b1 h
    obtain ⟨h5, h⟩ := iv_b1 h
    rw [iv_f_eq] at h
    rw [iv_n8, iv_n1] at h3
    rw [iv_n8] at h4
    rw [iv_n8, iv_n2] at h5
    obtain ⟨a, rfl, ha⟩ := iv_rel_six h3 r2
    rw [h5] at uz
    refine hr _ _ _ _ _ a z (hk2 (by omega) z) ?_
    rw [hk3 h4, uz]
    have e63 : iv_ub 2147483711 = 63 := by decide
    rw [e63, ha]
    have hlt : 2147483648 + v1 % 64 < 4294967296 := by omega
    exact hI _ _ _ _ _ _ h ws H locs ls _ ⟨hW, hL, ⟨iv_rel_i (iv_c_lt hlt) (iv_in_c (iv_bs_ub hlt)), hQ⟩, hP, hD, hA, hX⟩ hc hs
set_option maxRecDepth 100000 in
theorem ss_dup (hd : decode (pm_b mi) pc = .ok (.dup, 1)) (hn : np = pc + 1) (X : iv_Cx sc mi d p l R s m args meth c D cI cB cJ b ws0) (hI : iv_IH ih d mi out p l e R s m args below meth c D cI cB cJ b ws0) (h : iv_oDup ih (d, mi, c0, s0) (pg_c mi) np lo st L = some out) : iv_G mi out p l e R s m args below meth c D cI cB cJ b ws0 c0 s0 pc lo st L := by
  intro ws H locs ls sv hS hc hs
  obtain ⟨hW, hL, hK, hP, hD, hA, hX⟩ := hS
  obtain ⟨hx, hb, -⟩ := X
  subst hn
  obtain ⟨v1, st', rfl, h⟩ := iv_l1 h
  obtain ⟨h1, h⟩ := iv_b1 h
  rw [iv_n7] at h1
  obtain ⟨V1, sv', rfl, r2, hQ⟩ := iv_stk_cons hK
  exact lv_dup hx hb hd (iv_rel_cat1 (by omega) r2) (hI _ _ _ _ _ _ h ws H locs ls _ ⟨hW, hL, ⟨r2, r2, hQ⟩, hP, hD, hA, hX⟩ hc hs)
set_option maxRecDepth 100000 in
theorem ss_dup2 (hd : decode (pm_b mi) pc = .ok (.dup2, 1)) (hn : np = pc + 1) (X : iv_Cx sc mi d p l R s m args meth c D cI cB cJ b ws0) (hI : iv_IH ih d mi out p l e R s m args below meth c D cI cB cJ b ws0) (h : iv_oDup2 ih (d, mi, c0, s0) (pg_c mi) np lo st L = some out) : iv_G mi out p l e R s m args below meth c D cI cB cJ b ws0 c0 s0 pc lo st L := by
  intro ws H locs ls sv hS hc hs
  obtain ⟨hW, hL, hK, hP, hD, hA, hX⟩ := hS
  obtain ⟨hx, hb, -⟩ := X
  subst hn
  obtain ⟨v1, st1, rfl, h⟩ := iv_l1 h
  obtain ⟨v2, st', rfl, h⟩ := iv_l1 h
  obtain ⟨h1, h⟩ := iv_b1 h
  obtain ⟨h2, h⟩ := iv_b1 h
  rw [iv_n7] at h1 h2
  obtain ⟨V1, sv1, rfl, r1, hK1⟩ := iv_stk_cons hK
  obtain ⟨V2, sv', rfl, r2, hQ⟩ := iv_stk_cons hK1
  exact lv_dup2_11 hx hb hd (iv_rel_cat1 (by omega) r1) (iv_rel_cat1 (by omega) r2) (hI _ _ _ _ _ _ h ws H locs ls _ ⟨hW, hL, ⟨r1, r2, r1, r2, hQ⟩, hP, hD, hA, hX⟩ hc hs)
set_option maxRecDepth 100000 in
theorem ss_alen (hd : decode (pm_b mi) pc = .ok (.arraylength, 1)) (hn : np = pc + 1) (X : iv_Cx sc mi d p l R s m args meth c D cI cB cJ b ws0) (hI : iv_IH ih d mi out p l e R s m args below meth c D cI cB cJ b ws0) (h : iv_oAlen sc ih (d, mi, c0, s0) (pg_c mi) np lo st L = some out) : iv_G mi out p l e R s m args below meth c D cI cB cJ b ws0 c0 s0 pc lo st L := by
  intro ws H locs ls sv hS hc hs
  obtain ⟨hW, hL, hK, hP, hD, hA, hX⟩ := hS
  obtain ⟨hx, hb, hml, hown, hts, hE, -⟩ := X
  subst hn
  obtain ⟨r, st', rfl, h⟩ := iv_l1 h
  obtain ⟨Vr, sv', rfl, r2, hQ⟩ := iv_stk_cons hK
  have key : (18446744073709551616 ≤ r ∧ r ≤ 18446744078004518912 ∧ ∃ q, iv_hk L (r - 18446744073709551616) = some q ∧ 1 ≤ q.1 % 4 ∧ q.2.1 ≤ 2147483647 ∧ ih (d, mi, c0, s0) (pg_c mi) (pc + 1) lo (iv_c (2147483648 + q.2.1) :: st') L = some out) ∨ (r = 55340232221128654849 ∧ 1 ≤ sc.1 + sc.2 ∧ sc.1 ≤ 2147483647 ∧ ih (d, mi, c0, s0) (pg_c mi) (pc + 1) lo (iv_c (2147483648 + sc.1) :: st') L = some out) := by
    rcases iv_b2 h with ⟨a1, h⟩ | ⟨-, h⟩
    · rcases iv_b2 h with ⟨a2, h⟩ | ⟨-, h⟩
      · obtain ⟨q, h3, h⟩ := iv_hg_some h
        obtain ⟨a3, h⟩ := iv_b1 h
        obtain ⟨a4, h⟩ := iv_b1 h
        rw [iv_f_eq, iv_n3] at h
        rw [iv_n7] at a1 a2 a4
        rw [iv_n7, iv_n2] at a3
        rw [iv_n4] at h3
        exact Or.inl ⟨a1, a2, q, h3, a3, a4, h⟩
      · obtain ⟨a3, h⟩ := iv_b1 h
        obtain ⟨a5, h⟩ := iv_b1 h
        obtain ⟨a4, h⟩ := iv_b1 h
        rw [iv_f_eq, iv_n3] at h
        rw [iv_n8] at a3
        rw [iv_n7] at a4 a5
        exact Or.inr ⟨a3, a5, a4, h⟩
    · obtain ⟨a3, h⟩ := iv_b1 h
      obtain ⟨a5, h⟩ := iv_b1 h
      obtain ⟨a4, h⟩ := iv_b1 h
      rw [iv_f_eq, iv_n3] at h
      rw [iv_n8] at a3
      rw [iv_n7] at a4 a5
      exact Or.inr ⟨a3, a5, a4, h⟩
  have nb : ∀ n, n ≤ 2147483647 → iv_bs (Int32.ofNat n) = 2147483648 + n := fun n hn => by
    have e1 := iv_bs_eq (Int32.ofNat n)
    rw [Int32.toInt_ofNat_of_lt (by omega)] at e1
    omega
  rcases key with ⟨a1, a2, q, h3, a3, a4, h⟩ | ⟨hr0, a5, a4, h⟩
  · obtain ⟨a, r3, rfl⟩ := iv_rel_ref a1 a2 r2
    obtain ⟨ev, r4, r5⟩ := iv_W_at hW h3 r3
    have hlt : 2147483648 + q.2.1 < 4294967296 := by omega
    rcases r5 with ⟨t, -⟩ | ⟨t, f, rfl, -⟩ | ⟨t, f, rfl, -⟩ | ⟨t, f, rfl, -⟩
    · omega
    · exact va_alen hx hb hE.1 hP (r - 18446744073709551616) 0 r4 rfl rfl hd (hI _ _ _ _ _ _ h ws H locs ls _ ⟨hW, hL, ⟨iv_rel_i (iv_c_lt hlt) (iv_in_c (nb _ a4)), hQ⟩, hP, hD, hA, hX⟩ hc hs)
    · exact va_alen hx hb hE.1 hP (r - 18446744073709551616) 1 r4 rfl rfl hd (hI _ _ _ _ _ _ h ws H locs ls _ ⟨hW, hL, ⟨iv_rel_i (iv_c_lt hlt) (iv_in_c (nb _ a4)), hQ⟩, hP, hD, hA, hX⟩ hc hs)
    · exact va_alen hx hb hE.1 hP (r - 18446744073709551616) 2 r4 rfl rfl hd (hI _ _ _ _ _ _ h ws H locs ls _ ⟨hW, hL, ⟨iv_rel_i (iv_c_lt hlt) (iv_in_c (nb _ a4)), hQ⟩, hP, hD, hA, hX⟩ hc hs)
  · rw [hr0] at r2
    obtain rfl := iv_rel_sc r2
    have hlt : 2147483648 + sc.1 < 4294967296 := by omega
    rcases hE.2.2.2.2.2.2.1 with z | ⟨xs, x1, x2, x3, x4⟩
    · exact absurd z (by omega)
    · exact va_slen hx hb x1 x2 x3 hA hd (hI _ _ _ _ _ _ h ws H locs ls _ ⟨hW, hL, ⟨iv_rel_i (iv_c_lt hlt) (iv_in_c (nb _ a4)), hQ⟩, hP, hD, hA, hX⟩ hc hs)
set_option maxRecDepth 100000 in
theorem ss_i2l (hd : decode (pm_b mi) pc = .ok (.i2l, 1)) (hn : np = pc + 1) (X : iv_Cx sc mi d p l R s m args meth c D cI cB cJ b ws0) (hI : iv_IH ih d mi out p l e R s m args below meth c D cI cB cJ b ws0) (h : iv_oI2l ih (d, mi, c0, s0) (pg_c mi) np lo st L = some out) : iv_G mi out p l e R s m args below meth c D cI cB cJ b ws0 c0 s0 pc lo st L := by
  intro ws H locs ls sv hS hc hs
  obtain ⟨hW, hL, hK, hP, hD, hA, hX⟩ := hS
  obtain ⟨hx, hb, -⟩ := X
  subst hn
  obtain ⟨v1, st', rfl, h⟩ := iv_l1 h
  obtain ⟨h1, h⟩ := iv_b1 h
  rw [iv_f_eq, iv_n3] at h
  rw [iv_n7] at h1
  obtain ⟨V1, sv', rfl, r2, hQ⟩ := iv_stk_cons hK
  obtain ⟨a, rfl, g2⟩ := iv_rel_int (by omega) r2
  exact lv_i2l hx hb hd rfl (hI _ _ _ _ _ _ h ws H locs ls _ ⟨hW, hL, ⟨iv_rel_l (by omega) g2 rfl, hQ⟩, hP, hD, hA, hX⟩ hc hs)
theorem iv_lc {v : Nat} {x : Int32} (h4 : v / 18446744073709551616 = 4) (hc : v % 4294967296 = v / 4294967296 % 4294967296) (h : iv_in (v - 73786976294838206464) x) : iv_bs x = v % 4294967296 := by
  obtain ⟨h1, h2⟩ := h
  have e1 : (v - 73786976294838206464) % 4294967296 = v % 4294967296 := by omega
  have e2 : (v - 73786976294838206464) / 4294967296 = v / 4294967296 % 4294967296 := by omega
  rw [e1] at h1
  rw [e2, ← hc] at h2
  omega
theorem iv_lcmp {x y : Int32} : lg_cmp x.toInt64 y.toInt64 = (if iv_bs x = iv_bs y then 0 else if iv_bs x ≤ iv_bs y then -1 else 1) := by
  unfold lg_cmp
  have e : (x.toInt64 = y.toInt64) ↔ iv_bs x = iv_bs y := by
    rw [← iv_eq_iff]
    exact ⟨fun h => by
      have h1 := congrArg Int64.toInt h
      rw [Int32.toInt_toInt64, Int32.toInt_toInt64] at h1
      exact Int32.toInt_inj.mp h1, fun h => by rw [h]⟩
  have g : (x.toInt64 > y.toInt64) ↔ iv_bs y < iv_bs x := by
    rw [← iv_lt_iff]
    exact Int32.toInt64_lt
  by_cases h1 : iv_bs x = iv_bs y
  · rw [if_neg (by rw [g]; omega), if_pos (e.mpr h1), if_pos h1]
  · by_cases h2 : iv_bs x ≤ iv_bs y
    · rw [if_neg (by rw [g]; omega), if_neg (fun z => h1 (e.mp z)), if_neg h1, if_pos h2]
    · rw [if_pos (g.mpr (by omega)), if_neg h1, if_neg h2]
set_option maxRecDepth 100000 in
theorem ss_lcmp (hd : decode (pm_b mi) pc = .ok (.lcmp, 1)) (hn : np = pc + 1) (X : iv_Cx sc mi d p l R s m args meth c D cI cB cJ b ws0) (hI : iv_IH ih d mi out p l e R s m args below meth c D cI cB cJ b ws0) (h : iv_oLcmp ih (d, mi, c0, s0) (pg_c mi) np lo st L = some out) : iv_G mi out p l e R s m args below meth c D cI cB cJ b ws0 c0 s0 pc lo st L := by
  intro ws H locs ls sv hS hc hs
  obtain ⟨hW, hL, hK, hP, hD, hA, hX⟩ := hS
  obtain ⟨hx, hb, -⟩ := X
  subst hn
  obtain ⟨v2, st1, rfl, h⟩ := iv_l1 h
  obtain ⟨v1, st', rfl, h⟩ := iv_l1 h
  obtain ⟨a1, h⟩ := iv_b1 h
  obtain ⟨a2, h⟩ := iv_b1 h
  obtain ⟨a3, h⟩ := iv_b1 h
  obtain ⟨a4, h⟩ := iv_b1 h
  rw [iv_f_eq] at h
  rw [iv_n8, iv_n1] at a1 a3
  simp only [iv_n8, iv_n1, iv_n2] at a2 a4
  simp only [iv_bN, iv_n7, iv_n8, iv_n2] at h
  obtain ⟨V2, sv1, rfl, r1, hK1⟩ := iv_stk_cons hK
  obtain ⟨V1, sv', rfl, r2, hQ⟩ := iv_stk_cons hK1
  obtain ⟨z, rfl, g1⟩ := iv_rel_lng a3 r1
  obtain ⟨a, rfl, g2⟩ := iv_rel_lng a1 r2
  have e1 := iv_lc a3 a4 g1
  have e2 := iv_lc a1 a2 g2
  refine W.lcmp hx hb hd ?_
  rw [iv_lcmp, e1, e2]
  rw [← e1, ← e2] at h ⊢
  have k : iv_rel b (iv_al ws) (iv_c (if iv_bs a = iv_bs z then 2147483648 else if iv_bs a ≤ iv_bs z then 2147483647 else 2147483649)) (.int (if iv_bs a = iv_bs z then 0 else if iv_bs a ≤ iv_bs z then -1 else 1)) := by
    split
    · exact iv_rel_i (by decide) (iv_in_c (by decide))
    · split
      · exact iv_rel_i (by decide) (iv_in_c (by decide))
      · exact iv_rel_i (by decide) (iv_in_c (by decide))
  exact hI _ _ _ _ _ _ h ws H locs ls _ ⟨hW, hL, ⟨k, hQ⟩, hP, hD, hA, hX⟩ hc hs
set_option maxRecDepth 100000 in
theorem ss_i2b (hd : decode (pm_b mi) pc = .ok (.i2b, 1)) (hn : np = pc + 1) (X : iv_Cx sc mi d p l R s m args meth c D cI cB cJ b ws0) (hI : iv_IH ih d mi out p l e R s m args below meth c D cI cB cJ b ws0) (h : iv_oI2b ih (d, mi, c0, s0) (pg_c mi) np lo st L = some out) : iv_G mi out p l e R s m args below meth c D cI cB cJ b ws0 c0 s0 pc lo st L := by
  intro ws H locs ls sv hS hc hs
  obtain ⟨hW, hL, hK, hP, hD, hA, hX⟩ := hS
  obtain ⟨hx, hb, -⟩ := X
  subst hn
  obtain ⟨v1, st', rfl, h⟩ := iv_l1 h
  obtain ⟨h1, h⟩ := iv_b1 h
  rw [iv_n7] at h1
  obtain ⟨V1, sv', rfl, r2, hQ⟩ := iv_stk_cons hK
  obtain ⟨a, rfl, g2⟩ := iv_rel_int (by omega) r2
  refine lv_i2b hx hb hd rfl ?_
  have k : iv_rel b (iv_al ws) 9223372584463105920 (.int a.toInt8.toInt32) := by
    refine iv_rel_i (by decide) ?_
    have e := iv_bs_eq a.toInt8.toInt32
    rw [Int8.toInt_toInt32] at e
    have e2 := Int8.toInt_lt a.toInt8
    have e3 := Int8.le_toInt a.toInt8
    unfold iv_in
    constructor <;> omega
  exact hI _ _ _ _ _ _ h ws H locs ls _ ⟨hW, hL, ⟨k, hQ⟩, hP, hD, hA, hX⟩ hc hs
set_option maxRecDepth 100000 in
theorem ss_lconst (hd : ∃ n : Fin 2, decode (pm_b mi) pc = .ok (.lconst n, 1) ∧ (n : Nat) = x) (hn : np = pc + 1) (X : iv_Cx sc mi d p l R s m args meth c D cI cB cJ b ws0) (hI : iv_IH ih d mi out p l e R s m args below meth c D cI cB cJ b ws0) (h : iv_oLconst ih (d, mi, c0, s0) (pg_c mi) x np lo st L = some out) : iv_G mi out p l e R s m args below meth c D cI cB cJ b ws0 c0 s0 pc lo st L := by
  intro ws H locs ls sv hS hc hs
  obtain ⟨hW, hL, hK, hP, hD, hA, hX⟩ := hS
  obtain ⟨hx, hb, -⟩ := X
  subst hn
  obtain ⟨n, hd, rfl⟩ := hd
  obtain ⟨h1, h⟩ := iv_b1 h
  rw [iv_f_eq, iv_n3, iv_n3] at h
  have hn2 : (n : Nat) < 2 := n.isLt
  have k : iv_rel b (iv_al ws) (73786976294838206464 + iv_c (2147483648 + (n : Nat))) (.long (Int64.ofNat (n : Nat))) := by
    rcases (show (n : Nat) = 0 ∨ (n : Nat) = 1 by omega) with e | e
    · rw [e]
      exact iv_rel_l (x := 0) (by decide) (iv_in_c (by decide)) rfl
    · rw [e]
      exact iv_rel_l (x := 1) (by decide) (iv_in_c (by decide)) rfl
  exact lv_lconst hx hb hd rfl (hI _ _ _ _ _ _ h ws H locs ls _ ⟨hW, hL, ⟨k, hK⟩, hP, hD, hA, hX⟩ hc hs)
set_option maxRecDepth 100000 in
theorem ss_retv (hd : decode (pm_b mi) pc = .ok (.ireturn, 1)) (X : iv_Cx sc mi d p l R s m args meth c D cI cB cJ b ws0) (h : iv_oRetv (pg_i mi).2.1 st L = some out) : iv_G mi out p l e R s m args below meth c D cI cB cJ b ws0 c0 s0 pc lo st L := by
  intro ws H locs ls sv hS hc hs
  obtain ⟨hW, hL, hK, hP, hD, hA, hX⟩ := hS
  obtain ⟨hx, hb, hml, hown, hts, hE, hR, hl, hlk, hnm, hrt, htb⟩ := X
  obtain ⟨v, st', rfl, h⟩ := iv_l1 h
  rcases st' with _ | ⟨_, _⟩
  case cons => cases h
  obtain ⟨h1, h⟩ := iv_b1 h
  rw [iv_n7] at h1
  obtain ⟨V, sv', rfl, r1, hQ⟩ := iv_stk_cons hK
  obtain rfl := iv_stk_nil hQ
  obtain ⟨z, rfl, g⟩ := iv_rel_int (by omega) r1
  refine W.widen (k := (pg_i mi).2.2.1) (n := (pg_i mi).2.2.2) hc hs ?_
  have fin : out = (v, L) → ∀ t : State, t.heap = H → s.WarmedH t.vm → iv_Qc D cI cB cJ b ws0 out args s (.returned (some (.int z))) t := fun ho t ht _ =>
    ⟨some (.int z), ws, rfl, Or.inl ⟨by rw [ho]; show v < _; omega, .int z, rfl, by rw [ho]; exact r1⟩, by rw [ho]; exact hW, hX, by rw [ht]; exact hP, hD, hA.F ht⟩
  rcases iv_b2 h with ⟨h2, h⟩ | ⟨-, h⟩
  · rw [iv_n8] at h2
    have ho : out = (v, L) := (Option.some.inj h).symm
    have hret : meth.sig.returnType = some .int := by rw [hrt]; unfold pm_r; simp only [h2]
    exact vx_ret (W.iret hx hb hret (fin ho) (fun q hq => hA.2.2 q hq) hd hlk)
  · obtain ⟨h2, h⟩ := iv_b1 h
    obtain ⟨h3, h⟩ := iv_b1 h
    obtain ⟨h4, h⟩ := iv_b1 h
    rw [iv_n8] at h2
    rw [iv_n7, iv_n2] at h3
    rw [iv_n7, iv_n1] at h4
    have ho : out = (v, L) := (Option.some.inj h).symm
    have hret : meth.sig.returnType = some .boolean := by rw [hrt]; unfold pm_r; simp only [h2]
    have hz : narrow .boolean (.int z) = .int z := by
      rcases (show iv_bs z = 2147483648 ∨ iv_bs z = 2147483649 by have := g.1; have := g.2; omega) with e | e
      · rw [iv_of_const e]; decide
      · rw [iv_of_const e]; decide
    exact vx_ret (W.zret hx hb hret hz (fin ho) (fun q hq => hA.2.2 q hq) hd hlk)
set_option maxRecDepth 100000 in
theorem ss_retn (hd : decode (pm_b mi) pc = .ok (.return_, 1)) (X : iv_Cx sc mi d p l R s m args meth c D cI cB cJ b ws0) (h : iv_oRetn (pg_i mi).2.1 st L = some out) : iv_G mi out p l e R s m args below meth c D cI cB cJ b ws0 c0 s0 pc lo st L := by
  intro ws H locs ls sv hS hc hs
  obtain ⟨hW, hL, hK, hP, hD, hA, hX⟩ := hS
  obtain ⟨hx, hb, hml, hown, hts, hE, hR, hl, hlk, hnm, hrt, htb⟩ := X
  rcases st with _ | ⟨_, _⟩
  case cons => cases h
  obtain ⟨h2, h⟩ := iv_b1 h
  rw [iv_n8] at h2
  obtain rfl := iv_stk_nil hK
  refine W.widen (k := (pg_i mi).2.2.1) (n := (pg_i mi).2.2.2) hc hs ?_
  have ho : out = (147573952589676412928, L) := (Option.some.inj h).symm
  have hret : meth.sig.returnType = none := by rw [hrt]; unfold pm_r; simp only [h2]
  exact vx_ret (W.vret hx hb hret (fun t ht _ => ⟨none, ws, rfl, Or.inr ⟨by rw [ho], rfl⟩, by rw [ho]; exact hW, hX, by rw [ht]; exact hP, hD, hA.F ht⟩) (fun q hq => hA.2.2 q hq) hd hlk)
end OPS3
