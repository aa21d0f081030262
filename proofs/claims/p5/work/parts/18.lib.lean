/-! ===== a switch, the library's own, throws ===== -/
section LIBS
variable {sc : Nat × Nat} {mi d : Nat} {out : Nat × iv_H} {p : Program} {l : Launch} {e : Env} {R : Room} {s : State} {m : MethodId} {args : Array Value} {below : List Frame} {meth : Method} {c : Code} {D : va_G} {cI cB cJ : ClassId} {b : Nat → Nat} {ws0 : va_W} {ih : iv_I} {c0 s0 pc np x : Nat} {lo st : List Nat} {L : iv_H}
/-- the switch at pc is the packed one -/
def iv_TOK (mi pc : Nat) : Prop := ∃ (dflt lo hi : Int) (offs : Array Int) (len : Nat), decode (pm_b mi) pc = .ok (.tableswitch dflt lo hi offs, len) ∧ ((pg_t mi).1 : Int) = lo + 2147483648 ∧ ((pg_t mi).2.1 : Int) = hi + 2147483648 ∧ (pc : Int) + dflt = ((pg_t mi).2.2.1 : Int) ∧
  ∀ k, k < (pg_t mi).2.1 + 1 - (pg_t mi).1 → ∃ off, offs[k]? = some off ∧ (pc : Int) + off = (((pg_t mi).2.2.2 >>> (16 * k)) % 65536 : Nat)
set_option maxRecDepth 100000 in
theorem ss_tsw (X : iv_Cx sc mi d p l R s m args meth c D cI cB cJ b ws0) (hd : iv_TOK mi pc) (hI : iv_IH ih d mi out p l e R s m args below meth c D cI cB cJ b ws0) (h : iv_oTsw (pg_t mi) ih (d, mi, c0, s0) (pg_c mi) lo st L = some out) : iv_G mi out p l e R s m args below meth c D cI cB cJ b ws0 c0 s0 pc lo st L := by
  intro ws H locs ls sv hS hc hs
  obtain ⟨hW, hL, hK, hP, hD, hA, hX⟩ := hS
  obtain ⟨hx, hb, hml, hown, hts, hE, -⟩ := X
  obtain ⟨dflt, lo1, hi1, offs, len, d1, d2, d3, d4, d5⟩ := hd
  obtain ⟨v, st', rfl, h⟩ := iv_l1 h
  obtain ⟨a1, h⟩ := iv_b1 h
  rw [iv_n7] at a1
  obtain ⟨V, sv', rfl, r1, hQ⟩ := iv_stk_cons hK
  obtain ⟨z, rfl, hz⟩ := iv_rel_int (by omega) r1
  have hbs := iv_bs_eq z
  obtain ⟨hz1, hz2⟩ := hz
  generalize hT : pg_t mi = t at h d2 d3 d4 d5
  rcases iv_b2 h with ⟨h1, h⟩ | ⟨h1, h⟩
  · rw [iv_n7, iv_n6, iv_n1] at h1
    exact lv_tableOut hx hb d1 (Or.inl (by omega)) d4 (hI _ _ _ _ _ _ h ws H locs ls _ ⟨hW, hL, hQ, hP, hD, hA, hX⟩ hc hs)
  · rw [iv_n9, iv_n6, iv_n1] at h1
    rcases iv_b2 h with ⟨h2, h⟩ | ⟨h2, h⟩
    · rw [iv_n7, iv_n6, iv_n2] at h2
      exact lv_tableOut hx hb d1 (Or.inr (by omega)) d4 (hI _ _ _ _ _ _ h ws H locs ls _ ⟨hW, hL, hQ, hP, hD, hA, hX⟩ hc hs)
    · rw [iv_n9, iv_n6, iv_n2] at h2
      obtain ⟨h3, h⟩ := iv_b1 h
      rw [iv_n8, iv_n1, iv_n2] at h3
      obtain ⟨tg, htg, h⟩ := iv_f_ex h
      rw [iv_n2, iv_n5, iv_n4, iv_n2] at htg
      have hk : v % 4294967296 - t.1 < t.2.1 + 1 - t.1 := by omega
      obtain ⟨off, e1, e2⟩ := d5 _ hk
      have e3 : (z.toInt - lo1).toNat = v % 4294967296 - t.1 := by omega
      refine lv_tableIn hx hb d1 (by omega) (by omega) (by rw [e3]; exact e1) (tgt := tg) (by rw [e2, htg]; rfl) (hI _ _ _ _ _ _ h ws H locs ls _ ⟨hW, hL, hQ, hP, hD, hA, hX⟩ hc hs)
/-- Object's constructor -/
def iv_OOK (own : String) (idx : Nat) : Prop := Cond.methodLink own idx Lib.objectInit ∈ iv_T ∧ Cond.instanceMethod Lib.objectInit ∈ iv_T ∧ Cond.code Lib.objectInit ⟨#[0xb1]⟩ 1 none ∈ iv_T
theorem iv_inv_some {SM : iv_S} {fr : Nat × Nat × Nat × Nat} {cd : Nat} (h : iv_oInv SM ih fr cd pc x np lo st L = some out) :
    (x / 1048576 % 16 = 6 ∧ iv_call SM ih fr cd pc np 0 (x / 16777216) (x % 4096) (x / 4096 % 256) lo st L = some out) ∨
    (x / 1048576 % 16 = 7 ∧ iv_call SM ih fr cd pc np 1 0 (x % 4096) (x / 4096 % 256) lo st L = some out) ∨
    (x / 1048576 % 16 = 0 ∧ iv_call SM ih fr cd pc np 0 0 (x % 4096) (x / 4096 % 256) lo st L = some out) ∨
    (x / 1048576 % 16 = 8 ∧ iv_call SM ih fr cd pc np 1 (x / 16777216) (x % 4096) (x / 4096 % 256) lo st L = some out) ∨
    (x / 1048576 % 16 = 1 ∧ ∃ r st', st = r :: st' ∧ 18446744073709551616 ≤ r ∧ r ≤ 18446744078004518912 ∧ iv_wl st' ≤ 8 ∧ ih fr cd np lo st' L = some out) ∨
    (x / 1048576 % 16 = 2 ∧ iv_copy ih fr cd np lo st L = some out) ∨
    (x / 1048576 % 16 = 3 ∧ iv_wl st ≤ 8 ∧ iv_oBin iv_min ih fr cd np lo st L = some out) ∨
    (x / 1048576 % 16 = 4 ∧ iv_wl st ≤ 8 ∧ iv_oBin iv_max ih fr cd np lo st L = some out) ∨
    (x / 1048576 % 16 = 5 ∧ ∃ r st' q, st = r :: st' ∧ 18446744073709551616 ≤ r ∧ r ≤ 18446744078004518912 ∧ iv_hk L (r - 18446744073709551616) = some q ∧ pg_v (q.1 / 4) (x % 4096) ≤ 3999 ∧ iv_call SM ih fr cd pc np 1 (q.1 / 4 + 1) (pg_v (q.1 / 4) (x % 4096)) 1 lo st L = some out) := by
  have hd : Nat.mod (Nat.div x 1048576) 16 = x / 1048576 % 16 := rfl
  unfold iv_oInv at h
  rw [hd] at h
  generalize x / 1048576 % 16 = t at h ⊢
  rcases iv_b2 h with ⟨h1, h⟩ | ⟨-, h⟩
  · rw [iv_n8] at h1
    exact Or.inl ⟨h1, h⟩
  rcases iv_b2 h with ⟨h1, h⟩ | ⟨-, h⟩
  · rw [iv_n8] at h1
    exact Or.inr (Or.inl ⟨h1, h⟩)
  rcases iv_b2 h with ⟨h1, h⟩ | ⟨-, h⟩
  · rw [iv_n8] at h1
    exact Or.inr (Or.inr (Or.inl ⟨h1, h⟩))
  rcases iv_b2 h with ⟨h1, h⟩ | ⟨-, h⟩
  · rw [iv_n8] at h1
    exact Or.inr (Or.inr (Or.inr (Or.inl ⟨h1, h⟩)))
  rcases iv_b2 h with ⟨h1, h⟩ | ⟨-, h⟩
  · rw [iv_n8] at h1
    obtain ⟨r, st', e0, h⟩ := iv_l1 h
    obtain ⟨a1, h⟩ := iv_b1 h
    obtain ⟨a2, h⟩ := iv_b1 h
    obtain ⟨a3, h⟩ := iv_b1 h
    rw [iv_n7] at a1 a2 a3
    exact Or.inr (Or.inr (Or.inr (Or.inr (Or.inl ⟨h1, r, st', e0, a1, a2, a3, h⟩))))
  rcases iv_b2 h with ⟨h1, h⟩ | ⟨-, h⟩
  · rw [iv_n8] at h1
    exact Or.inr (Or.inr (Or.inr (Or.inr (Or.inr (Or.inl ⟨h1, h⟩)))))
  rcases iv_b2 h with ⟨h1, h⟩ | ⟨-, h⟩
  · rw [iv_n8] at h1
    obtain ⟨a3, h⟩ := iv_b1 h
    rw [iv_n7] at a3
    exact Or.inr (Or.inr (Or.inr (Or.inr (Or.inr (Or.inr (Or.inl ⟨h1, a3, h⟩))))))
  rcases iv_b2 h with ⟨h1, h⟩ | ⟨-, h⟩
  · rw [iv_n8] at h1
    obtain ⟨a3, h⟩ := iv_b1 h
    rw [iv_n7] at a3
    exact Or.inr (Or.inr (Or.inr (Or.inr (Or.inr (Or.inr (Or.inr (Or.inl ⟨h1, a3, h⟩)))))))
  · obtain ⟨h1, h⟩ := iv_b1 h
    rw [iv_n8] at h1
    obtain ⟨r, st', e0, h⟩ := iv_l1 h
    obtain ⟨a1, h⟩ := iv_b1 h
    obtain ⟨a2, h⟩ := iv_b1 h
    rw [iv_n7] at a1 a2
    obtain ⟨q, a3, h⟩ := iv_hg_some h
    rw [iv_n4] at a3
    rw [iv_f_eq] at h
    obtain ⟨a4, h⟩ := iv_b1 h
    rw [iv_n7] at a4
    exact Or.inr (Or.inr (Or.inr (Or.inr (Or.inr (Or.inr (Or.inr (Or.inr ⟨h1, r, st', q, e0, a1, a2, a3, a4, h⟩)))))))
set_option maxRecDepth 100000 in
theorem ss_obj {idx r : Nat} {st' : List Nat} (X : iv_Cx sc mi d p l R s m args meth c D cI cB cJ b ws0) (hO : iv_OOK (pm_y mi).cls idx) (hd : decode (pm_b mi) pc = .ok (.invokespecial idx, 3)) (hn : np = pc + 3) (hI : iv_IH ih d mi out p l e R s m args below meth c D cI cB cJ b ws0) (h0 : st = r :: st') (a1 : 18446744073709551616 ≤ r) (a2 : r ≤ 18446744078004518912) (a3 : iv_wl st' ≤ 8) (h : ih (d, mi, c0, s0) (pg_c mi) np lo st' L = some out) : iv_G mi out p l e R s m args below meth c D cI cB cJ b ws0 c0 s0 pc lo st L := by
  intro ws H locs ls sv hS hc hs
  obtain ⟨hW, hL, hK, hP, hD, hA, hX⟩ := hS
  obtain ⟨hx, hb, hml, hown, hts, hE, hR, -⟩ := X
  subst hn
  subst h0
  obtain ⟨V, sv', rfl, r1, hQ⟩ := iv_stk_cons hK
  obtain ⟨a, r3, rfl⟩ := iv_rel_ref a1 a2 r1
  have hw := iv_stk_wl hQ
  exact W.objInit hx hb hown (hts _ hO.1) (hts _ hO.2.1) (hts _ hO.2.2) rfl (by rw [hml]; exact iv_locs hL) rfl hd (by omega) (by show 2 * 0 + _ + 12 ≤ _; omega) (hI _ _ _ _ _ _ h ws H locs ls _ ⟨hW, hL, hQ, hP, hD, hA, hX⟩ hc hs)
set_option maxRecDepth 100000 in
theorem ss_mm {g : Nat → Nat → Nat} {g2 : Int32 → Int32 → Int32} (X : iv_Cx sc mi d p l R s m args meth c D cI cB cJ b ws0) (hg : ∀ {a z : Nat} {x y : Int32}, a < 18446744073709551616 → z < 18446744073709551616 → iv_in a x → iv_in z y → iv_in (g a z) (g2 x y) ∧ g a z < 18446744073709551616) (hr : ∀ (H : Heap) (locs : List Loc) (ls : Array Slot) (rest : List Value) (Q : State → Prop) (a z : Int32), c.maxLocals = ls.size → (rest.map fun v => v.category).sum ≤ 8 → c0 ≤ R.cells → s0 ≤ R.slots → W p l e R s m args below meth c H locs c0 s0 Q (F0 m np ls (.int (g2 a z) :: rest)) → W p l e R s m args below meth c H locs c0 s0 Q (F0 m pc ls (.int z :: .int a :: rest))) (hI : iv_IH ih d mi out p l e R s m args below meth c D cI cB cJ b ws0) (hwl : iv_wl st ≤ 8) (h : iv_oBin g ih (d, mi, c0, s0) (pg_c mi) np lo st L = some out) : iv_G mi out p l e R s m args below meth c D cI cB cJ b ws0 c0 s0 pc lo st L := by
  intro ws H locs ls sv hS hc hs
  obtain ⟨hW, hL, hK, hP, hD, hA, hX⟩ := hS
  obtain ⟨hx, hb, hml, hown, hts, hE, hR, -⟩ := X
  have hw := iv_stk_wl hK
  obtain ⟨v2, st1, rfl, h⟩ := iv_l1 h
  obtain ⟨v1, st', rfl, h⟩ := iv_l1 h
  obtain ⟨h1, h⟩ := iv_b1 h
  obtain ⟨h2, h⟩ := iv_b1 h
  rw [iv_f_eq] at h
  rw [iv_n7] at h1 h2
  obtain ⟨V2, sv1, rfl, r1, hK1⟩ := iv_stk_cons hK
  obtain ⟨V1, sv', rfl, r2, hQ⟩ := iv_stk_cons hK1
  obtain ⟨z, rfl, g1⟩ := iv_rel_int (by omega) r1
  obtain ⟨a, rfl, g2⟩ := iv_rel_int (by omega) r2
  obtain ⟨k1, k2⟩ := hg (by omega) (by omega) g2 g1
  rw [List.map_cons, List.map_cons, List.sum_cons, List.sum_cons] at hw
  exact hr _ _ _ _ _ a z (hml.trans (iv_locs hL).symm) (by omega) (by omega) (by omega) (hI _ _ _ _ _ _ h ws H locs ls _ ⟨hW, hL, ⟨iv_rel_i k2 k1, hQ⟩, hP, hD, hA, hX⟩ hc hs)
def iv_MIN (own : String) (idx : Nat) : Prop := Cond.methodLink own idx Lib.Math.min.name ∈ iv_T ∧ Cond.static Lib.Math.min.name ∈ iv_T ∧ Cond.initialized "java/lang/Math" ∈ iv_T ∧ Cond.code Lib.Math.min.name Lib.Math.min.code 2 (some .int) ∈ iv_T
def iv_MAX (own : String) (idx : Nat) : Prop := Cond.methodLink own idx Lib.Math.max.name ∈ iv_T ∧ Cond.static Lib.Math.max.name ∈ iv_T ∧ Cond.initialized "java/lang/Math" ∈ iv_T ∧ Cond.code Lib.Math.max.name Lib.Math.max.code 2 (some .int) ∈ iv_T
theorem ss_min {idx : Nat} (X : iv_Cx sc mi d p l R s m args meth c D cI cB cJ b ws0) (hO : iv_MIN (pm_y mi).cls idx) (hd : decode (pm_b mi) pc = .ok (.invokestatic idx, 3)) (hn : np = pc + 3) (hI : iv_IH ih d mi out p l e R s m args below meth c D cI cB cJ b ws0) (hwl : iv_wl st ≤ 8) (h : iv_oBin iv_min ih (d, mi, c0, s0) (pg_c mi) np lo st L = some out) : iv_G mi out p l e R s m args below meth c D cI cB cJ b ws0 c0 s0 pc lo st L := by
  have X' := X
  obtain ⟨hx, hb, hml, hown, hts, hE, hR, -⟩ := X
  subst hn
  exact ss_mm (g2 := fun x y => if y < x then y else x) X' (fun h1 h2 h3 h4 => iv_min_ok h1 h2 h3 h4) (fun H locs ls rest Q a z k1 k2 k3 k4 k => va_mmin hx hb k1 hown (hts _ hO.1) (hts _ hO.2.1) (hts _ hO.2.2.1) (hts _ hO.2.2.2) (by omega) (by omega) k3 k4 hd k) hI hwl h
theorem ss_max {idx : Nat} (X : iv_Cx sc mi d p l R s m args meth c D cI cB cJ b ws0) (hO : iv_MAX (pm_y mi).cls idx) (hd : decode (pm_b mi) pc = .ok (.invokestatic idx, 3)) (hn : np = pc + 3) (hI : iv_IH ih d mi out p l e R s m args below meth c D cI cB cJ b ws0) (hwl : iv_wl st ≤ 8) (h : iv_oBin iv_max ih (d, mi, c0, s0) (pg_c mi) np lo st L = some out) : iv_G mi out p l e R s m args below meth c D cI cB cJ b ws0 c0 s0 pc lo st L := by
  have X' := X
  obtain ⟨hx, hb, hml, hown, hts, hE, hR, -⟩ := X
  subst hn
  refine ss_mm (g2 := fun x y => if x < y then y else x) X' (fun {a z x y} h1 h2 h3 h4 => ?_) (fun H locs ls rest Q a z k1 k2 k3 k4 k => va_mmax hx hb k1 hown (hts _ hO.1) (hts _ hO.2.1) (hts _ hO.2.2.1) (hts _ hO.2.2.2) (by omega) (by omega) k3 k4 hd k) hI hwl h
  have e1 : (if x < y then y else x) = (if y ≤ x then x else y) := by
    by_cases hxy : x < y
    · rw [if_pos hxy, if_neg (Int32.not_le.mpr hxy)]
    · rw [if_neg hxy, if_pos (Int32.not_lt.mp hxy)]
  show iv_in (iv_max a z) (if x < y then y else x) ∧ _
  rw [e1]
  exact iv_max_ok h1 h2 h3 h4
def iv_ACP (own : String) (idx : Nat) : Prop := Cond.methodLink own idx arraycopyName ∈ iv_T ∧ Cond.native arraycopyName ∈ iv_T ∧ Cond.static arraycopyName ∈ iv_T ∧ Cond.initialized "java/lang/System" ∈ iv_T
set_option maxRecDepth 100000 in
theorem ss_copy {idx : Nat} (X : iv_Cx sc mi d p l R s m args meth c D cI cB cJ b ws0) (hO : iv_ACP (pm_y mi).cls idx) (hd : decode (pm_b mi) pc = .ok (.invokestatic idx, 3)) (hn : np = pc + 3) (hI : iv_IH ih d mi out p l e R s m args below meth c D cI cB cJ b ws0) (h : iv_copy ih (d, mi, c0, s0) (pg_c mi) np lo st L = some out) : iv_G mi out p l e R s m args below meth c D cI cB cJ b ws0 c0 s0 pc lo st L := by
  intro ws H locs ls sv hS hc hs
  obtain ⟨hW, hL, hK, hP, hD, hA, hX⟩ := hS
  obtain ⟨hx, hb, hml, hown, hts, hE, hR, -⟩ := X
  subst hn
  obtain ⟨n, st4, rfl, h⟩ := iv_l1 h
  obtain ⟨dp, st3, rfl, h⟩ := iv_l1 h
  obtain ⟨q, st2, rfl, h⟩ := iv_l1 h
  obtain ⟨sp, st1, rfl, h⟩ := iv_l1 h
  obtain ⟨r, st', rfl, h⟩ := iv_l1 h
  obtain ⟨a1, h⟩ := iv_b1 h
  obtain ⟨a2, h⟩ := iv_b1 h
  obtain ⟨a3, h⟩ := iv_b1 h
  obtain ⟨a4, h⟩ := iv_b1 h
  obtain ⟨a5, h⟩ := iv_b1 h
  obtain ⟨a6, h⟩ := iv_b1 h
  obtain ⟨a7, h⟩ := iv_b1 h
  obtain ⟨a8, h⟩ := iv_b1 h
  obtain ⟨a9, h⟩ := iv_b1 h
  obtain ⟨a10, h⟩ := iv_b1 h
  obtain ⟨N, hN, h⟩ := iv_f_ex h
  rw [iv_n4, iv_n2] at hN
  obtain ⟨qa, g1, h⟩ := iv_hg_some h
  obtain ⟨qb, g2, h⟩ := iv_hg_some h
  obtain ⟨b1, h⟩ := iv_b1 h
  obtain ⟨b2, h⟩ := iv_b1 h
  obtain ⟨b3, h⟩ := iv_b1 h
  obtain ⟨b4, h⟩ := iv_b1 h
  rw [iv_f_eq] at h
  obtain ⟨L', h, w1, w2, w3⟩ := iv_hs_some h
  rw [iv_n8] at a1 a2 b1 b2
  rw [iv_n7] at a3 a6 a7 a8 a9 a10
  rw [iv_n8, iv_n1, iv_n2] at a4
  rw [iv_n7, iv_n2] at a5
  rw [iv_n7] at b3 b4
  rw [iv_n4] at g1 g2
  rw [iv_n4 q] at w2 w3
  obtain ⟨V5, sv4, rfl, r5, hK⟩ := iv_stk_cons hK
  obtain ⟨V4, sv3, rfl, r4, hK⟩ := iv_stk_cons hK
  obtain ⟨V3, sv2, rfl, r3, hK⟩ := iv_stk_cons hK
  obtain ⟨V2, sv1, rfl, r2, hK⟩ := iv_stk_cons hK
  obtain ⟨V1, sv', rfl, r1, hQ⟩ := iv_stk_cons hK
  have hw := iv_stk_wl hQ
  obtain ⟨zn, rfl, hzn⟩ := iv_rel_int (by omega) r5
  obtain ⟨zd, rfl, hzd⟩ := iv_rel_int (by omega) r4
  obtain ⟨aq, k3, rfl⟩ := iv_rel_ref a6 a7 r3
  obtain ⟨zs, rfl, hzs⟩ := iv_rel_int (by omega) r2
  obtain ⟨ar, k1, rfl⟩ := iv_rel_ref a8 a9 r1
  obtain ⟨hin, hcn⟩ := iv_cidx (n := N + 1) hzn.1 hzn.2 a5 a4 (by omega)
  obtain ⟨hi2, hcd⟩ := iv_cidx (n := 1) hzd.1 hzd.2 (by rw [a1]; decide) (by rw [a1]) (by rw [a1]; decide)
  obtain ⟨hi3, hcs⟩ := iv_cidx (n := 1) hzs.1 hzs.2 (by rw [a2]; decide) (by rw [a2]) (by rw [a2]; decide)
  have hcd : zd.toNatClampNeg = 0 := by rw [hcd, a1]
  have hcs : zs.toNatClampNeg = 0 := by rw [hcs, a2]
  rw [← hN] at hcn
  obtain ⟨er, k2, k4⟩ := iv_W_at hW g1 k1
  obtain ⟨eq, k5, k6⟩ := iv_W_at hW g2 k3
  have neg : ∀ {z : Int32}, 2147483648 ≤ iv_bs z → ¬ z < 0 := fun {z} hz => by
    rw [iv_lt_iff]
    have e0 : iv_bs 0 = 2147483648 := by decide
    omega
  have nn := neg (z := zn) (by have := hzn.1; omega)
  have nd := neg (z := zd) (by have := hzd.1; rw [a1] at this; omega)
  have ns := neg (z := zs) (by have := hzs.1; rw [a2] at this; omega)
  generalize hk0 : q - 18446744073709551616 = kq at g2 w2 w3 k3 k5
  generalize hk1 : r - 18446744073709551616 = kr at g1 k1 k2
  rcases k4 with ⟨t, -⟩ | ⟨-, f, rfl, t2⟩ | ⟨t, -⟩ | ⟨t, -⟩
  · omega
  · rcases k6 with ⟨t, -⟩ | ⟨-, f2, rfl, t3⟩ | ⟨t, -⟩ | ⟨t, -⟩
    · omega
    · refine va_copyi hx hb (hml.trans (iv_locs hL).symm) hown (hts _ hO.1) (hts _ hO.2.1) (hts _ hO.2.2.1) (hts _ hO.2.2.2) hE.1 hP hD hA kr kq 0 0 k2 k5 rfl rfl rfl ns nd nn (by rw [hcs, hcn]; omega) (by rw [hcd, hcn]; omega) (fun i hi => rfl) (by omega) (by have e9 : nativeFrameWords "java/lang/System" "arraycopy" 5 ≤ 100 := (by decide +kernel); omega) hd (fun H1 locs1 p1 p2 p3 => ?_)
      rw [hcs, hcd, hcn] at p1 p2
      have hcell : iv_cell b (iv_al ws) cI cB cJ (qb.1, qb.2.1, Nat.xor qb.2.2 (Nat.mod (Nat.xor qb.2.2 qa.2.2) (Nat.pow 2 (Nat.mul 72 N)))) (.inl (cI, qb.2.1, .inl (va_cpy f f2 0 0 N))) := by
        refine Or.inr (Or.inl ⟨b2, _, rfl, fun k hk => ?_⟩)
        have hk : k < qb.2.1 := hk
        show iv_gt _ k < _ ∧ iv_in (iv_gt _ k) _
        rw [iv_cpy_gt]
        unfold va_cpy
        by_cases hkn : k < N
        · rw [if_pos hkn, if_pos (by omega)]
          have e1 : 0 + (k - 0) = k := by omega
          rw [e1]
          exact t2 k (by omega)
        · rw [if_neg hkn, if_neg (by omega)]
          exact t3 k hk
      exact hI _ _ _ _ _ _ h _ H1 locs1 ls _ ⟨iv_W_set hW w1 w2 w3 k5 hcell, iv_loc_mono (fun j z hz => by rw [iv_al_set k5]; exact hz) hL, iv_stk_mono (fun j z hz => by rw [iv_al_set k5]; exact hz) hQ, p1, p2, p3, hX.trans (fun j z hz => by rw [iv_al_set k5]; exact hz)⟩ hc hs
    · omega
    · omega
  · omega
  · omega
end LIBS
