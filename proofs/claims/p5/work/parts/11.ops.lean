/-! ===== each operation of the interpreter, against the machine ===== -/
section OPS
variable {sc : Nat × Nat} {mi d : Nat} {out : Nat × iv_H} {p : Program} {l : Launch} {e : Env} {R : Room} {s : State} {m : MethodId} {args : Array Value} {below : List Frame} {meth : Method} {c : Code} {D : va_G} {cI cB cJ : ClassId} {b : Nat → Nat} {ws0 : va_W} {ih : iv_I} {c0 s0 pc np x : Nat} {lo st : List Nat} {L : iv_H}
def iv_IH (ih : iv_I) (d mi : Nat) (out : Nat × iv_H) (p : Program) (l : Launch) (e : Env) (R : Room) (s : State) (m : MethodId) (args : Array Value) (below : List Frame) (meth : Method) (c : Code) (D : va_G) (cI cB cJ : ClassId) (b : Nat → Nat) (ws0 : va_W) : Prop :=
  ∀ (c0 s0 pc : Nat) (lo st : List Nat) (L : iv_H), ih (d, mi, c0, s0) (pg_c mi) pc lo st L = some out → iv_G mi out p l e R s m args below meth c D cI cB cJ b ws0 c0 s0 pc lo st L
set_option maxRecDepth 100000 in
theorem ss_iload (hr : ∀ (H : Heap) (locs : List Loc) (ls : Array Slot) (rest : List Value) (Q : State → Prop) (v : Int32), ls[x]? = some (.val (.int v)) → W p l e R s m args below meth c H locs c0 s0 Q (F0 m np ls (.int v :: rest)) → W p l e R s m args below meth c H locs c0 s0 Q (F0 m pc ls rest)) (hI : iv_IH ih d mi out p l e R s m args below meth c D cI cB cJ b ws0) (h : iv_oIload ih (d, mi, c0, s0) (pg_c mi) x np lo st L = some out) : iv_G mi out p l e R s m args below meth c D cI cB cJ b ws0 c0 s0 pc lo st L := by
  intro ws H locs ls sv hS hc hs
  obtain ⟨hW, hL, hK, hP, hD, hA, hX⟩ := hS
  obtain ⟨v, h1, h⟩ := iv_nth_some _ _ _ _ h
  obtain ⟨h2, h⟩ := iv_b1 h
  rw [iv_n7] at h2
  obtain ⟨V, g1, g2⟩ := iv_loc_get hL h1 (by omega)
  obtain ⟨z, rfl, -⟩ := iv_rel_int (by omega) g2
  exact hr _ _ _ _ _ _ g1 (hI _ _ _ _ _ _ h ws H locs ls _ ⟨hW, hL, ⟨g2, hK⟩, hP, hD, hA, hX⟩ hc hs)
set_option maxRecDepth 100000 in
theorem ss_aload (hr : ∀ (H : Heap) (locs : List Loc) (ls : Array Slot) (rest : List Value) (Q : State → Prop) (a : Nat), ls[x]? = some (.val (.ref a)) → W p l e R s m args below meth c H locs c0 s0 Q (F0 m np ls (.ref a :: rest)) → W p l e R s m args below meth c H locs c0 s0 Q (F0 m pc ls rest)) (hI : iv_IH ih d mi out p l e R s m args below meth c D cI cB cJ b ws0) (h : iv_oAload ih (d, mi, c0, s0) (pg_c mi) x np lo st L = some out) : iv_G mi out p l e R s m args below meth c D cI cB cJ b ws0 c0 s0 pc lo st L := by
  intro ws H locs ls sv hS hc hs
  obtain ⟨hW, hL, hK, hP, hD, hA, hX⟩ := hS
  obtain ⟨v, h1, h⟩ := iv_nth_some _ _ _ _ h
  obtain ⟨h2, h⟩ := iv_b1 h
  rw [iv_n7] at h2
  rcases iv_b2 h with ⟨h3, h⟩ | ⟨-, h⟩
  · rw [iv_n7] at h3
    obtain ⟨V, g1, g2⟩ := iv_loc_get hL h1 (by omega)
    obtain ⟨a, -, rfl⟩ := iv_rel_ref h2 h3 g2
    exact hr _ _ _ _ _ _ g1 (hI _ _ _ _ _ _ h ws H locs ls _ ⟨hW, hL, ⟨g2, hK⟩, hP, hD, hA, hX⟩ hc hs)
  · rcases iv_b2 h with ⟨h3, h⟩ | ⟨-, h⟩
    · rw [iv_n8] at h3
      subst h3
      obtain ⟨V, g1, g2⟩ := iv_loc_get hL h1 (by omega)
      obtain rfl := iv_rel_sc g2
      exact hr _ _ _ _ _ _ g1 (hI _ _ _ _ _ _ h ws H locs ls _ ⟨hW, hL, ⟨g2, hK⟩, hP, hD, hA, hX⟩ hc hs)
    · obtain ⟨h3, h⟩ := iv_b1 h
      rw [iv_n8] at h3
      subst h3
      obtain ⟨V, g1, g2⟩ := iv_loc_get hL h1 (by omega)
      obtain ⟨a, rfl⟩ := iv_rel_xr g2
      exact hr _ _ _ _ _ _ g1 (hI _ _ _ _ _ _ h ws H locs ls _ ⟨hW, hL, ⟨g2, hK⟩, hP, hD, hA, hX⟩ hc hs)
def iv_FOK (own : String) (idx k f : Nat) : Prop := ∀ ci, iv_sub2 ci f = true → ∃ (C : String) (T : u_T) (N : Nat) (ref : String), vwCl[ci]? = some (C, T, N) ∧ k < N ∧ (∀ w ∈ u_ws C T N, w ∈ iv_T) ∧ Cond.fieldLink own idx ref (T k).2.1 (T k).2.2.1 ∈ iv_T ∧ ((T k).1 = ref ∨ Cond.sameField ref (T k).1 (T k).2.1 (T k).2.2.1 ∈ iv_T)
theorem iv_same {T : u_T} {k : Nat} {ref : String} (hts : ∀ w ∈ iv_T, w.before args s = true) (h : (T k).1 = ref ∨ Cond.sameField ref (T k).1 (T k).2.1 (T k).2.2.1 ∈ iv_T) : ∀ x, s.fieldFound? (T k).1 (T k).2.1 (T k).2.2.1 = some x → s.fieldFound? ref (T k).2.1 (T k).2.2.1 = some x := by
  intro z hz
  rcases h with h | h
  · rw [← h]; exact hz
  · exact u_same (hts _ h) z hz
set_option maxRecDepth 100000 in
theorem ss_getf (X : iv_Cx sc mi d p l R s m args meth c D cI cB cJ b ws0) (hd : ∃ idx, decode (pm_b mi) pc = .ok (.getfield idx, 3) ∧ np = pc + 3 ∧ iv_FOK (pm_y mi).cls idx (x % 64) (x / 64)) (hI : iv_IH ih d mi out p l e R s m args below meth c D cI cB cJ b ws0) (h : iv_oGetf ih (d, mi, c0, s0) (pg_c mi) x np lo st L = some out) : iv_G mi out p l e R s m args below meth c D cI cB cJ b ws0 c0 s0 pc lo st L := by
  intro ws H locs ls sv hS hc hs
  obtain ⟨hW, hL, hK, hP, hD, hA, hX⟩ := hS
  obtain ⟨hx, hb, hml, hown, hts, hE, -⟩ := X
  obtain ⟨r, st', rfl, h⟩ := iv_l1 h
  obtain ⟨h1, h⟩ := iv_b1 h
  obtain ⟨h2, h⟩ := iv_b1 h
  rw [iv_n7] at h1 h2
  obtain ⟨q, h3, h⟩ := iv_hg_some h
  obtain ⟨h4, h⟩ := iv_b1 h
  obtain ⟨h5, h⟩ := iv_b1 h
  obtain ⟨h6, h⟩ := iv_b1 h
  rw [iv_f_eq] at h
  rw [iv_n8, iv_n2] at h4
  rw [iv_n1, iv_n1] at h5
  rw [iv_n7, iv_n6, iv_n2] at h6
  rw [iv_n4] at h3
  obtain ⟨V, sv', rfl, r1, r2⟩ := iv_stk_cons hK
  obtain ⟨a, r3, rfl⟩ := iv_rel_ref h1 h2 r1
  obtain ⟨ev, r4, r5⟩ := iv_W_at hW h3 r3
  obtain ⟨idx, d1, rfl, d3⟩ := hd
  obtain ⟨C, T, N, ref, f1, f2, f3, f4, f5⟩ := d3 _ h5
  rcases r5 with ⟨-, fs, rfl, t1, t2⟩ | ⟨t, -⟩ | ⟨t, -⟩ | ⟨t, -⟩
  · obtain ⟨v, t3, t4⟩ := t2 _ h6
    exact va_get hx hb hts f3 hown hE.1 hP (r - 18446744073709551616) r4 f1 (x % 64) f2 (hts _ f4) (iv_same hts f5) t3 d1 (hI _ _ _ _ _ _ h ws H locs ls _ ⟨hW, hL, ⟨t4, r2⟩, hP, hD, hA, hX⟩ hc hs)
  · omega
  · omega
  · omega
set_option maxRecDepth 100000 in
theorem ss_const {v : Int32} (hv : x = iv_c (iv_bs v)) (hr : ∀ (H : Heap) (locs : List Loc) (ls : Array Slot) (rest : List Value) (Q : State → Prop), W p l e R s m args below meth c H locs c0 s0 Q (F0 m np ls (.int v :: rest)) → W p l e R s m args below meth c H locs c0 s0 Q (F0 m pc ls rest)) (hI : iv_IH ih d mi out p l e R s m args below meth c D cI cB cJ b ws0) (h : iv_oConst ih (d, mi, c0, s0) (pg_c mi) x np lo st L = some out) : iv_G mi out p l e R s m args below meth c D cI cB cJ b ws0 c0 s0 pc lo st L := by
  intro ws H locs ls sv hS hc hs
  obtain ⟨hW, hL, hK, hP, hD, hA, hX⟩ := hS
  obtain ⟨h1, h⟩ := iv_b1 h
  rw [iv_f_eq] at h
  rw [iv_n7] at h1
  have g : iv_rel b (iv_al ws) x (.int v) := iv_rel_i (by omega) (by rw [hv]; exact iv_in_c rfl)
  exact hr _ _ _ _ _ (hI _ _ _ _ _ _ h ws H locs ls _ ⟨hW, hL, ⟨g, hK⟩, hP, hD, hA, hX⟩ hc hs)
def iv_cdP (cd : Nat) (a z : Int32) : Prop := match cd with | 0 => a = z | 1 => ¬ a = z | 2 => a < z | 3 => z ≤ a | 4 => z < a | _ => a ≤ z
theorem iv_cd_1 {cd al ah bl bh : Nat} {a z : Int32} (hx : al ≤ iv_bs a ∧ iv_bs a ≤ ah) (hy : bl ≤ iv_bs z ∧ iv_bs z ≤ bh) (hc : cd ≤ 5) (h : iv_cmp cd al ah bl bh = 1) : iv_cdP cd a z := by
  obtain ⟨h0, h1, h2, h3, h4, h5⟩ := iv_cmp_1 hx hy h
  rcases (show cd = 0 ∨ cd = 1 ∨ cd = 2 ∨ cd = 3 ∨ cd = 4 ∨ cd = 5 by omega) with rfl | rfl | rfl | rfl | rfl | rfl
  · exact h0 rfl
  · exact h1 rfl
  · exact h2 rfl
  · exact h3 rfl
  · exact h4 rfl
  · exact h5 rfl
theorem iv_cd_0 {cd al ah bl bh : Nat} {a z : Int32} (hx : al ≤ iv_bs a ∧ iv_bs a ≤ ah) (hy : bl ≤ iv_bs z ∧ iv_bs z ≤ bh) (hc : cd ≤ 5) (h : iv_cmp cd al ah bl bh = 0) : ¬ iv_cdP cd a z := by
  obtain ⟨h0, h1, h2, h3, h4, h5⟩ := iv_cmp_0 hx hy h
  rcases (show cd = 0 ∨ cd = 1 ∨ cd = 2 ∨ cd = 3 ∨ cd = 4 ∨ cd = 5 by omega) with rfl | rfl | rfl | rfl | rfl | rfl
  · exact h0 rfl
  · exact fun z => z (h1 rfl)
  · exact h2 rfl
  · exact h3 rfl
  · exact h4 rfl
  · exact h5 rfl
theorem iv_jump_some {fr : Nat × Nat × Nat × Nat} {cd tg b0 : Nat} (h : iv_jump ih fr cd tg np b0 lo st L = some out) : (b0 = 0 ∧ ih fr cd np lo st L = some out) ∨ (b0 = 1 ∧ ih fr cd tg lo st L = some out) := by
  rcases iv_b2 h with ⟨h1, h⟩ | ⟨-, h⟩
  · rw [iv_n8] at h1
    exact Or.inl ⟨h1, h⟩
  · obtain ⟨h1, h⟩ := iv_b1 h
    rw [iv_n8] at h1
    rw [iv_f_eq] at h
    exact Or.inr ⟨h1, h⟩
set_option maxRecDepth 100000 in
theorem ss_icmp (hcd : x / 65536 ≤ 5) (hr : ∀ (H : Heap) (locs : List Loc) (ls : Array Slot) (rest : List Value) (Q : State → Prop) (a z : Int32), (iv_cdP (x / 65536) a z → W p l e R s m args below meth c H locs c0 s0 Q (F0 m (x % 65536) ls rest)) → (¬ iv_cdP (x / 65536) a z → W p l e R s m args below meth c H locs c0 s0 Q (F0 m np ls rest)) → W p l e R s m args below meth c H locs c0 s0 Q (F0 m pc ls (.int z :: .int a :: rest))) (hI : iv_IH ih d mi out p l e R s m args below meth c D cI cB cJ b ws0) (h : iv_oIcmp ih (d, mi, c0, s0) (pg_c mi) x np lo st L = some out) : iv_G mi out p l e R s m args below meth c D cI cB cJ b ws0 c0 s0 pc lo st L := by
  intro ws H locs ls sv hS hc hs
  obtain ⟨hW, hL, hK, hP, hD, hA, hX⟩ := hS
  obtain ⟨v2, st1, rfl, h⟩ := iv_l1 h
  obtain ⟨v1, st', rfl, h⟩ := iv_l1 h
  obtain ⟨h1, h⟩ := iv_b1 h
  obtain ⟨h2, h⟩ := iv_b1 h
  rw [iv_n7] at h1 h2
  obtain ⟨V2, sv1, rfl, r1, hK1⟩ := iv_stk_cons hK
  obtain ⟨V1, sv', rfl, r2, hQ⟩ := iv_stk_cons hK1
  obtain ⟨z, rfl, g1⟩ := iv_rel_int (by omega) r1
  obtain ⟨a, rfl, g2⟩ := iv_rel_int (by omega) r2
  rcases iv_jump_some h with ⟨h3, h⟩ | ⟨h3, h⟩
  · have nc := iv_cd_0 g2 g1 hcd h3
    exact hr _ _ _ _ _ a z (fun q => absurd q nc) (fun _ => hI _ _ _ _ _ _ h ws H locs ls _ ⟨hW, hL, hQ, hP, hD, hA, hX⟩ hc hs)
  · have nc := iv_cd_1 g2 g1 hcd h3
    exact hr _ _ _ _ _ a z (fun _ => hI _ _ _ _ _ _ h ws H locs ls _ ⟨hW, hL, hQ, hP, hD, hA, hX⟩ hc hs) (fun q => absurd nc q)
set_option maxRecDepth 100000 in
theorem ss_ifz (hcd : x / 65536 ≤ 5) (hr : ∀ (H : Heap) (locs : List Loc) (ls : Array Slot) (rest : List Value) (Q : State → Prop) (a : Int32), (iv_cdP (x / 65536) a 0 → W p l e R s m args below meth c H locs c0 s0 Q (F0 m (x % 65536) ls rest)) → (¬ iv_cdP (x / 65536) a 0 → W p l e R s m args below meth c H locs c0 s0 Q (F0 m np ls rest)) → W p l e R s m args below meth c H locs c0 s0 Q (F0 m pc ls (.int a :: rest))) (hI : iv_IH ih d mi out p l e R s m args below meth c D cI cB cJ b ws0) (h : iv_oIfz ih (d, mi, c0, s0) (pg_c mi) x np lo st L = some out) : iv_G mi out p l e R s m args below meth c D cI cB cJ b ws0 c0 s0 pc lo st L := by
  intro ws H locs ls sv hS hc hs
  obtain ⟨hW, hL, hK, hP, hD, hA, hX⟩ := hS
  obtain ⟨v1, st', rfl, h⟩ := iv_l1 h
  obtain ⟨h1, h⟩ := iv_b1 h
  rw [iv_n7] at h1
  obtain ⟨V1, sv', rfl, r2, hQ⟩ := iv_stk_cons hK
  obtain ⟨a, rfl, g2⟩ := iv_rel_int (by omega) r2
  have g1 : 2147483648 ≤ iv_bs 0 ∧ iv_bs 0 ≤ 2147483648 := by decide
  rcases iv_jump_some h with ⟨h3, h⟩ | ⟨h3, h⟩
  · have nc := iv_cd_0 g2 g1 hcd h3
    exact hr _ _ _ _ _ a (fun q => absurd q nc) (fun _ => hI _ _ _ _ _ _ h ws H locs ls _ ⟨hW, hL, hQ, hP, hD, hA, hX⟩ hc hs)
  · have nc := iv_cd_1 g2 g1 hcd h3
    exact hr _ _ _ _ _ a (fun _ => hI _ _ _ _ _ _ h ws H locs ls _ ⟨hW, hL, hQ, hP, hD, hA, hX⟩ hc hs) (fun q => absurd nc q)
set_option maxRecDepth 100000 in
theorem ss_bin {g : Nat → Nat → Nat} {g2 : Int32 → Int32 → Int32} (hg : ∀ {a z : Nat} {x y : Int32}, a < 18446744073709551616 → z < 18446744073709551616 → iv_in a x → iv_in z y → iv_in (g a z) (g2 x y) ∧ g a z < 18446744073709551616) (hr : ∀ (H : Heap) (locs : List Loc) (ls : Array Slot) (rest : List Value) (Q : State → Prop) (a z : Int32), W p l e R s m args below meth c H locs c0 s0 Q (F0 m np ls (.int (g2 a z) :: rest)) → W p l e R s m args below meth c H locs c0 s0 Q (F0 m pc ls (.int z :: .int a :: rest))) (hI : iv_IH ih d mi out p l e R s m args below meth c D cI cB cJ b ws0) (h : iv_oBin g ih (d, mi, c0, s0) (pg_c mi) np lo st L = some out) : iv_G mi out p l e R s m args below meth c D cI cB cJ b ws0 c0 s0 pc lo st L := by
  intro ws H locs ls sv hS hc hs
  obtain ⟨hW, hL, hK, hP, hD, hA, hX⟩ := hS
  obtain ⟨v2, st1, rfl, h⟩ := iv_l1 h
  obtain ⟨v1, st', rfl, h⟩ := iv_l1 h
  obtain ⟨h1, h⟩ := iv_b1 h
  obtain ⟨h2, h⟩ := iv_b1 h
  rw [iv_f_eq] at h
  rw [iv_n7] at h1 h2
  obtain ⟨V2, sv1, rfl, r1, hK1⟩ := iv_stk_cons hK
  obtain ⟨V1, sv', rfl, r2, hQ⟩ := iv_stk_cons hK1
  obtain ⟨z, rfl, g1⟩ := iv_rel_int (by omega) r1
  obtain ⟨a, rfl, g2⟩ := iv_rel_int (by omega) r2
  obtain ⟨k1, k2⟩ := hg (by omega) (by omega) g2 g1
  exact hr _ _ _ _ _ a z (hI _ _ _ _ _ _ h ws H locs ls _ ⟨hW, hL, ⟨iv_rel_i k2 k1, hQ⟩, hP, hD, hA, hX⟩ hc hs)
theorem iv_idx {i : Int32} (h : 2147483648 ≤ iv_bs i) : i.toNatClampNeg = iv_bs i - 2147483648 := by
  have e := iv_bs_eq i
  show i.toInt.toNat = _
  omega
theorem iv_idx_in {i : Int32} {n : Nat} (h : 2147483648 ≤ iv_bs i) (h2 : iv_bs i - 2147483648 < n) : vp_in i n := by
  have e := iv_bs_eq i
  rw [vp_in_iff]
  omega
theorem iv_cidx {i n : Nat} {j : Int32} (h1 : i % 4294967296 ≤ iv_bs j) (h2 : iv_bs j ≤ i / 4294967296) (k1 : 2147483648 ≤ i % 4294967296) (k2 : i % 4294967296 = i / 4294967296) (k3 : i % 4294967296 - 2147483648 < n) : vp_in j n ∧ j.toNatClampNeg = i % 4294967296 - 2147483648 := by
  rw [← k2] at h2
  have e : iv_bs j = i % 4294967296 := Nat.le_antisymm h2 h1
  rw [← e] at k1 k3 ⊢
  exact ⟨iv_idx_in k1 k3, iv_idx k1⟩
theorem iv_ridx {lo hi n : Nat} {j : Int32} (h1 : lo ≤ iv_bs j) (h2 : iv_bs j ≤ hi) (k1 : 2147483648 ≤ lo) (k2 : lo ≤ hi) (k3 : hi - 2147483648 + 1 ≤ n) : vp_in j n ∧ lo - 2147483648 ≤ j.toNatClampNeg ∧ j.toNatClampNeg ≤ lo - 2147483648 + (hi - lo) ∧ ∀ y, lo - 2147483648 ≤ y → y ≤ lo - 2147483648 + (hi - lo) → y < n := by
  have e := iv_idx (i := j) (by omega)
  rw [e]
  refine ⟨iv_idx_in (by omega) (by omega), ?_, ?_, fun y h3 h4 => ?_⟩
  · omega
  · omega
  · omega
theorem iv_scl_some {kd r i : Nat} {fr : Nat × Nat × Nat × Nat} {cd : Nat} (h : iv_scl sc kd r i ih fr cd np lo st L = some out) : r = 55340232221128654849 ∧ kd = 1 ∧ 2147483648 ≤ i % 4294967296 ∧ i % 4294967296 = i / 4294967296 ∧ i % 4294967296 - 2147483648 < sc.1 ∧ ih fr cd np lo (iv_gt sc.2 (i % 4294967296 - 2147483648) :: st) L = some out := by
  obtain ⟨a1, h⟩ := iv_b1 h
  obtain ⟨a2, h⟩ := iv_b1 h
  obtain ⟨a3, h⟩ := iv_b1 h
  obtain ⟨a4, h⟩ := iv_b1 h
  obtain ⟨a5, h⟩ := iv_b1 h
  rw [iv_f_eq, iv_n4, iv_n2] at h
  rw [iv_n8] at a1 a2
  rw [iv_n7, iv_n2] at a3
  rw [iv_n8, iv_n1, iv_n2] at a4
  rw [iv_n7, iv_n6, iv_n4, iv_n2] at a5
  exact ⟨a1, a2, a3, a4, a5, h⟩
set_option maxRecDepth 100000 in
theorem ss_ald (X : iv_Cx sc mi d p l R s m args meth c D cI cB cJ b ws0) {kd : Nat} (hkd : (kd = 1 ∧ decode (pm_b mi) pc = .ok (.iaload, 1)) ∨ (kd = 2 ∧ decode (pm_b mi) pc = .ok (.baload, 1))) (hn : np = pc + 1) (hI : iv_IH ih d mi out p l e R s m args below meth c D cI cB cJ b ws0) (h : iv_oAld sc kd ih (d, mi, c0, s0) (pg_c mi) np lo st L = some out) : iv_G mi out p l e R s m args below meth c D cI cB cJ b ws0 c0 s0 pc lo st L := by
  intro ws H locs ls sv hS hc hs
  obtain ⟨hW, hL, hK, hP, hD, hA, hX⟩ := hS
  obtain ⟨hx, hb, hml, hown, hts, hE, -⟩ := X
  subst hn
  obtain ⟨i, st1, rfl, h⟩ := iv_l1 h
  obtain ⟨r, st', rfl, h⟩ := iv_l1 h
  obtain ⟨h0, h⟩ := iv_b1 h
  rw [iv_n7] at h0
  obtain ⟨Vi, sv1, rfl, r1, hK1⟩ := iv_stk_cons hK
  obtain ⟨Vr, sv', rfl, r2, hQ⟩ := iv_stk_cons hK1
  obtain ⟨j, rfl, hj⟩ := iv_rel_int (by omega) r1
  unfold iv_in at hj
  have key : (18446744073709551616 ≤ r ∧ r ≤ 18446744078004518912 ∧ iv_hg L (Nat.sub r 18446744073709551616) (fun q => (@Bool.rec (fun _ => iv_R) none (iv_at q.2.2 q.2.1 i fun v => ih (d, mi, c0, s0) (pg_c mi) (pc + 1) lo (v :: st') L) (Nat.beq q.1 kd))) = some out) ∨ (r = 55340232221128654849 ∧ kd = 1 ∧ 2147483648 ≤ i % 4294967296 ∧ i % 4294967296 = i / 4294967296 ∧ i % 4294967296 - 2147483648 < sc.1 ∧ ih (d, mi, c0, s0) (pg_c mi) (pc + 1) lo (iv_gt sc.2 (i % 4294967296 - 2147483648) :: st') L = some out) := by
    rcases iv_b2 h with ⟨a1, h⟩ | ⟨-, h⟩
    · rcases iv_b2 h with ⟨a2, h⟩ | ⟨-, h⟩
      · rw [iv_n7] at a1 a2
        exact Or.inl ⟨a1, a2, h⟩
      · exact Or.inr (iv_scl_some h)
    · exact Or.inr (iv_scl_some h)
  rcases key with ⟨h1, h2, h⟩ | ⟨hr0, hk0, k1, k2, k3, h⟩
  · obtain ⟨q, h3, h⟩ := iv_hg_some h
    rw [iv_n4] at h3
    obtain ⟨h4, h⟩ := iv_b1 h
    rw [iv_n8] at h4
    obtain ⟨a, r3, rfl⟩ := iv_rel_ref h1 h2 r2
    obtain ⟨ev, r4, r5⟩ := iv_W_at hW h3 r3
    obtain ⟨h7, h⟩ := iv_b1 h
    obtain ⟨h8, h⟩ := iv_b1 h
    obtain ⟨h9, h⟩ := iv_b1 h
    rw [iv_f_eq] at h
    rw [iv_n7, iv_n2] at h7
    rw [iv_n7, iv_n1, iv_n2] at h8
    rw [iv_n7, iv_n6, iv_n4, iv_n1] at h9
    simp only [iv_n1, iv_n2, iv_n4] at h
    obtain ⟨hin, hc1, hc2, hc3⟩ := iv_ridx hj.1 hj.2 h7 h8 h9
    rcases hkd with ⟨hk0, hd⟩ | ⟨hk0, hd⟩
    · rcases r5 with ⟨t, -⟩ | ⟨-, f, rfl, t2⟩ | ⟨t, -⟩ | ⟨t, -⟩
      · omega
      · obtain ⟨u1, u2⟩ := iv_rng_ok (f := f) (cts := q.2.2) (k := i % 4294967296 - 2147483648) (i / 4294967296 - i % 4294967296) (fun y y1 y2 => t2 y (hc3 y y1 y2))
        refine va_iald hx hb hE.1 hP (r - 18446744073709551616) 0 r4 rfl hin hd ?_
        have u3 := u2 j.toNatClampNeg hc1 hc2
        exact hI _ _ _ _ _ _ h ws H locs ls _ ⟨hW, hL, ⟨iv_rel_i u1 u3, hQ⟩, hP, hD, hA, hX⟩ hc hs
      · omega
      · omega
    · rcases r5 with ⟨t, -⟩ | ⟨t, -⟩ | ⟨-, f, rfl, t2⟩ | ⟨t, -⟩
      · omega
      · omega
      · obtain ⟨u1, u2⟩ := iv_rng_ok (f := f) (cts := q.2.2) (k := i % 4294967296 - 2147483648) (i / 4294967296 - i % 4294967296) (fun y y1 y2 => t2 y (hc3 y y1 y2))
        refine va_bald hx hb hE.1 hP (r - 18446744073709551616) 1 r4 rfl hin hd ?_
        have u3 := u2 j.toNatClampNeg hc1 hc2
        exact hI _ _ _ _ _ _ h ws H locs ls _ ⟨hW, hL, ⟨iv_rel_i u1 u3, hQ⟩, hP, hD, hA, hX⟩ hc hs
      · omega
  · rw [hr0] at r2
    obtain rfl := iv_rel_sc r2
    rcases hkd with ⟨-, hd⟩ | ⟨hd, -⟩
    · obtain ⟨hin, e1⟩ := iv_cidx hj.1 hj.2 k1 k2 k3
      rcases hE.2.2.2.2.2.2.1 with z | ⟨xs, x1, x2, x3, x4⟩
      · omega
      · refine va_sld hx hb x1 x2 x3 hA hin hd ?_
        have y := x4 (i % 4294967296 - 2147483648) k3
        rw [e1]
        exact hI _ _ _ _ _ _ h ws H locs ls _ ⟨hW, hL, ⟨iv_rel_mono (fun _ _ z => by cases z) y, hQ⟩, hP, hD, hA, hX⟩ hc hs
    · omega
end OPS
