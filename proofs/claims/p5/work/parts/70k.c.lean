/-! ===== copies, calls by the receiver's class, throws ===== -/
def iw_stc (L : iv_H) (k : Nat) (x : iv_C) : iv_H := (L.1, L.2.set (k / 8) ((L.2[k / 8]?.getD []).set (k % 8) x))
theorem iw_hs2 {L : iv_H} {k : Nat} {x q0 : iv_C} {K : iv_H → iv_R} (h : iv_hk L k = some q0) : iv_hs L k x K = K (iw_stc L k x) := by
  unfold iv_hk at h
  cases hg : L.2[k / 8]? with
  | none => rw [hg] at h; cases h
  | some g =>
    rw [hg] at h
    have h : g[k % 8]? = some q0 := h
    unfold iv_hs
    show iv_nth L.2 (k / 8) (fun g => iv_set g (k % 8) x fun g' => iv_set L.2 (k / 8) g' fun G => K (L.1, G)) = _
    rw [iw_nth _ _ _ g hg, iw_set _ _ _ _ (List.getElem?_eq_some_iff.mp h).1, iw_set _ _ _ _ (List.getElem?_eq_some_iff.mp hg).1]
    unfold iw_stc
    rw [hg]
    rfl
theorem iw_stc_hk {L : iv_H} {k : Nat} {x q0 : iv_C} (h : iv_hk L k = some q0) : iv_hk (iw_stc L k x) k = some x ∧ ∀ j, j ≠ k → iv_hk (iw_stc L k x) j = iv_hk L j := by
  have e := iw_hs2 (x := x) (K := fun z => some (0, z)) h
  obtain ⟨L', h1, -, h3, h4⟩ := iv_hs_some e
  have h1 : some (0, L') = some (0, iw_stc L k x) := h1
  cases h1
  exact ⟨h3, h4⟩
/-- the table with the first N of cell r in cell q -/
def x_cp (h : xh) (q r N : Nat) : xh := fun k i => if k = q ∧ i < N then h r i else h k i
section XC
variable {sc : Nat × Nat} {mi d c0 s0 pc np x a z v : Nat} {lo lo' st : List Nat} {h : xh} {Q : Nat → xh → Prop}
theorem iw_copy {out : Nat × iv_H} {L : iv_H} {q r N nq nr cq cr n8 : Nat} (hw : iv_wd mi pc = 12 + 256 * np + 16777216 * 2097152) (hn : np < 65536) (hc : pg_c mi ≠ 0) (hr : r ≤ 4294967296) (hq : q ≤ 4294967296) (hR : iv_hk L r = some (1, nr, cr)) (hQ : iv_hk L q = some (1, nq, cq)) (h1 : N ≤ nr) (h2 : N ≤ nq) (hN : N < 2147483648) (h8 : iv_wl st ≤ n8) (h9 : n8 ≤ 8) (k : iw_all sc mi d out c0 s0 np lo st (iw_stc L q (1, nq, Nat.xor cq (Nat.mod (Nat.xor cq cr) (Nat.pow 2 (Nat.mul 72 N)))))) : iw_all sc mi d out c0 s0 pc lo (iv_c (2147483648 + N) :: iv_c 2147483648 :: x_r q :: iv_c 2147483648 :: x_r r :: st) L := by
  refine iw_op (g := fun _ => out) iw_nil hw ⟨by decide, hn⟩ ?_
  show iv_copy (iw_ih sc (fun _ => out)) (d, mi, c0, s0) (pg_c mi) np lo (iv_c (2147483648 + N) :: iv_c 2147483648 :: x_r q :: iv_c 2147483648 :: x_r r :: st) L = some out
  obtain ⟨n0, n1, n2⟩ := iw_c_lt (a := 2147483648 + N) (by omega)
  unfold iv_copy
  show (@Bool.rec (fun _ => iv_R) none _ (Nat.beq (iv_c 2147483648) 9223372039002259456)) = some out
  have e1 : Nat.mod (iv_c (2147483648 + N)) 4294967296 = 2147483648 + N := n1
  have e2 : Nat.div (iv_c (2147483648 + N)) 4294967296 = 2147483648 + N := n2
  have e3 : Nat.sub (2147483648 + N) 2147483648 = N := Nat.add_sub_cancel_left _ _
  have e4 : Nat.sub (x_r q) 18446744073709551616 = q := Nat.add_sub_cancel_left _ _
  have e5 : Nat.sub (x_r r) 18446744073709551616 = r := Nat.add_sub_cancel_left _ _
  have f1 : Nat.ble 18446744073709551616 (x_r q) = true := by rw [iv_n7]; exact Nat.le_add_right _ _
  have f2 : Nat.ble (x_r q) 18446744078004518912 = true := by rw [iv_n7]; exact Nat.add_le_add_left hq 18446744073709551616
  have f3 : Nat.ble 18446744073709551616 (x_r r) = true := by rw [iv_n7]; exact Nat.le_add_right _ _
  have f4 : Nat.ble (x_r r) 18446744078004518912 = true := by rw [iv_n7]; exact Nat.add_le_add_left hr 18446744073709551616
  have f5 : Nat.ble (iv_wl st) 8 = true := by rw [iv_n7]; exact Nat.le_trans h8 h9
  have f6 : Nat.ble (iv_c (2147483648 + N)) 18446744073709551615 = true := by rw [iv_n7]; omega
  have f7 : Nat.beq (2147483648 + N) (2147483648 + N) = true := by rw [iv_n8]
  have f8 : Nat.ble 2147483648 (2147483648 + N) = true := by rw [iv_n7]; exact Nat.le_add_right _ _
  have f9 : Nat.beq (iv_c 2147483648) 9223372039002259456 = true := by decide +kernel
  rw [e1, e2, e3, e4, e5, f1, f2, f3, f4, f5, f6, f7, f8, f9]
  show iv_f N (fun N => iv_hg L r fun a => iv_hg L q fun b => _) = some out
  rw [iv_f_eq, iw_hg hR, iw_hg hQ]
  have g1 : Nat.ble N nr = true := by rw [iv_n7]; exact h1
  have g2 : Nat.ble N nq = true := by rw [iv_n7]; exact h2
  have g3 : Nat.beq 1 1 = true := rfl
  show (@Bool.rec (fun _ => iv_R) none (@Bool.rec (fun _ => iv_R) none (@Bool.rec (fun _ => iv_R) none (@Bool.rec (fun _ => iv_R) none _ (Nat.ble N nq)) (Nat.ble N nr)) (Nat.beq 1 1)) (Nat.beq 1 1)) = some out
  rw [g1, g2, g3]
  show iv_f (Nat.xor cq (Nat.mod (Nat.xor cq cr) (Nat.pow 2 (Nat.mul 72 N)))) (fun cts => iv_hs L q (1, nq, cts) fun L => iw_ih sc (fun _ => out) (d, mi, c0, s0) (pg_c mi) np lo st L) = some out
  rw [iv_f_eq, iw_hs2 hQ]
  exact iw_ih_of rfl hc k
theorem xR_cp {L : iv_H} {q r N cq cr : Nat} (hL : xR h L) (hr : r < x_nc) (hq : q < x_nc) (kr : x_kd r = 1) (kq : x_kd q = 1) (mr : x_mk r = 0) (mq : x_mk q = 0) (hR : iv_hk L r = some (1, x_ln r, cr)) (hQ : iv_hk L q = some (1, x_ln q, cq)) (h1 : N ≤ x_ln r) (h2 : N ≤ x_ln q) : xR (x_cp h q r N) (iw_stc L q (1, x_ln q, Nat.xor cq (Nat.mod (Nat.xor cq cr) (Nat.pow 2 (Nat.mul 72 N))))) := by
  obtain ⟨p1, p2⟩ := iw_stc_hk (x := (1, x_ln q, Nat.xor cq (Nat.mod (Nat.xor cq cr) (Nat.pow 2 (Nat.mul 72 N))))) hQ
  have tyr : ∀ i, x_ty r i = 0 := fun i => by unfold x_ty; rw [kr, mr]; rfl
  have tyq : ∀ i, x_ty q i = 0 := fun i => by unfold x_ty; rw [kq, mq]; rfl
  intro j hj
  obtain ⟨a, b⟩ := hL j hj
  by_cases e : j = q
  · subst e
    refine ⟨⟨_, by rw [p1, kq]⟩, fun i hi => ?_⟩
    have gq := b i hi
    have e1 : iw_get (iw_stc L j (1, x_ln j, Nat.xor cq (Nat.mod (Nat.xor cq cr) (Nat.pow 2 (Nat.mul 72 N))))) j i = if i < N then iv_gt cr i else iv_gt cq i := by
      unfold iw_get
      rw [p1]
      exact iv_cpy_gt cq cr N i
    have e2 : iw_get L j i = iv_gt cq i := by unfold iw_get; rw [hQ]; rfl
    have e3 : iw_get L r i = iv_gt cr i := by unfold iw_get; rw [hR]; rfl
    rw [e1]
    unfold x_cp
    by_cases g : i < N
    · rw [if_pos g, if_pos ⟨rfl, g⟩, ← e3, tyq]
      have gr := (hL r hr).2 i (Nat.lt_of_lt_of_le g h1)
      rw [tyr] at gr
      exact gr
    · rw [if_neg g, if_neg (fun z => g z.2), ← e2]
      exact gq
  · obtain ⟨c, hc⟩ := a
    refine ⟨⟨c, by rw [p2 j e]; exact hc⟩, fun i hi => ?_⟩
    have e1 : iw_get (iw_stc L q (1, x_ln q, Nat.xor cq (Nat.mod (Nat.xor cq cr) (Nat.pow 2 (Nat.mul 72 N))))) j i = iw_get L j i := by
      unfold iw_get
      rw [p2 j e]
    rw [e1]
    unfold x_cp
    rw [if_neg (fun z => e z.1)]
    exact b i hi
theorem x_copy {q r N nq nr n8 : Nat} (w : wd mi pc 12 np 2097152) (gr : x_a r 1 nr = true) (gq : x_a q 1 nq = true) (hz : z = 2147483648 + N) (h1 : N ≤ nr) (h2 : N ≤ nq) (hN : N < 2147483648) (h8 : iv_wl st ≤ n8) (h9 : n8 ≤ 8) (k : X sc mi d Q c0 s0 np lo st (x_cp h q r N)) : X sc mi d Q c0 s0 pc lo (iv_c z :: iv_c 2147483648 :: x_r q :: iv_c 2147483648 :: x_r r :: st) h := fun L hL => by
  subst hz
  obtain ⟨r1, r2, r3, r4⟩ := x_a_of gr
  obtain ⟨q1, q2, q3, q4⟩ := x_a_of gq
  obtain ⟨cr, hR⟩ := (hL r r1).1
  obtain ⟨cq, hQ⟩ := (hL q q1).1
  rw [r2] at hR
  rw [q2] at hQ
  obtain ⟨v, b, c, e, f, g⟩ := k _ (xR_cp hL r1 q1 r2 q2 r4 q4 hR hQ (by rw [r3]; exact h1) (by rw [q3]; exact h2))
  exact ⟨v, b, c, e, f, iw_copy w.1 w.2 (wd_ne w (by decide)) (x_nc_le r1) (x_nc_le q1) hR hQ (by rw [r3]; exact h1) (by rw [q3]; exact h2) hN h8 h9 g⟩
/-- the bounds of r's first N are within those of q's -/
def x_bw (q r N : Nat) : Bool := @Nat.rec (fun _ => Bool) true (fun i ih => Nat.ble (j_lo q i) (j_lo r i) && (Nat.ble (j_hi r i) (j_hi q i) && ih)) N
theorem x_bw_of {q r : Nat} : ∀ {N : Nat}, x_bw q r N = true → ∀ i, i < N → j_lo q i ≤ j_lo r i ∧ j_hi r i ≤ j_hi q i
  | 0, _, i, hi => absurd hi (Nat.not_lt_zero _)
  | N + 1, h, i, hi => by
    have h : (Nat.ble (j_lo q N) (j_lo r N) && (Nat.ble (j_hi r N) (j_hi q N) && x_bw q r N)) = true := h
    rw [Bool.and_eq_true, Bool.and_eq_true] at h
    rcases Nat.lt_or_ge i N with g | g
    · exact x_bw_of h.2.2 i g
    · have e : i = N := by omega
      subst e
      exact ⟨Nat.le_of_ble_eq_true h.1, Nat.le_of_ble_eq_true h.2.1⟩
/-- cell q is no cell of a reference that changes -/
def x_nq (q : Nat) : Bool := !(Nat.beq q 0) && (!(Nat.beq q 45) && (!(Nat.beq q 61) && (!(Nat.beq q 63) && (!(Nat.beq q 69) && !(Nat.beq q 62)))))
theorem x_nq_of {q : Nat} (g : x_nq q = true) : q ≠ 0 ∧ q ≠ 45 ∧ q ≠ 61 ∧ q ≠ 63 ∧ q ≠ 69 ∧ q ≠ 62 := by
  unfold x_nq at g
  rw [Bool.and_eq_true, Bool.and_eq_true, Bool.and_eq_true, Bool.and_eq_true, Bool.and_eq_true] at g
  obtain ⟨g1, g2, g3, g4, g5, g6⟩ := g
  refine ⟨?_, ?_, ?_, ?_, ?_, ?_⟩ <;> (rintro rfl; contradiction)
theorem J_cp {q r N : Nat} (hJ : J h) (hr : r < x_nc) (h1 : N ≤ x_ln r) (hb : x_bw q r N = true) (hn : x_nq q = true) : J (x_cp h q r N) := by
  refine ⟨fun k i hk hi => ?_, ?_⟩
  · unfold x_cp
    by_cases e : k = q ∧ i < N
    · rw [if_pos e]
      obtain ⟨rfl, e⟩ := e
      obtain ⟨b1, b2⟩ := x_bw_of hb i e
      obtain ⟨c1, c2⟩ := hJ.1 r i hr (Nat.lt_of_lt_of_le e h1)
      exact ⟨Nat.le_trans b1 c1, Nat.le_trans c2 b2⟩
    · rw [if_neg e]
      exact hJ.1 k i hk hi
  · obtain ⟨n1, n2, n3, n4, n5, n6⟩ := x_nq_of hn
    have key : ∀ k' i', k' ≠ q → x_cp h q r N k' i' = h k' i' := fun k' i' n => if_neg (fun z => n z.1)
    obtain ⟨t1, t2, t3, t4, t5, t6, t7⟩ := hJ.2
    refine ⟨?_, ?_, ?_, ?_, ?_, ?_, ?_⟩
    · rw [key _ _ (Ne.symm n1)]; exact t1
    · rw [key _ _ (Ne.symm n1)]; exact t2
    · rw [key _ _ (Ne.symm n2)]; exact t3
    · rw [key _ _ (Ne.symm n3)]; exact t4
    · rw [key _ _ (Ne.symm n4)]; exact t5
    · rw [key _ _ (Ne.symm n5)]; exact t6
    · rw [key _ _ (Ne.symm n6)]; exact t7
theorem Fr_cp {M q r N : Nat} {h0 : xh} (f : Fr M h0 h) (hg : ∀ i, i < N → Nat.testBit M (x_gr q i) = true) : Fr M h0 (x_cp h q r N) := fun k i n => by
  unfold x_cp
  rw [if_neg (fun z => by
    obtain ⟨rfl, z⟩ := z
    rw [hg i z] at n
    cases n)]
  exact f k i n
/-- a call by the receiver's class -/
theorem x_virt {mj r kk cls ml nr : Nat} {rest lo1 : List Nat} {Q' : Nat → xh → Prop} (w : wd mi pc 12 np x) (hx5 : x / 1048576 % 16 = 5) (hx4 : x % 4096 = kk) (hr : r < x_nc) (hkd : x_kd r = 4 * cls) (hv : pg_v cls kk = mj) (hj : mj ≤ 3999) (hs : iv_sub2 cls cls = true) (g : x_cb mi mj 1 ml 0 0 c0 s0 = true) (hwr : iv_wl rest ≤ nr) (h8 : nr ≤ 8) (hl : lo1 = x_r r :: List.replicate (ml - 1) 147573952589676412928)
    (k : X sc mj d Q' 0 0 0 lo1 [] h)
    (k2 : ∀ v h', Q' v h' → (v < 147573952589676412928 ∧ X sc mi (d + 1) Q c0 s0 np lo (v :: rest) h') ∨ (v = 147573952589676412928 ∧ X sc mi (d + 1) Q c0 s0 np lo rest h')) :
    X sc mi (d + 1) Q c0 s0 pc lo (x_r r :: rest) h := fun L hL => by
  obtain ⟨v, L', h', e, q, g9⟩ := k L hL
  obtain ⟨p1, p2, p3, p4, p5, p6, p7, p8, p9⟩ := x_cb_of g
  subst hl
  subst p1
  obtain ⟨cr, hR⟩ := (hL r hr).1
  rw [hkd] at hR
  have hdiv : 4 * cls / 4 = cls := Nat.mul_div_cancel_left _ (by decide)
  have hok : iw_ok mi mj 1 (cls + 1) c0 s0 [x_r r] rest L := ⟨rfl, Or.inr ⟨r, [], 4 * cls, x_ln r, rfl, x_nc_le hr, ⟨cr, hR⟩, Nat.mul_mod_right 4 cls, by rw [hdiv, Nat.add_sub_cancel]; exact hs⟩, Nat.le_trans hwr h8, x_wr hr x_wn, by rw [p2]; exact p4, by rw [p3]; exact p5, p6, p9⟩
  have go : ∀ out, iw_af sc mi (d + 1) out (v, L') 1 (c0 + (pg_i mj).2.2.1) (s0 + (pg_i mj).2.2.2) pc np lo rest → iw_all sc mi (d + 1) out c0 s0 pc lo (x_r r :: rest) L := fun out z => by
    refine iw_op (g := fun m => if m = d + 1 then out else (v, L')) iw_nil w.1 ⟨by decide, w.2⟩ ?_
    show iv_oInv [] (iw_ih sc (fun m => if m = d + 1 then out else (v, L'))) (d + 1, mi, c0, s0) (pg_c mi) pc x np lo (x_r r :: rest) L = some out
    have e1 : Nat.mod (Nat.div x 1048576) 16 = 5 := hx5
    have e2 : Nat.mod x 4096 = kk := hx4
    unfold iv_oInv
    rw [e1, e2]
    show (@Bool.rec (fun _ => iv_R) none (@Bool.rec (fun _ => iv_R) none (iv_hg L (Nat.sub (x_r r) 18446744073709551616) fun q => iv_f (pg_v (Nat.div q.1 4) kk) fun mj => @Bool.rec (fun _ => iv_R) none (iv_call [] (iw_ih sc (fun m => if m = d + 1 then out else (v, L'))) (d + 1, mi, c0, s0) (pg_c mi) pc np 1 (Nat.succ (Nat.div q.1 4)) mj 1 lo (x_r r :: rest) L) (Nat.ble mj 3999)) (Nat.ble (x_r r) 18446744078004518912)) (Nat.ble 18446744073709551616 (x_r r))) = some out
    have e5 : Nat.sub (x_r r) 18446744073709551616 = r := Nat.add_sub_cancel_left _ _
    have f3 : Nat.ble 18446744073709551616 (x_r r) = true := by rw [iv_n7]; exact Nat.le_add_right _ _
    have f4 : Nat.ble (x_r r) 18446744078004518912 = true := by rw [iv_n7]; exact Nat.add_le_add_left (x_nc_le hr) 18446744073709551616
    have f5 : Nat.ble mj 3999 = true := by rw [iv_n7]; exact hj
    rw [e5, f3, f4]
    show iv_hg L r _ = some out
    rw [iw_hg hR]
    have e6 : Nat.div (4 * cls) 4 = cls := hdiv
    show iv_f (pg_v (Nat.div (4 * cls) 4) kk) _ = some out
    rw [e6, hv, iv_f_eq, f5]
    exact iw_call2 (as := [x_r r]) hok g9 (iw_back2 (wd_ne w (by decide)) z)
  rcases k2 v h' q with ⟨a1, a2⟩ | ⟨a1, a2⟩
  · obtain ⟨r9, L2, h2, b1, b2, b3⟩ := a2 L' e
    refine ⟨r9, L2, h2, b1, b2, go _ (Or.inl ⟨a1, ?_⟩)⟩
    rw [p2, p3]
    exact b3
  · obtain ⟨r9, L2, h2, b1, b2, b3⟩ := a2 L' e
    refine ⟨r9, L2, h2, b1, b2, go _ (Or.inr (Or.inl ⟨a1, ?_⟩))⟩
    rw [p2, p3]
    exact b3
/-- ends with a throw -/
def xT (P : Nat → xh → Prop) (PE : Nat → xh → Prop) : Nat → xh → Prop := fun v h' => (∃ r, v = iv_c r ∧ r < 4294967296 ∧ P r h') ∨ (∃ E, v = 166020696663385964544 + E ∧ PE E h')
def xU (P : xh → Prop) (PE : Nat → xh → Prop) : Nat → xh → Prop := fun v h' => (v = 147573952589676412928 ∧ P h') ∨ (∃ E, v = 166020696663385964544 + E ∧ PE E h')
/-- a call that is gone into, and may throw -/
theorem x_nU {t mj n rc ml cc ss nr : Nat} {as rest lo1 : List Nat} (w : wd mi pc 12 np (mj + 4096 * n + 1048576 * t + 16777216 * rc)) (ht : t = 6 ∨ (t = 0 ∧ rc = 0)) (g : x_cb mi mj n ml cc ss c0 s0 = true) (hh : pg_h mi = []) (hrc : x_rc rc as) (hst : st = as.reverse ++ rest) (hn : as.length = n) (hwa : iv_wl as ≤ n) (hwr : iv_wl rest ≤ nr) (h8 : nr ≤ 8) (hl : lo1 = as ++ List.replicate (ml - n) 147573952589676412928)
    (k : X sc mj d (xU (fun h' => X sc mi (d + 1) Q (c0 + cc) (s0 + ss) np lo rest h') (fun E h' => Q (166020696663385964544 + E) h')) 0 0 0 lo1 [] h) : X sc mi (d + 1) Q c0 s0 pc lo st h :=
  x_call w (by rcases ht with rfl | ⟨rfl, r0⟩; exact Or.inl rfl; exact Or.inr (Or.inr (Or.inl ⟨rfl, r0⟩))) g hrc hst hn hwa hwr h8 hl k (fun v h' q => by
    rcases q with ⟨q1, q2⟩ | ⟨E, q1, q2⟩
    · exact Or.inr (Or.inl ⟨q1, q2⟩)
    · refine Or.inr (Or.inr (Or.inl ⟨by rw [q1]; omega, by rcases ht with rfl | ⟨rfl, -⟩; exact Or.inl rfl; exact Or.inr rfl, hh, ?_⟩))
      rw [q1]
      exact q2)
end XC
