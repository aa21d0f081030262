/-! ===== the rules ===== -/
theorem iw_bt {c : Bool} {t : iv_R} (h : c = true) : @Bool.rec (fun _ => iv_R) none t c = t := by subst h; rfl
theorem iw_nth {α β : Type} : ∀ (l : List α) (k : Nat) (K : α → Option β) (a : α), l[k]? = some a → iv_nth l k K = K a
  | [], _, _, _, h => by cases h
  | a :: l, 0, K, b, h => by cases h; rfl
  | a :: l, k + 1, K, b, h => by
    rw [List.getElem?_cons_succ] at h
    exact iw_nth l k K b h
theorem iw_set {α β : Type} : ∀ (l : List α) (k : Nat) (v : α) (K : List α → Option β), k < l.length → iv_set l k v K = K (l.set k v)
  | [], _, _, _, h => absurd h (Nat.not_lt_zero _)
  | a :: l, 0, v, K, h => rfl
  | a :: l, k + 1, v, K, h => iw_set l k v (fun t' => K (a :: t')) (Nat.lt_of_succ_lt_succ h)
theorem iw_hg {L : iv_H} {k : Nat} {K : iv_C → iv_R} {q : iv_C} (h : iv_hk L k = some q) : iv_hg L k K = K q := by
  unfold iv_hk at h
  cases hg : L.2[k / 8]? with
  | none => rw [hg] at h; cases h
  | some g =>
    rw [hg] at h
    have h : g[k % 8]? = some q := h
    unfold iv_hg
    show iv_nth L.2 (k / 8) (fun g => iv_nth g (k % 8) K) = _
    rw [iw_nth _ _ _ g hg, iw_nth _ _ _ q h]
/-- the heap with v at place i of cell k -/
def iw_put (L : iv_H) (k i v : Nat) : iv_H := (L.1, L.2.set (k / 8) ((L.2[k / 8]?.getD []).set (k % 8) (((iv_hk L k).getD (0, 0, 0)).1, ((iv_hk L k).getD (0, 0, 0)).2.1, iv_st ((iv_hk L k).getD (0, 0, 0)).2.2 i v)))
def iw_get (L : iv_H) (k i : Nat) : Nat := iv_gt ((iv_hk L k).getD (0, 0, 0)).2.2 i
/-- cell k is of the kind and of n places -/
def iw_is (L : iv_H) (k kd n : Nat) : Prop := ∃ c, iv_hk L k = some (kd, n, c)
theorem iw_hs {L : iv_H} {k i v kd n : Nat} {c : Nat} {K : iv_H → iv_R} (h : iv_hk L k = some (kd, n, c)) : iv_hs L k (kd, n, iv_st c i v) K = K (iw_put L k i v) := by
  have h0 := h
  unfold iv_hk at h
  cases hg : L.2[k / 8]? with
  | none => rw [hg] at h; cases h
  | some g =>
    rw [hg] at h
    have h : g[k % 8]? = some (kd, n, c) := h
    unfold iv_hs
    show iv_nth L.2 (k / 8) (fun g => iv_set g (k % 8) (kd, n, iv_st c i v) fun g' => iv_set L.2 (k / 8) g' fun G => K (L.1, G)) = _
    rw [iw_nth _ _ _ g hg, iw_set _ _ _ _ (List.getElem?_eq_some_iff.mp h).1, iw_set _ _ _ _ (List.getElem?_eq_some_iff.mp hg).1]
    unfold iw_put
    rw [h0, hg]
    rfl
theorem iw_put_hk {L : iv_H} {k i v kd n c : Nat} (h : iv_hk L k = some (kd, n, c)) : iv_hk (iw_put L k i v) k = some (kd, n, iv_st c i v) ∧ ∀ j, j ≠ k → iv_hk (iw_put L k i v) j = iv_hk L j := by
  have e := iw_hs (i := i) (v := v) (K := fun z => some (0, z)) h
  obtain ⟨L', h1, -, h3, h4⟩ := iv_hs_some e
  have h1 : some (0, L') = some (0, iw_put L k i v) := h1
  cases h1
  exact ⟨h3, h4⟩
theorem iw_is_put {L : iv_H} {k i v kd n j kj nj : Nat} (h : iw_is L k kd n) (g : iw_is L j kj nj) : iw_is (iw_put L k i v) j kj nj := by
  obtain ⟨c, h⟩ := h
  obtain ⟨c', g⟩ := g
  by_cases e : j = k
  · subst e
    rw [h] at g
    cases g
    exact ⟨_, (iw_put_hk h).1⟩
  · exact ⟨c', by rw [(iw_put_hk h).2 j e]; exact g⟩
theorem iw_get_put {L : iv_H} {k i v kd n : Nat} (h : iw_is L k kd n) (hv : v < 4722366482869645213696) (j i' : Nat) : iw_get (iw_put L k i v) j i' = if j = k ∧ i' = i then v else iw_get L j i' := by
  obtain ⟨c, h⟩ := h
  unfold iw_get
  by_cases e : j = k
  · subst e
    rw [(iw_put_hk h).1, h]
    show iv_gt (iv_st c i v) i' = if j = j ∧ i' = i then v else iv_gt c i'
    by_cases e2 : i' = i
    · subst e2
      rw [if_pos ⟨rfl, rfl⟩]
      exact iv_gt_st hv
    · rw [if_neg (fun z => e2 z.2)]
      exact iv_gt_st_ne hv e2
  · rw [(iw_put_hk h).2 j e, if_neg (fun z => e z.1)]
section IW
variable {sc : Nat × Nat} {SM : iv_S} {out : Nat × iv_H} {d mi c0 s0 pc np x v a z : Nat} {lo st : List Nat} {L : iv_H}
theorem iw_op {op : Nat} {g : Nat → Nat × iv_H} (hSM : ∀ q ∈ SM, iv_Tri sc 12 q.1 q.2.1 q.2.2.1 q.2.2.2) (hw : iv_wd mi pc = op + 256 * np + 16777216 * x) (ho : op < 256 ∧ np < 65536) (h : iv_op sc SM (iw_ih sc g) (d, mi, c0, s0) (pg_c mi) pc x np op lo st L = some out) : iw_all sc mi d out c0 s0 pc lo st L := by
  refine iw_step (g := g) hSM ?_
  unfold iv_step
  rw [iv_f_eq]
  show iv_op sc SM (iw_ih sc g) (d, mi, c0, s0) (pg_c mi) pc (Nat.div (iv_wd mi pc) 16777216) (Nat.mod (Nat.div (iv_wd mi pc) 256) 65536) (Nat.mod (iv_wd mi pc) 256) lo st L = some out
  have e1 : Nat.div (iv_wd mi pc) 16777216 = x := by
    show iv_wd mi pc / 16777216 = x
    omega
  have e2 : Nat.mod (Nat.div (iv_wd mi pc) 256) 65536 = np := by
    show iv_wd mi pc / 256 % 65536 = np
    omega
  have e3 : Nat.mod (iv_wd mi pc) 256 = op := by
    show iv_wd mi pc % 256 = op
    omega
  rw [e1, e2, e3]
  exact h
theorem iw_nil {sc : Nat × Nat} : ∀ q ∈ ([] : iv_S), iv_Tri sc 12 q.1 q.2.1 q.2.2.1 q.2.2.2 := fun q hq => nomatch hq
theorem iw_iload (hw : iv_wd mi pc = 3 + 256 * np + 16777216 * x) (hn : np < 65536) (hc : pg_c mi ≠ 0) (hx : lo[x]? = some v) (hv : v < 18446744073709551616) (k : iw_all sc mi d out c0 s0 np lo (v :: st) L) : iw_all sc mi d out c0 s0 pc lo st L := by
  refine iw_op (g := fun _ => out) iw_nil hw ⟨by decide, hn⟩ ?_
  show iv_oIload (iw_ih sc (fun _ => out)) (d, mi, c0, s0) (pg_c mi) x np lo st L = some out
  unfold iv_oIload
  rw [iw_nth _ _ _ v hx, iw_bt (by rw [iv_n7]; omega)]
  exact iw_ih_of rfl hc k
theorem iw_aload (hw : iv_wd mi pc = 1 + 256 * np + 16777216 * x) (hn : np < 65536) (hc : pg_c mi ≠ 0) (hx : lo[x]? = some v) (h1 : 18446744073709551616 ≤ v) (h2 : v ≤ 18446744078004518912) (k : iw_all sc mi d out c0 s0 np lo (v :: st) L) : iw_all sc mi d out c0 s0 pc lo st L := by
  refine iw_op (g := fun _ => out) iw_nil hw ⟨by decide, hn⟩ ?_
  show iv_oAload (iw_ih sc (fun _ => out)) (d, mi, c0, s0) (pg_c mi) x np lo st L = some out
  unfold iv_oAload
  rw [iw_nth _ _ _ v hx, iw_bt (by rw [iv_n7]; omega)]
  have e : Nat.ble v 18446744078004518912 = true := by rw [iv_n7]; omega
  rw [e]
  exact iw_ih_of rfl hc k
theorem iw_const (hw : iv_wd mi pc = 4 + 256 * np + 16777216 * x) (hn : np < 65536) (hc : pg_c mi ≠ 0) (hx : x < 18446744073709551616) (k : iw_all sc mi d out c0 s0 np lo (x :: st) L) : iw_all sc mi d out c0 s0 pc lo st L := by
  refine iw_op (g := fun _ => out) iw_nil hw ⟨by decide, hn⟩ ?_
  show iv_oConst (iw_ih sc (fun _ => out)) (d, mi, c0, s0) (pg_c mi) x np lo st L = some out
  unfold iv_oConst
  rw [iw_bt (by rw [iv_n7]; omega), iv_f_eq]
  exact iw_ih_of rfl hc k
theorem iw_istore (hw : iv_wd mi pc = 13 + 256 * np + 16777216 * x) (hn : np < 65536) (hc : pg_c mi ≠ 0) (hv : v < 18446744073709551616) (hx : x < lo.length) (k : iw_all sc mi d out c0 s0 np (lo.set x v) st L) : iw_all sc mi d out c0 s0 pc lo (v :: st) L := by
  refine iw_op (g := fun _ => out) iw_nil hw ⟨by decide, hn⟩ ?_
  show iv_oIstore (iw_ih sc (fun _ => out)) (d, mi, c0, s0) (pg_c mi) x np lo (v :: st) L = some out
  unfold iv_oIstore
  show (@Bool.rec (fun _ => iv_R) none _ (Nat.ble v 18446744073709551615)) = some out
  rw [iw_bt (by rw [iv_n7]; omega), iv_f_eq, iw_set _ _ _ _ hx]
  exact iw_ih_of rfl hc k
theorem iw_goto (hw : iv_wd mi pc = 7 + 256 * np + 16777216 * x) (hn : np < 65536) (hc : pg_c mi ≠ 0) (k : iw_all sc mi d out c0 s0 x lo st L) : iw_all sc mi d out c0 s0 pc lo st L := by
  refine iw_op (g := fun _ => out) iw_nil hw ⟨by decide, hn⟩ ?_
  show iw_ih sc (fun _ => out) (d, mi, c0, s0) (pg_c mi) x lo st L = some out
  exact iw_ih_of rfl hc k
theorem iw_getf {r f n : Nat} {kd : Nat} (hw : iv_wd mi pc = 2 + 256 * np + 16777216 * x) (hn : np < 65536) (hc : pg_c mi ≠ 0) (hr : r ≤ 4294967296) (hk : iw_is L r kd n) (h4 : kd % 4 = 0) (hs : iv_sub2 (kd / 4) (x / 64) = true) (hf : x % 64 = f) (hfn : f < n) (k : iw_all sc mi d out c0 s0 np lo (iw_get L r f :: st) L) : iw_all sc mi d out c0 s0 pc lo ((18446744073709551616 + r) :: st) L := by
  refine iw_op (g := fun _ => out) iw_nil hw ⟨by decide, hn⟩ ?_
  show iv_oGetf (iw_ih sc (fun _ => out)) (d, mi, c0, s0) (pg_c mi) x np lo ((18446744073709551616 + r) :: st) L = some out
  obtain ⟨c, hk⟩ := hk
  unfold iv_oGetf
  show (@Bool.rec (fun _ => iv_R) none _ (Nat.ble 18446744073709551616 (18446744073709551616 + r))) = some out
  have e0 : Nat.sub (18446744073709551616 + r) 18446744073709551616 = r := by
    show 18446744073709551616 + r - 18446744073709551616 = r
    omega
  rw [iw_bt (by rw [iv_n7]; omega), iw_bt (by rw [iv_n7]; omega), e0, iw_hg hk, iw_bt (by rw [iv_n8]; exact h4), iw_bt (by exact hs), iw_bt (by rw [iv_n7]; show x % 64 + 1 ≤ n; omega), iv_f_eq]
  have e1 : iv_gt c (Nat.mod x 64) = iw_get L r f := by
    unfold iw_get
    rw [hk, ← hf]
    rfl
  show iw_ih sc (fun _ => out) (d, mi, c0, s0) (pg_c mi) np lo (iv_gt c (Nat.mod x 64) :: st) L = some out
  rw [e1]
  exact iw_ih_of rfl hc k
theorem iw_putf {r f n ty : Nat} {kd : Nat} (hw : iv_wd mi pc = 18 + 256 * np + 16777216 * x) (hn : np < 65536) (hc : pg_c mi ≠ 0) (hr : r ≤ 4294967296) (hk : iw_is L r kd n) (h4 : kd % 4 = 0) (hs : iv_sub2 (kd / 4) (x / 64 % 64) = true) (hf : x % 64 = f) (hfn : f < n) (ht : x / 4096 % 4 = ty) (hv : iv_pfit ty v = true) (k : iw_all sc mi d out c0 s0 np lo st (iw_put L r f v)) : iw_all sc mi d out c0 s0 pc lo (v :: (18446744073709551616 + r) :: st) L := by
  refine iw_op (g := fun _ => out) iw_nil hw ⟨by decide, hn⟩ ?_
  show iv_oPutf (iw_ih sc (fun _ => out)) (d, mi, c0, s0) (pg_c mi) x np lo (v :: (18446744073709551616 + r) :: st) L = some out
  obtain ⟨c, hk⟩ := hk
  unfold iv_oPutf
  show (@Bool.rec (fun _ => iv_R) none _ (Nat.ble 18446744073709551616 (18446744073709551616 + r))) = some out
  have e0 : Nat.sub (18446744073709551616 + r) 18446744073709551616 = r := by
    show 18446744073709551616 + r - 18446744073709551616 = r
    omega
  have e2 : Nat.mod (Nat.div x 4096) 4 = ty := ht
  rw [iw_bt (by rw [iv_n7]; omega), iw_bt (by rw [iv_n7]; omega), e2, iw_bt hv, e0, iw_hg hk, iw_bt (by rw [iv_n8]; exact h4), iw_bt (by exact hs), iw_bt (by rw [iv_n7]; show x % 64 + 1 ≤ n; omega), iv_f_eq]
  have e3 : Nat.mod x 64 = f := hf
  rw [e3]
  show iv_hs L r (kd, n, iv_st c f v) (fun L => iw_ih sc (fun _ => out) (d, mi, c0, s0) (pg_c mi) np lo st L) = some out
  rw [iw_hs hk]
  exact iw_ih_of rfl hc k
end IW
