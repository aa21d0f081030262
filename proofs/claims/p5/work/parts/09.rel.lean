/-! ===== values, cells, worlds and frames as the interpreter has them, and as the machine has them ===== -/
def iv_al (ws : va_W) (k : Nat) : Option Nat := (ws[k]?).map (fun q => q.1)
/-- what a value's number says: an interval, a cell of the world, null, the script, an exception, a long, an int whose lowest six bits are known -/
def iv_rel (b : Nat → Nat) (al : Nat → Option Nat) (v : Nat) (V : Value) : Prop :=
  (v < 18446744073709551616 ∧ ∃ x : Int32, V = .int x ∧ iv_in v x) ∨
  (18446744073709551616 ≤ v ∧ v ≤ 18446744078004518912 ∧ ∃ a, al (v - 18446744073709551616) = some a ∧ V = .ref a) ∨
  (v = 36893488147419103232 ∧ V = .null) ∨ (v = 55340232221128654849 ∧ V = .ref (b 0)) ∨ (v = 55340232221128654850 ∧ ∃ a, V = .ref a) ∨
  (v / 18446744073709551616 = 4 ∧ ∃ x : Int32, V = .long x.toInt64 ∧ iv_in (v - 73786976294838206464) x) ∨
  (v / 18446744073709551616 = 5 ∧ ∃ x : Int32, V = .int x ∧ x &&& 63 = iv_ub (2147483648 + v % 64)) ∨
  (55340232221128654864 ≤ v ∧ v < 55340232221128654992 ∧ V = .ref (b (v - 55340232221128654863)))
theorem iv_rel_int {b : Nat → Nat} {al : Nat → Option Nat} {v : Nat} {V : Value} (hv : v < 18446744073709551616) (h : iv_rel b al v V) : ∃ x : Int32, V = .int x ∧ iv_in v x := by
  rcases h with ⟨-, h⟩ | ⟨h, -⟩ | ⟨h, -⟩ | ⟨h, -⟩ | ⟨h, -⟩ | ⟨h, -⟩ | ⟨h, -⟩ | ⟨h, -⟩
  · exact h
  all_goals omega
theorem iv_rel_ref {b : Nat → Nat} {al : Nat → Option Nat} {v : Nat} {V : Value} (h1 : 18446744073709551616 ≤ v) (h2 : v ≤ 18446744078004518912) (h : iv_rel b al v V) : ∃ a, al (v - 18446744073709551616) = some a ∧ V = .ref a := by
  rcases h with ⟨h, -⟩ | ⟨-, -, h⟩ | ⟨h, -⟩ | ⟨h, -⟩ | ⟨h, -⟩ | ⟨h, -⟩ | ⟨h, -⟩ | ⟨h, -⟩
  case inr.inl => exact h
  all_goals omega
theorem iv_rel_sc {b : Nat → Nat} {al : Nat → Option Nat} {V : Value} (h : iv_rel b al 55340232221128654849 V) : V = .ref (b 0) := by
  rcases h with ⟨h, -⟩ | ⟨-, h, -⟩ | ⟨h, -⟩ | ⟨-, h⟩ | ⟨h, -⟩ | ⟨h, -⟩ | ⟨h, -⟩ | ⟨h, -⟩
  case inr.inr.inr.inl => exact h
  all_goals omega
theorem iv_rel_xr {b : Nat → Nat} {al : Nat → Option Nat} {V : Value} (h : iv_rel b al 55340232221128654850 V) : ∃ a, V = .ref a := by
  rcases h with ⟨h, -⟩ | ⟨-, h, -⟩ | ⟨h, -⟩ | ⟨h, -⟩ | ⟨-, h⟩ | ⟨h, -⟩ | ⟨h, -⟩ | ⟨h, -⟩
  case inr.inr.inr.inr.inl => exact h
  all_goals omega
theorem iv_rel_lng {b : Nat → Nat} {al : Nat → Option Nat} {v : Nat} {V : Value} (hv : v / 18446744073709551616 = 4) (h : iv_rel b al v V) : ∃ x : Int32, V = .long x.toInt64 ∧ iv_in (v - 73786976294838206464) x := by
  rcases h with ⟨h, -⟩ | ⟨-, h, -⟩ | ⟨h, -⟩ | ⟨h, -⟩ | ⟨h, -⟩ | ⟨-, h⟩ | ⟨h, -⟩ | ⟨-, h, -⟩
  case inr.inr.inr.inr.inr.inl => exact h
  all_goals omega
theorem iv_rel_six {b : Nat → Nat} {al : Nat → Option Nat} {v : Nat} {V : Value} (hv : v / 18446744073709551616 = 5) (h : iv_rel b al v V) : ∃ x : Int32, V = .int x ∧ x &&& 63 = iv_ub (2147483648 + v % 64) := by
  rcases h with ⟨h, -⟩ | ⟨-, h, -⟩ | ⟨h, -⟩ | ⟨h, -⟩ | ⟨h, -⟩ | ⟨h, -⟩ | ⟨-, h⟩ | ⟨-, h, -⟩
  case inr.inr.inr.inr.inr.inr.inl => exact h
  all_goals omega
theorem iv_rel_cat1 {b : Nat → Nat} {al : Nat → Option Nat} {v : Nat} {V : Value} (hv : v < 73786976294838206464) (h : iv_rel b al v V) : V.category = 1 := by
  rcases h with ⟨-, x, rfl, -⟩ | ⟨-, -, a, -, rfl⟩ | ⟨-, rfl⟩ | ⟨-, rfl⟩ | ⟨-, a, rfl⟩ | ⟨h, -⟩ | ⟨h, -⟩ | ⟨-, -, rfl⟩
  · rfl
  · rfl
  · rfl
  · rfl
  · rfl
  · omega
  · omega
  · rfl
theorem iv_rel_catw {b : Nat → Nat} {al : Nat → Option Nat} {v : Nat} {V : Value} (h : iv_rel b al v V) : V.category ≤ (if v ≤ 73786976294838206463 then 1 else 2) := by
  split
  · rw [iv_rel_cat1 (by omega) h]
    exact Nat.le_refl _
  · rcases lv_cat V with h | h <;> omega
theorem iv_rel_mono {b : Nat → Nat} {al al' : Nat → Option Nat} {v : Nat} {V : Value} (hm : ∀ k a, al k = some a → al' k = some a) (h : iv_rel b al v V) : iv_rel b al' v V := by
  rcases h with h | ⟨h1, h2, a, h3, h4⟩ | h | h | h | h | h | h
  · exact Or.inl h
  · exact Or.inr (Or.inl ⟨h1, h2, a, hm _ _ h3, h4⟩)
  · exact Or.inr (Or.inr (Or.inl h))
  · exact Or.inr (Or.inr (Or.inr (Or.inl h)))
  · exact Or.inr (Or.inr (Or.inr (Or.inr (Or.inl h))))
  · exact Or.inr (Or.inr (Or.inr (Or.inr (Or.inr (Or.inl h)))))
  · exact Or.inr (Or.inr (Or.inr (Or.inr (Or.inr (Or.inr (Or.inl h))))))
  · exact Or.inr (Or.inr (Or.inr (Or.inr (Or.inr (Or.inr (Or.inr h))))))
theorem iv_rel_i {b : Nat → Nat} {al : Nat → Option Nat} {v : Nat} {x : Int32} (h1 : v < 18446744073709551616) (h2 : iv_in v x) : iv_rel b al v (.int x) := Or.inl ⟨h1, x, rfl, h2⟩
theorem iv_rel_r {b : Nat → Nat} {al : Nat → Option Nat} {v k a : Nat} (hv : v = 18446744073709551616 + k) (hk : k ≤ 4294967296) (h : al k = some a) : iv_rel b al v (.ref a) :=
  Or.inr (Or.inl ⟨by omega, by omega, a, by rw [hv, Nat.add_sub_cancel_left]; exact h, rfl⟩)
theorem iv_rel_l {b : Nat → Nat} {al : Nat → Option Nat} {v w : Nat} {x : Int32} (h1 : w < 18446744073709551616) (h2 : iv_in w x) (hv : v = 73786976294838206464 + w) : iv_rel b al v (.long x.toInt64) :=
  Or.inr (Or.inr (Or.inr (Or.inr (Or.inr (Or.inl ⟨by omega, x, rfl, by rw [hv, Nat.add_sub_cancel_left]; exact h2⟩)))))
/-- a cell -/
def iv_cell (b : Nat → Nat) (al : Nat → Option Nat) (cI cB cJ : ClassId) (q : iv_C) (e : va_E) : Prop :=
  (q.1 % 4 = 0 ∧ ∃ fs : List Value, e = .inr (q.1 / 4, fs) ∧ fs.length = q.2.1 ∧ ∀ k, k < q.2.1 → ∃ V, fs[k]? = some V ∧ iv_rel b al (iv_gt q.2.2 k) V) ∨
  (q.1 = 1 ∧ ∃ f : Nat → Int32, e = .inl (cI, q.2.1, .inl f) ∧ ∀ k, k < q.2.1 → iv_gt q.2.2 k < 18446744073709551616 ∧ iv_in (iv_gt q.2.2 k) (f k)) ∨
  (q.1 = 2 ∧ ∃ f : Nat → Int32, e = .inl (cB, q.2.1, .inl f) ∧ ∀ k, k < q.2.1 → iv_gt q.2.2 k < 18446744073709551616 ∧ iv_in (iv_gt q.2.2 k) (f k)) ∨
  (q.1 = 3 ∧ ∃ f : Nat → Int64, e = .inl (cJ, q.2.1, .inr (.inl f)) ∧ ∀ k, k < q.2.1 → iv_rel b al (iv_gt q.2.2 k) (.long (f k)))
theorem iv_cell_mono {b : Nat → Nat} {al al' : Nat → Option Nat} {cI cB cJ : ClassId} {q : iv_C} {e : va_E} (hm : ∀ k a, al k = some a → al' k = some a) (h : iv_cell b al cI cB cJ q e) : iv_cell b al' cI cB cJ q e := by
  rcases h with ⟨h1, fs, h2, h3, h4⟩ | h | h | ⟨h1, f, h2, h3⟩
  · refine Or.inl ⟨h1, fs, h2, h3, fun k hk => ?_⟩
    obtain ⟨V, g1, g2⟩ := h4 k hk
    exact ⟨V, g1, iv_rel_mono hm g2⟩
  · exact Or.inr (Or.inl h)
  · exact Or.inr (Or.inr (Or.inl h))
  · exact Or.inr (Or.inr (Or.inr ⟨h1, f, h2, fun k hk => iv_rel_mono hm (h3 k hk)⟩))
/-- a heap and its world -/
def iv_W (b : Nat → Nat) (cI cB cJ : ClassId) (L : iv_H) (ws : va_W) : Prop :=
  ws.length = L.1 ∧ L.1 ≤ 4294967296 ∧ ∀ k, k < L.1 → ∃ (q : iv_C) (a : Nat) (e : va_E), iv_hk L k = some q ∧ ws[k]? = some (a, e) ∧ iv_cell b (iv_al ws) cI cB cJ q e
def iv_ext (ws ws' : va_W) : Prop := ∀ k a, iv_al ws k = some a → iv_al ws' k = some a
theorem iv_ext.refl (ws : va_W) : iv_ext ws ws := fun _ _ h => h
theorem iv_ext.trans {x y z : va_W} (h : iv_ext x y) (g : iv_ext y z) : iv_ext x z := fun k a e => g k a (h k a e)
theorem iv_al_set {ws : va_W} {k a : Nat} {e0 e : va_E} (h : ws[k]? = some (a, e0)) (j : Nat) : iv_al (ws.set k (a, e)) j = iv_al ws j := by
  unfold iv_al
  have hl := (List.getElem?_eq_some_iff.mp h).1
  by_cases hj : j = k
  · subst hj
    rw [List.getElem?_set_self hl, h]
    rfl
  · rw [List.getElem?_set_ne (fun z => hj z.symm)]
theorem iv_al_app {ws : va_W} {q : Nat × va_E} {j a : Nat} (h : iv_al ws j = some a) : iv_al (ws ++ [q]) j = some a := by
  unfold iv_al at h ⊢
  cases hw : ws[j]? with
  | none => rw [hw] at h; cases h
  | some z =>
    have hl := (List.getElem?_eq_some_iff.mp hw).1
    rw [List.getElem?_append_left hl, hw]
    rw [hw] at h
    exact h
theorem iv_al_new (ws : va_W) (q : Nat × va_E) : iv_al (ws ++ [q]) ws.length = some q.1 := by
  unfold iv_al
  rw [List.getElem?_append_right (Nat.le_refl _), Nat.sub_self]
  rfl
/-- one cell of the world changes -/
theorem iv_W_set {b : Nat → Nat} {cI cB cJ : ClassId} {L L' : iv_H} {ws : va_W} {k a : Nat} {q : iv_C} {e0 e : va_E} (h : iv_W b cI cB cJ L ws) (h1 : L'.1 = L.1) (h2 : iv_hk L' k = some q) (h3 : ∀ j, j ≠ k → iv_hk L' j = iv_hk L j) (hw : ws[k]? = some (a, e0)) (hc : iv_cell b (iv_al ws) cI cB cJ q e) : iv_W b cI cB cJ L' (ws.set k (a, e)) := by
  obtain ⟨g1, g0, g2⟩ := h
  have hl := (List.getElem?_eq_some_iff.mp hw).1
  have hm : ∀ j z, iv_al ws j = some z → iv_al (ws.set k (a, e)) j = some z := fun j z hz => by rw [iv_al_set hw]; exact hz
  refine ⟨by rw [List.length_set, h1]; exact g1, by rw [h1]; exact g0, fun j hj => ?_⟩
  by_cases hjk : j = k
  · subst hjk
    exact ⟨q, a, e, h2, List.getElem?_set_self hl, iv_cell_mono hm hc⟩
  · rw [h1] at hj
    obtain ⟨q', a', e', r1, r2, r3⟩ := g2 j hj
    exact ⟨q', a', e', by rw [h3 j hjk]; exact r1, by rw [List.getElem?_set_ne (fun z => hjk z.symm)]; exact r2, iv_cell_mono hm r3⟩
/-- a cell is made -/
theorem iv_W_new {b : Nat → Nat} {cI cB cJ : ClassId} {L L' : iv_H} {ws : va_W} {a : Nat} {q : iv_C} {e : va_E} (h : iv_W b cI cB cJ L ws) (hb : L.1 < 4294967296) (h1 : L'.1 = L.1 + 1) (h2 : iv_hk L' L.1 = some q) (h3 : ∀ j, j ≠ L.1 → iv_hk L' j = iv_hk L j) (hc : iv_cell b (iv_al (ws ++ [(a, e)])) cI cB cJ q e) : iv_W b cI cB cJ L' (ws ++ [(a, e)]) := by
  obtain ⟨g1, g0, g2⟩ := h
  refine ⟨by rw [List.length_append, g1, h1]; rfl, by omega, fun j hj => ?_⟩
  by_cases hjk : j = L.1
  · subst hjk
    exact ⟨q, a, e, h2, by rw [← g1, List.getElem?_append_right (Nat.le_refl _), Nat.sub_self]; rfl, hc⟩
  · obtain ⟨q', a', e', r1, r2, r3⟩ := g2 j (by omega)
    exact ⟨q', a', e', by rw [h3 j hjk]; exact r1, by rw [List.getElem?_append_left (by omega)]; exact r2, iv_cell_mono (fun k z hz => iv_al_app hz) r3⟩
/-- the cell that a reference names -/
theorem iv_W_at {b : Nat → Nat} {cI cB cJ : ClassId} {L : iv_H} {ws : va_W} {k a : Nat} {q : iv_C} (h : iv_W b cI cB cJ L ws) (hq : iv_hk L k = some q) (ha : iv_al ws k = some a) : ∃ e, ws[k]? = some (a, e) ∧ iv_cell b (iv_al ws) cI cB cJ q e := by
  obtain ⟨g1, -, g2⟩ := h
  unfold iv_al at ha
  cases hw : ws[k]? with
  | none => rw [hw] at ha; cases ha
  | some z =>
    have hl := (List.getElem?_eq_some_iff.mp hw).1
    obtain ⟨q', a', e', r1, r2, r3⟩ := g2 k (by omega)
    rw [hq] at r1
    cases r1
    rw [hw] at r2 ha
    cases r2
    cases ha
    exact ⟨e', rfl, r3⟩
/-- a stack -/
def iv_stk (b : Nat → Nat) (al : Nat → Option Nat) : List Nat → List Value → Prop
  | [], [] => True
  | v :: st, V :: sv => iv_rel b al v V ∧ iv_stk b al st sv
  | _, _ => False
theorem iv_stk_cons {b : Nat → Nat} {al : Nat → Option Nat} {v : Nat} {st : List Nat} {sv : List Value} (h : iv_stk b al (v :: st) sv) : ∃ V sv', sv = V :: sv' ∧ iv_rel b al v V ∧ iv_stk b al st sv' := by
  cases sv with
  | nil => exact h.elim
  | cons V sv' => exact ⟨V, sv', rfl, h.1, h.2⟩
theorem iv_stk_nil {b : Nat → Nat} {al : Nat → Option Nat} {sv : List Value} (h : iv_stk b al [] sv) : sv = [] := by
  cases sv with
  | nil => rfl
  | cons V sv' => exact h.elim
theorem iv_stk_mono {b : Nat → Nat} {al al' : Nat → Option Nat} (hm : ∀ k a, al k = some a → al' k = some a) : ∀ {st : List Nat} {sv : List Value}, iv_stk b al st sv → iv_stk b al' st sv
  | [], [], _ => trivial
  | [], _ :: _, h => h.elim
  | _ :: _, [], h => h.elim
  | _ :: _, _ :: _, h => ⟨iv_rel_mono hm h.1, iv_stk_mono hm h.2⟩
theorem iv_stk_wl {b : Nat → Nat} {al : Nat → Option Nat} : ∀ {st : List Nat} {sv : List Value}, iv_stk b al st sv → (sv.map fun v => v.category).sum ≤ iv_wl st
  | [], [], _ => Nat.le_refl _
  | [], _ :: _, h => h.elim
  | _ :: _, [], h => h.elim
  | v :: st, V :: sv, h => by
    have ih := iv_stk_wl h.2
    have h1 := iv_rel_catw h.1
    have e : iv_wl (v :: st) = Nat.add (@Bool.rec (fun _ => Nat) 2 1 (Nat.ble v 73786976294838206463)) (iv_wl st) := rfl
    rw [e, iv_bN, iv_n3]
    simp only [iv_n7]
    rw [List.map_cons, List.sum_cons]
    split at h1 <;> rename_i hc
    · rw [if_pos hc]; omega
    · rw [if_neg hc]; omega
/-- the locals -/
def iv_loc (b : Nat → Nat) (al : Nat → Option Nat) (lo : List Nat) (ls : Array Slot) (nL : Nat) : Prop :=
  lo.length = nL ∧ ∃ lv : List (Nat × Value), lv_has ls nL lv ∧ (∀ q ∈ lv, q.2.category = 1) ∧ ∀ i v, lo[i]? = some v → v < 147573952589676412928 → ∃ V, (i, V) ∈ lv ∧ iv_rel b al v V
theorem iv_loc_get {b : Nat → Nat} {al : Nat → Option Nat} {lo : List Nat} {ls : Array Slot} {nL i v : Nat} (h : iv_loc b al lo ls nL) (hi : lo[i]? = some v) (hv : v < 147573952589676412928) : ∃ V, ls[i]? = some (.val V) ∧ iv_rel b al v V := by
  obtain ⟨-, lv, h1, -, h3⟩ := h
  obtain ⟨V, g1, g2⟩ := h3 i v hi hv
  exact ⟨V, h1.2.2 _ g1, g2⟩
theorem iv_loc_mono {b : Nat → Nat} {al al' : Nat → Option Nat} {lo : List Nat} {ls : Array Slot} {nL : Nat} (hm : ∀ k a, al k = some a → al' k = some a) (h : iv_loc b al lo ls nL) : iv_loc b al' lo ls nL := by
  obtain ⟨h0, lv, h1, h2, h3⟩ := h
  refine ⟨h0, lv, h1, h2, fun i v hi hv => ?_⟩
  obtain ⟨V, g1, g2⟩ := h3 i v hi hv
  exact ⟨V, g1, iv_rel_mono hm g2⟩
/-- behind a store of one slot -/
theorem iv_loc_set {b : Nat → Nat} {al : Nat → Option Nat} {lo : List Nat} {ls : Array Slot} {nL i v : Nat} {V : Value} (h : iv_loc b al lo ls nL) (hc : V.category = 1) (hr : iv_rel b al v V) :
    ∃ lv : List (Nat × Value), lv_has ls nL lv ∧ ∀ ls', lv_has ls' nL ((i, V) :: lv.filter (fun q => !(q.1 == i) && !(q.1 + 1 == i && q.2.category == 2))) → iv_loc b al (lo.set i v) ls' nL := by
  obtain ⟨h0, lv, h1, h2, h3⟩ := h
  refine ⟨lv, h1, fun ls' hl => ⟨by rw [List.length_set]; exact h0, _, hl, fun q hq => ?_, fun j w hj hw => ?_⟩⟩
  · rcases List.mem_cons.mp hq with rfl | hq
    · exact hc
    · exact h2 q (List.mem_filter.mp hq).1
  · by_cases hji : j = i
    · subst hji
      have hl2 : j < lo.length := by
        have := (List.getElem?_eq_some_iff.mp hj).1
        rw [List.length_set] at this
        exact this
      rw [List.getElem?_set_self hl2] at hj
      cases hj
      exact ⟨V, List.mem_cons_self, hr⟩
    · rw [List.getElem?_set_ne (fun z => hji z.symm)] at hj
      obtain ⟨W, g1, g2⟩ := h3 j w hj hw
      refine ⟨W, List.mem_cons_of_mem _ (List.mem_filter.mpr ⟨g1, ?_⟩), g2⟩
      have := h2 _ g1
      simp [hji, this]
