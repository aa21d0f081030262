/-! ===== calls: what the interpreter does around one, and the machine ===== -/
section CALLS
variable {sc : Nat × Nat} {mi d : Nat} {out : Nat × iv_H} {p : Program} {l : Launch} {e : Env} {R : Room} {s : State} {m : MethodId} {args : Array Value} {below : List Frame} {meth : Method} {c : Code} {D : va_G} {cI cB cJ : ClassId} {b : Nat → Nat} {ws0 : va_W} {ih : iv_I} {c0 s0 pc np x : Nat} {lo st : List Nat} {L : iv_H}
theorem iv_take_some : ∀ (n : Nat) (st acc : List Nat) (K : List Nat → List Nat → iv_R) (o : Nat × iv_H), iv_take n st acc K = some o → ∃ l1 rest, st = l1 ++ rest ∧ l1.length = n ∧ K (l1.reverse ++ acc) rest = some o
  | 0, st, acc, K, o, h => ⟨[], st, rfl, rfl, h⟩
  | n + 1, [], acc, K, o, h => by cases h
  | n + 1, a :: t, acc, K, o, h => by
    obtain ⟨l1, rest, h1, h2, h3⟩ := iv_take_some n t (a :: acc) K o h
    refine ⟨a :: l1, rest, by rw [h1]; rfl, by rw [List.length_cons, h2], ?_⟩
    rw [List.reverse_cons, List.append_assoc]
    exact h3
theorem iv_pad_eq : ∀ (n : Nat) (K : List Nat → iv_R), iv_pad n K = K (List.replicate n 147573952589676412928)
  | 0, K => rfl
  | n + 1, K => by
    have h : iv_pad (n + 1) K = iv_pad n fun t => K (147573952589676412928 :: t) := rfl
    rw [h, iv_pad_eq n]
    rfl
theorem iv_cat_eq : ∀ (l1 r : List Nat) (K : List Nat → iv_R), iv_cat l1 r K = K (l1 ++ r)
  | [], r, K => rfl
  | a :: t, r, K => by
    have h : iv_cat (a :: t) r K = iv_cat t r fun z => K (a :: z) := rfl
    rw [h, iv_cat_eq t]
    rfl
theorem iv_eqL_eq : ∀ (a z : List Nat), iv_eqL a z = true → a = z
  | [], [], _ => rfl
  | [], _ :: _, h => by cases h
  | _ :: _, [], h => by cases h
  | x :: s, y :: t, h => by
    obtain ⟨h1, h2⟩ := iv_bB h
    rw [iv_n8] at h1
    rw [h1, iv_eqL_eq s t h2]
theorem iv_eqC_eq : ∀ (a z : List iv_C), iv_eqC a z = true → a = z
  | [], [], _ => rfl
  | [], _ :: _, h => by cases h
  | _ :: _, [], h => by cases h
  | (x1, x2, x3) :: s, (y1, y2, y3) :: t, h => by
    obtain ⟨h1, h⟩ := iv_bB h
    obtain ⟨h2, h⟩ := iv_bB h
    obtain ⟨h3, h⟩ := iv_bB h
    rw [iv_n8] at h1 h2 h3
    have h1 : x1 = y1 := h1
    have h2 : x2 = y2 := h2
    have h3 : x3 = y3 := h3
    rw [h1, h2, h3, iv_eqC_eq s t h]
theorem iv_eqG_eq : ∀ (a z : List (List iv_C)), iv_eqG a z = true → a = z
  | [], [], _ => rfl
  | [], _ :: _, h => by cases h
  | _ :: _, [], h => by cases h
  | x :: s, y :: t, h => by
    obtain ⟨h1, h⟩ := iv_bB h
    rw [iv_eqC_eq x y h1, iv_eqG_eq s t h]
theorem iv_eqH_eq (a z : iv_H) (h : iv_eqH a z = true) : a = z := by
  obtain ⟨h1, h⟩ := iv_bB h
  rw [iv_n8] at h1
  exact Prod.ext h1 (iv_eqG_eq _ _ h)
theorem iv_sm_some {mj : Nat} {as : List Nat} {K : Nat → iv_H → iv_R} {e0 : iv_R} {o : Nat × iv_H} : ∀ (SM : iv_S), iv_sm SM mj as L K e0 = some o → (∃ q ∈ SM, q.1 = mj ∧ q.2.1 = as ∧ q.2.2.1 = L ∧ K q.2.2.2.1 q.2.2.2.2 = some o) ∨ e0 = some o
  | [], h => Or.inr h
  | q :: t, h => by
    have g : iv_sm t mj as L K e0 = some o → (∃ z ∈ q :: t, z.1 = mj ∧ z.2.1 = as ∧ z.2.2.1 = L ∧ K z.2.2.2.1 z.2.2.2.2 = some o) ∨ e0 = some o := fun h => by
      rcases iv_sm_some t h with ⟨z, h1, h2⟩ | h
      · exact Or.inl ⟨z, List.mem_cons_of_mem _ h1, h2⟩
      · exact Or.inr h
    rcases iv_b2 h with ⟨h1, h⟩ | ⟨-, h⟩
    · rcases iv_b2 h with ⟨h2, h⟩ | ⟨-, h⟩
      · rcases iv_b2 h with ⟨h3, h⟩ | ⟨-, h⟩
        · rw [iv_n8] at h1
          exact Or.inl ⟨q, List.mem_cons_self, h1, iv_eqL_eq _ _ h2, iv_eqH_eq _ _ h3, h⟩
        · exact g h
      · exact g h
    · exact g h
/-- the receiver, as the interpreter asks for it -/
def iv_rc (rc : Nat) (as : List Nat) (L : iv_H) : Prop := rc = 0 ∨ ∃ r t q, as = r :: t ∧ 18446744073709551616 ≤ r ∧ r ≤ 18446744078004518912 ∧ iv_hk L (r - 18446744073709551616) = some q ∧ q.1 % 4 = 0 ∧ iv_sub2 (q.1 / 4) (rc - 1) = true
theorem iv_rcv_some {rc : Nat} {as : List Nat} {K : iv_R} {o : Nat × iv_H} (h : iv_rcv rc as L K = some o) : iv_rc rc as L ∧ K = some o := by
  rcases iv_b2 h with ⟨h1, h⟩ | ⟨-, h⟩
  · rw [iv_n8] at h1
    exact ⟨Or.inl h1, h⟩
  · obtain ⟨r, t, rfl, h⟩ := iv_l1 h
    obtain ⟨h1, h⟩ := iv_b1 h
    obtain ⟨h2, h⟩ := iv_b1 h
    rw [iv_n7] at h1 h2
    obtain ⟨q, h3, h⟩ := iv_hg_some h
    obtain ⟨h4, h⟩ := iv_b1 h
    obtain ⟨h5, h⟩ := iv_b1 h
    rw [iv_n8, iv_n2] at h4
    rw [iv_n1, iv_n4] at h5
    rw [iv_n4] at h3
    exact ⟨Or.inr ⟨r, t, q, rfl, h1, h2, h3, h4, h5⟩, h⟩
/-- does the row take what is thrown at pc -/
def iv_cov (q : Nat × Nat × Nat × Nat) (pc : Nat) : Prop := q.1 ≤ pc ∧ pc + 1 ≤ q.2.1
theorem iv_hd_some {K : Nat → iv_R} {o : Nat × iv_H} {pc ex : Nat} : ∀ (t : List (Nat × Nat × Nat × Nat)) (n : iv_R), iv_hd t pc ex K n = some o →
    (∃ pre q suf, t = pre ++ q :: suf ∧ iv_cov q pc ∧ q.2.2.2 = ex ∧ (∀ z ∈ pre, ¬ iv_cov z pc ∨ iv_ncq ex z.2.2.2 = true) ∧ K q.2.2.1 = some o) ∨ ((∀ z ∈ t, ¬ iv_cov z pc) ∧ n = some o) ∨ (n = none ∧ False)
  | [], n, h => Or.inr (Or.inl ⟨fun z hz => (nomatch hz), h⟩)
  | q :: t, n, h => by
    have no : ¬ iv_cov q pc → iv_hd t pc ex K n = some o → (∃ pre q1 suf, q :: t = pre ++ q1 :: suf ∧ iv_cov q1 pc ∧ q1.2.2.2 = ex ∧ (∀ z ∈ pre, ¬ iv_cov z pc ∨ iv_ncq ex z.2.2.2 = true) ∧ K q1.2.2.1 = some o) ∨ ((∀ z ∈ q :: t, ¬ iv_cov z pc) ∧ n = some o) ∨ (n = none ∧ False) := fun hq h => by
      rcases iv_hd_some t n h with ⟨pre, q1, suf, h1, h2, h3, h4, h5⟩ | ⟨h1, h2⟩ | ⟨-, h⟩
      · refine Or.inl ⟨q :: pre, q1, suf, by rw [h1]; rfl, h2, h3, fun z hz => ?_, h5⟩
        rcases List.mem_cons.mp hz with rfl | hz
        · exact Or.inl hq
        · exact h4 z hz
      · refine Or.inr (Or.inl ⟨fun z hz => ?_, h2⟩)
        rcases List.mem_cons.mp hz with rfl | hz
        · exact hq
        · exact h1 z hz
      · exact h.elim
    rcases iv_b2 h with ⟨h1, h⟩ | ⟨h1, h⟩
    · rw [iv_n7] at h1
      rcases iv_b2 h with ⟨h2, h⟩ | ⟨h2, h⟩
      · rw [iv_n7, iv_n6] at h2
        rcases iv_b2 h with ⟨h3, h⟩ | ⟨-, h⟩
        · rw [iv_n8] at h3
          exact Or.inl ⟨[], q, t, rfl, ⟨h1, h2⟩, h3, fun z hz => (nomatch hz), h⟩
        · obtain ⟨h4, h⟩ := iv_b1 h
          rcases iv_hd_some t none h with ⟨pre, q1, suf, g1, g2, g3, g4, g5⟩ | ⟨-, h⟩ | ⟨-, h⟩
          · refine Or.inl ⟨q :: pre, q1, suf, by rw [g1]; rfl, g2, g3, fun z hz => ?_, g5⟩
            rcases List.mem_cons.mp hz with rfl | hz
            · exact Or.inr h4
            · exact g4 z hz
          · cases h
          · exact h.elim
      · rw [iv_n9, iv_n6] at h2
        exact no (fun z => by have := z.2; omega) h
    · rw [iv_n9] at h1
      exact no (fun z => by have := z.1; omega) h
/-- a method's table: rows as the machine has them -/
def iv_HOK (mi : Nat) : Prop := ∀ (pre : List (Nat × Nat × Nat × Nat)) (q : Nat × Nat × Nat × Nat) (suf : List (Nat × Nat × Nat × Nat)), pg_h mi = pre ++ q :: suf → ∃ pre' cp suf', pm_h mi = pre' ++ (q.1, q.2.1, q.2.2.1, cp) :: suf' ∧ cp ≠ 0 ∧ Cond.classLink (pm_y mi).cls cp (pm_e q.2.2.2) ∈ iv_T ∧ Cond.castable (pm_e q.2.2.2) (pm_e q.2.2.2) ∈ lw_tbl ∧
  ∀ z ∈ pre', ∃ y ∈ pre, y.1 = z.1 ∧ y.2.1 = z.2.1 ∧ z.2.2.2 ≠ 0 ∧ Cond.classLink (pm_y mi).cls z.2.2.2 (pm_e y.2.2.2) ∈ iv_T
def iv_HO2 (mi : Nat) : Prop := ∀ z ∈ pm_h mi, ∃ y ∈ pg_h mi, y.1 = z.1 ∧ y.2.1 = z.2.1
theorem iv_ncq_ok {ex k : Nat} (h : iv_ncq ex k = true) : (pm_e ex, pm_e k) ∈ iv_nc := by
  have bb : ∀ {c t f : Bool}, @Bool.rec (fun _ => Bool) f t c = true → (c = true ∧ t = true) ∨ (c = false ∧ f = true) := fun {c t f} h => by cases c <;> first | exact Or.inl ⟨rfl, h⟩ | exact Or.inr ⟨rfl, h⟩
  rcases bb h with ⟨h1, h⟩ | ⟨-, h⟩
  · rw [iv_n8] at h1
    subst h1
    rcases bb h with ⟨h1, h⟩ | ⟨-, h⟩
    · rw [iv_n8] at h1
      subst h1
      exact List.mem_of_getElem? (i := 1) rfl
    · rcases bb h with ⟨h1, h⟩ | ⟨-, h⟩
      · rw [iv_n8] at h1
        subst h1
        exact List.mem_of_getElem? (i := 2) rfl
      · cases h
  · rcases bb h with ⟨h1, h⟩ | ⟨-, h⟩
    · rw [iv_n8] at h1
      subst h1
      rcases bb h with ⟨h1, h⟩ | ⟨-, h⟩
      · rw [iv_n8] at h1
        subst h1
        exact List.mem_of_getElem? (i := 0) rfl
      · rcases bb h with ⟨h1, h⟩ | ⟨-, h⟩
        · rw [iv_n8] at h1
          subst h1
          exact List.mem_of_getElem? (i := 3) rfl
        · cases h
    · cases h
theorem iv_covers {q : Nat × Nat × Nat × Nat} {pc cp h : Nat} : covers (⟨q.1, q.2.1, h, cp⟩ : ExceptionTableEntry) pc = true ↔ iv_cov q pc := by
  unfold covers iv_cov
  simp only [Bool.and_eq_true, decide_eq_true_eq]
  exact Iff.rfl
end CALLS
