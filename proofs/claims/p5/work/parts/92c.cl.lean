/-! ===== the draft is clean: each place within the world's bounds ===== -/
def Clp (n : Nat) (h : xh) : Prop := ∀ i, i < n → j_lo 76 i ≤ h 78 i ∧ h 78 i ≤ j_hi 76 i
def Cl (h : xh) : Prop := ∀ i, i < 290 → j_lo 76 i ≤ h 78 i ∧ h 78 i ≤ j_hi 76 i
theorem Clp.zero {h : xh} : Clp (2147483648 - 2147483648) h := fun i hi => absurd hi (Nat.not_lt_zero _)
theorem Clp.cl {n : Nat} {h : xh} (c : Clp n h) (hn : 290 ≤ n) : Cl h := fun i hi => c i (Nat.lt_of_lt_of_le hi hn)
theorem cl_wn : ∀ i, i < 290 → i < x_ln 76 ∧ (x_gr 76 i = 25 ∨ x_gr 76 i = 49 ∨ x_gr 76 i = 51) ∧ j_nt 76 i := by unfold j_nt; decide +kernel
theorem cl_gr (i : Nat) : x_gr 78 i = 28 := rfl
theorem Clp.step {u : Nat} {h : xh} (c : Clp u h) (hJ : J h) (hu : u < 290) : Clp (u + 1) (x_up h 78 u (h 76 u)) := fun i hi => by
  by_cases e : i = u
  · subst e
    rw [x_up_at]
    exact hJ.1 76 i (by decide) (cl_wn i hu).1
  · rw [x_up_i e]
    exact c i (by omega)
theorem Cl.upR {h : xh} {c m N lo hi g e v : Nat} (l : Nat) (p : Cl h) (rg : rgn 76 c m N lo hi g) (hl : l < N) (he : e = c + m * l) (hv : lo ≤ v ∧ v ≤ hi) : Cl (x_up h 78 e v) := fun i hi9 => by
  by_cases q : i = e
  · subst q
    rw [x_up_at]
    obtain ⟨-, -, r3, r4, -, -⟩ := rg l hl
    subst he
    rw [r3, r4]
    exact hv
  · rw [x_up_i q]
    exact p i hi9
theorem Cl.oth {h : xh} {k e v : Nat} (p : Cl h) (hk : 78 ≠ k) : Cl (x_up h k e v) := fun i hi => by
  rw [x_up_k hk]
  exact p i hi
theorem Cl.fr {h h' : xh} {m : Nat} (p : Cl h) (f : Fr m h h') (hm : Nat.testBit m 28 = false) : Cl h' := fun i hi => by
  rw [f 78 i (by rw [cl_gr]; exact hm)]
  exact p i hi
theorem clJ {h h1 : xh} {e v : Nat} (hJ : J h) (p : Cl h1) (he : e < 290) (hv : v = h1 78 e) : J (x_up h 76 e v) := by
  subst hv
  exact J_up hJ (p e he) (cl_wn e he).2.2
theorem clF {h h1 : xh} {e v M : Nat} (f : Fr M h h1) (he : e < 290) (hg : Nat.testBit M 25 = true) (hg2 : Nat.testBit M 49 = true) (hg3 : Nat.testBit M 51 = true) : Fr M h (x_up h1 76 e v) := f.up (by rcases (cl_wn e he).2.1 with z | z | z <;> rw [z] <;> assumption)
