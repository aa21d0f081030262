/-! ===== one step at a time: the rows of the interpreter as rules over states that are not numbers ===== -/
/-- from here the method comes to its end with out, wherever it is called -/
def iw_all (sc : Nat × Nat) (mi d : Nat) (out : Nat × iv_H) (c0 s0 pc : Nat) (lo st : List Nat) (L : iv_H) : Prop :=
  ∀ (p : Program) (l : Launch) (e : Env) (R : Room) (s : State) (m : MethodId) (args : Array Value) (below : List Frame) (meth : Method) (c : Code) (D : va_G) (cI cB cJ : ClassId) (b : Nat → Nat) (ws0 : va_W), iv_Cx sc mi d p l R s m args meth c D cI cB cJ b ws0 → iv_G mi out p l e R s m args below meth c D cI cB cJ b ws0 c0 s0 pc lo st L
theorem iw_dec (P : Prop) : ∃ f : Option (Nat × iv_H) → Option (Nat × iv_H), (P → ∀ x, f x = x) ∧ (¬ P → ∀ x, f x = none) := by
  by_cases h : P
  · exact ⟨fun x => x, fun _ _ => rfl, fun n => absurd h n⟩
  · exact ⟨fun _ => none, fun p => absurd p h, fun _ _ => rfl⟩
/-- an interpreter that says, at depth n, g n just where the method comes to its end with that -/
noncomputable def iw_ih (sc : Nat × Nat) (g : Nat → Nat × iv_H) : iv_I := fun fr cd pc lo st L => (iw_dec (cd = pg_c fr.2.1 ∧ pg_c fr.2.1 ≠ 0 ∧ iw_all sc fr.2.1 fr.1 (g fr.1) fr.2.2.1 fr.2.2.2 pc lo st L)).choose (some (g fr.1))
theorem iw_ih_some {sc : Nat × Nat} {g : Nat → Nat × iv_H} {o : Nat × iv_H} {fr : Nat × Nat × Nat × Nat} {cd pc : Nat} {lo st : List Nat} {L : iv_H} (h : iw_ih sc g fr cd pc lo st L = some o) : o = g fr.1 ∧ cd = pg_c fr.2.1 ∧ pg_c fr.2.1 ≠ 0 ∧ iw_all sc fr.2.1 fr.1 (g fr.1) fr.2.2.1 fr.2.2.2 pc lo st L := by
  have hs := (iw_dec (cd = pg_c fr.2.1 ∧ pg_c fr.2.1 ≠ 0 ∧ iw_all sc fr.2.1 fr.1 (g fr.1) fr.2.2.1 fr.2.2.2 pc lo st L)).choose_spec
  by_cases hp : cd = pg_c fr.2.1 ∧ pg_c fr.2.1 ≠ 0 ∧ iw_all sc fr.2.1 fr.1 (g fr.1) fr.2.2.1 fr.2.2.2 pc lo st L
  · have e := hs.1 hp (some (g fr.1))
    unfold iw_ih at h
    rw [e] at h
    exact ⟨(Option.some.inj h).symm, hp⟩
  · have e := hs.2 hp (some (g fr.1))
    unfold iw_ih at h
    rw [e] at h
    cases h
theorem iw_ih_of {sc : Nat × Nat} {g : Nat → Nat × iv_H} {out : Nat × iv_H} {d mi c0 s0 pc : Nat} {lo st : List Nat} {L : iv_H} (hg : g d = out) (hc : pg_c mi ≠ 0) (h : iw_all sc mi d out c0 s0 pc lo st L) : iw_ih sc g (d, mi, c0, s0) (pg_c mi) pc lo st L = some out := by
  subst hg
  exact (iw_dec (pg_c mi = pg_c mi ∧ pg_c mi ≠ 0 ∧ iw_all sc mi d (g d) c0 s0 pc lo st L)).choose_spec.1 ⟨rfl, hc, h⟩ (some (g d))
theorem iw_IH (sc : Nat × Nat) (g : Nat → Nat × iv_H) : ∀ (d mi : Nat) (o : Nat × iv_H) (p : Program) (l : Launch) (e : Env) (R : Room) (s : State) (m : MethodId) (args : Array Value) (below : List Frame) (meth : Method) (c : Code) (D : va_G) (cI cB cJ : ClassId) (b : Nat → Nat) (ws0 : va_W), iv_Cx sc mi d p l R s m args meth c D cI cB cJ b ws0 → iv_IH (iw_ih sc g) d mi o p l e R s m args below meth c D cI cB cJ b ws0 := by
  intro d mi o p l e R s m args below meth c D cI cB cJ b ws0 X c0 s0 pc lo st L h
  obtain ⟨rfl, -, -, k⟩ := iw_ih_some h
  exact k p l e R s m args below meth c D cI cB cJ b ws0 X
theorem iw_TH (sc : Nat × Nat) (g : Nat → Nat × iv_H) : iv_TH sc (iw_ih sc g) := iv_begin lk_MO (fun d mj lo L hz => by
  cases h : iw_ih sc g (d, mj, 0, 0) (pg_c mj) 0 lo [] L with
  | none => rfl
  | some o => exact absurd hz (iw_ih_some h).2.2.1) (iw_IH sc g)
/-- one step -/
theorem iw_step {sc : Nat × Nat} {SM : iv_S} {g : Nat → Nat × iv_H} {out : Nat × iv_H} {d mi c0 s0 pc : Nat} {lo st : List Nat} {L : iv_H} (hSM : ∀ q ∈ SM, iv_Tri sc 12 q.1 q.2.1 q.2.2.1 q.2.2.2) (h : iv_step sc SM (iw_ih sc g) (d, mi, c0, s0) (pg_c mi) pc lo st L = some out) : iw_all sc mi d out c0 s0 pc lo st L := by
  intro p l e R s m args below meth c D cI cB cJ b ws0 X
  unfold iv_step at h
  rw [iv_f_eq] at h
  have h : iv_op sc SM (iw_ih sc g) (d, mi, c0, s0) (pg_c mi) pc (Nat.div (iv_wd mi pc) 16777216) (Nat.mod (Nat.div (iv_wd mi pc) 256) 65536) (Nat.mod (iv_wd mi pc) 256) lo st L = some out := h
  have hck := lk_CK mi pc
  unfold iv_k iv_ck at hck
  rcases (Bool.or_eq_true _ _).mp hck with k | k
  · rw [iv_n8] at k
    rw [k, iv_op0] at h
    cases h
  · cases hd : decode (pm_b mi) pc with
    | error z => rw [hd] at k; cases k
    | ok z =>
      obtain ⟨i, len⟩ := z
      rw [hd] at k
      exact ss_all X lk_F lk_FP lk_N lk_R lk_Q lk_T lk_M lk_A lk_H (iw_IH sc g d mi out p l e R s m args below meth c D cI cB cJ b ws0 X) (iw_TH sc g) hSM hd k h
/-- the method's contract out of its begin -/
theorem iw_tri {sc : Nat × Nat} {out : Nat × iv_H} {d mj : Nat} {as : List Nat} {L : iv_H} (hc : pg_c mj ≠ 0) (h1 : as.length ≤ (pg_i mj).1) (h2 : iv_wl as ≤ as.length) (h : iw_all sc mj d out 0 0 0 (as ++ List.replicate ((pg_i mj).1 - as.length) 147573952589676412928) [] L) : iv_Tri sc d mj as L out :=
  iw_TH sc (fun _ => out) d mj as L out h1 h2 (iw_ih_of rfl hc h)
