/-! ===== runs of the interpreter ===== -/
theorem iv_snd {sc : Nat × Nat} {SM : iv_S} (hSM : ∀ q ∈ SM, iv_Tri sc 12 q.1 q.2.1 q.2.2.1 q.2.2.2) (n : Nat) : ∀ (d mi : Nat) (out : Nat × iv_H) (p : Program) (l : Launch) (e : Env) (R : Room) (s : State) (m : MethodId) (args : Array Value) (below : List Frame) (meth : Method) (c : Code) (D : va_G) (cI cB cJ : ClassId) (b : Nat → Nat) (ws0 : va_W), iv_Cx sc mi d p l R s m args meth c D cI cB cJ b ws0 → iv_IH (iv_ev sc SM n) d mi out p l e R s m args below meth c D cI cB cJ b ws0 :=
  iv_sound lk_F lk_FP lk_N lk_R lk_Q lk_T lk_M lk_A lk_H lk_MO lk_CK hSM n
theorem iv_tri {sc : Nat × Nat} {SM : iv_S} (n d mj : Nat) (as : List Nat) (L : iv_H) (oj : Nat × iv_H) (hSM : ∀ q ∈ SM, iv_Tri sc 12 q.1 q.2.1 q.2.2.1 q.2.2.2) (h1 : as.length ≤ (pg_i mj).1) (h2 : iv_wl as ≤ as.length) (h : iv_ev sc SM n (d, mj, 0, 0) (pg_c mj) 0 (as ++ List.replicate ((pg_i mj).1 - as.length) 147573952589676412928) [] L = some oj) : iv_Tri sc d mj as L oj := by
  refine iv_begin (ih := iv_ev sc SM n) lk_MO (fun d mj lo L hz => ?_) (iv_snd hSM n) d mj as L oj h1 h2 h
  cases n with
  | zero => rfl
  | succ k =>
    rw [hz]
    rfl
theorem iv_lift {sc : Nat × Nat} {d mj : Nat} {as : List Nat} {L : iv_H} {oj : Nat × iv_H} (h : iv_Tri (0, 0) d mj as L oj) : iv_Tri sc d mj as L oj := by
  intro l D cI cB cJ b ws0 sz vs h1 h2 h3
  refine MetFree.mono (h l D cI cB cJ b ws0 sz vs h1 h2 h3) (fun a U hP => ?_) (fun _ _ _ _ _ z => z) (fun _ _ _ _ _ z => z)
  obtain ⟨p1, p2, p3, p4, q1, q2, q3, q4, q5, q6, -, q7⟩ := hP
  exact ⟨p1, p2, p3, p4, q1, q2, q3, q4, q5, q6, Or.inl rfl, q7⟩
noncomputable def iv_ok (r : iv_R) (v : Nat) (L : iv_H) : Bool := @Option.rec (Nat × iv_H) (fun _ => Bool) false (fun z => @Bool.rec (fun _ => Bool) false (iv_eqH z.2 L) (Nat.beq z.1 v)) r
theorem iv_ok_eq {r : iv_R} {v : Nat} {L : iv_H} (h : iv_ok r v L = true) : r = some (v, L) := by
  cases r with
  | none => cases h
  | some z =>
    have h : @Bool.rec (fun _ => Bool) false (iv_eqH z.2 L) (Nat.beq z.1 v) = true := h
    rcases iv_sub2_b h with ⟨h1, h2⟩ | ⟨-, h2⟩
    · have e1 := Nat.eq_of_beq_eq_true h1
      have e2 := iv_eqH_eq _ _ h2
      rw [← e1, ← e2]
    · cases h2
noncomputable def iv_okr (r : iv_R) (v : Nat) : Bool := @Option.rec (Nat × iv_H) (fun _ => Bool) false (fun z => Nat.beq z.1 v) r
theorem iv_okr_eq {r : iv_R} {v : Nat} (h : iv_okr r v = true) : ∃ L, r = some (v, L) := by
  cases r with
  | none => cases h
  | some z =>
    have h : Nat.beq z.1 v = true := h
    have e1 := Nat.eq_of_beq_eq_true h
    exact ⟨z.2, by rw [← e1]⟩
