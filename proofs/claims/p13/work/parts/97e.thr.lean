/-! ===== what is thrown ===== -/
set_option maxHeartbeats 0 in
/-- LentNamesModel.thrown()I -/
theorem c318_75 {sc : Nat × Nat} {d  : Nat} {h : xh} (hJ : J h) : X sc 318 d (xI fun r h' => h' = h ∧ (0 ≤ r ∧ r ≤ 4294967295) ∧ (r = h 75 0)) 0 0 0 [x_r 75] [] h := by
  refine x_aload (np := 1) (x := 0) (by decide +kernel) rfl (x_nc_le (by decide)) ?_
  refine x_getC (np := 4) (x := 704) (f := 0) (q := (h 75 0)) (by decide +kernel) (by decide) (by decide +kernel) rfl (fun l1 => ?_)
  refine x_retI (np := 5) (x := 0) (by decide +kernel) l1 (Or.inl (by decide +kernel)) ⟨_, rfl, l1, ?_⟩
  exact ⟨rfl, (by omega), (by omega)⟩
