/-! ===== fields and new ===== -/
def iv_FQK (own : String) (idx x : Nat) : Prop := ∀ ci, iv_sub2 ci (x / 64 % 64) = true → ∃ (C : String) (T : u_T) (N : Nat) (ref : String) (ty0 : Nat → FieldType) (tv : FieldType), vwCl[ci]? = some (C, T, N) ∧ x % 64 < N ∧ (∀ w ∈ u_ws C T N, w ∈ iv_T) ∧ (∀ k, k < N → parseFieldDescriptor (T k).2.2.1 = some (ty0 k)) ∧ (∀ a, a < N → ∀ b, b < N → a ≠ b → (T a).2.1 ≠ (T b).2.1) ∧
  Cond.fieldLink own idx ref (T (x % 64)).2.1 (T (x % 64)).2.2.1 ∈ iv_T ∧ ((T (x % 64)).1 = ref ∨ Cond.sameField ref (T (x % 64)).1 (T (x % 64)).2.1 (T (x % 64)).2.2.1 ∈ iv_T) ∧ parseFieldDescriptor (T (x % 64)).2.2.1 = some tv ∧
  ((x / 4096 % 4 = 0 ∧ tv = .int) ∨ (x / 4096 % 4 = 1 ∧ tv = .boolean) ∨ (x / 4096 % 4 = 2 ∧ ((∃ n, tv = .object n) ∨ ∃ t, tv = .array t))) ∧
  ((x / 16384 = 0 ∧ (T (x % 64)).2.2.2 = false) ∨ (x / 16384 = 1 ∧ (T (x % 64)).2.2.2 = true ∧ (T (x % 64)).1 = own) ∨ x / 16384 = 2)
def iv_NQK (own : String) (idx ci : Nat) : Prop := ∃ (C : String) (T : u_T) (N : Nat) (ty : Nat → FieldType), vwCl[ci]? = some (C, T, N) ∧ (∀ w ∈ u_ws C T N, w ∈ iv_T) ∧ (∀ k, k < N → parseFieldDescriptor (T k).2.2.1 = some (ty k)) ∧ Cond.classLink own idx C ∈ iv_T ∧ Cond.instantiable C N ∈ iv_T ∧ Cond.initialized C ∈ iv_T ∧ (pg_k ci).1 = N ∧
  ∀ k, k < N → (iv_gt (pg_k ci).2 k = 9223372039002259456 ∧ (ty k = .int ∨ ty k = .boolean)) ∨ (iv_gt (pg_k ci).2 k = 36893488147419103232 ∧ ((∃ n, ty k = .object n) ∨ ∃ t, ty k = .array t))
theorem fq_LentNames_Accounts_9 : iv_FQK "LentNames$Accounts" 9 24576 := fun ci hci => by
  have e := iv_sub2_eq hci (by decide)
  subst e
  exact ⟨RX0, TX0, 2, "LentNames$Accounts", tyX0, tyX0 (24576 % 64), rfl, by decide, cw_0, tyX0_ok, nmX0, tb_g (tb_1 (List.mem_of_getElem? (i := 234) rfl)) rfl, Or.inl rfl, tyX0_ok _ (by decide), Or.inr (Or.inr ⟨rfl, Or.inr ⟨_, rfl⟩⟩), Or.inr (Or.inl ⟨rfl, rfl, rfl⟩)⟩
theorem fq_LentNames_Accounts_15 : iv_FQK "LentNames$Accounts" 15 41477 := fun ci hci => by
  have e := iv_sub2_eq hci (by decide)
  subst e
  exact ⟨RX9, TX9, 10, "LentNames$Town", tyX9, tyX9 (41477 % 64), rfl, by decide, cw_8, tyX9_ok, nmX9, tb_g (tb_1 (List.mem_of_getElem? (i := 131) rfl)) rfl, Or.inl rfl, tyX9_ok _ (by decide), Or.inr (Or.inr ⟨rfl, Or.inr ⟨_, rfl⟩⟩), Or.inr (Or.inr rfl)⟩
theorem fq_LentNames_Accounts_26 : iv_FQK "LentNames$Accounts" 26 1 := fun ci hci => by
  have e := iv_sub2_eq hci (by decide)
  subst e
  exact ⟨RX0, TX0, 2, "LentNames$Accounts", tyX0, tyX0 (1 % 64), rfl, by decide, cw_0, tyX0_ok, nmX0, tb_g (tb_1 (List.mem_of_getElem? (i := 236) rfl)) rfl, Or.inl rfl, tyX0_ok _ (by decide), Or.inl ⟨rfl, rfl⟩, Or.inl ⟨rfl, rfl⟩⟩
theorem fq_LentNames_Accounts_30 : iv_FQK "LentNames$Accounts" 30 41474 := fun ci hci => by
  have e := iv_sub2_eq hci (by decide)
  subst e
  exact ⟨RX9, TX9, 10, "LentNames$Town", tyX9, tyX9 (41474 % 64), rfl, by decide, cw_8, tyX9_ok, nmX9, tb_g (tb_1 (List.mem_of_getElem? (i := 118) rfl)) rfl, Or.inl rfl, tyX9_ok _ (by decide), Or.inr (Or.inr ⟨rfl, Or.inl ⟨_, rfl⟩⟩), Or.inr (Or.inr rfl)⟩
theorem fq_LentNames_Accounts_34 : iv_FQK "LentNames$Accounts" 34 386 := fun ci hci => by
  have e := iv_sub2_eq hci (by decide)
  subst e
  exact ⟨RX7, TX7, 3, "LentNames$Table", tyX7, tyX7 (386 % 64), rfl, by decide, cw_6, tyX7_ok, nmX7, tb_g (tb_1 (List.mem_of_getElem? (i := 71) rfl)) rfl, Or.inl rfl, tyX7_ok _ (by decide), Or.inl ⟨rfl, rfl⟩, Or.inl ⟨rfl, rfl⟩⟩
def kfl_0 : List (Nat × Nat) := [(9, 24576), (15, 41477), (26, 1), (30, 41474), (34, 386)]
theorem kfl_ok_0 : ∀ q ∈ kfl_0, iv_FQK "LentNames$Accounts" q.1 q.2 := List.forall_mem_cons.mpr ⟨fq_LentNames_Accounts_9, List.forall_mem_cons.mpr ⟨fq_LentNames_Accounts_15, List.forall_mem_cons.mpr ⟨fq_LentNames_Accounts_26, List.forall_mem_cons.mpr ⟨fq_LentNames_Accounts_30, List.forall_mem_cons.mpr ⟨fq_LentNames_Accounts_34, fun q hq => nomatch hq⟩⟩⟩⟩⟩
theorem fq_LentNames_Calendar_9 : iv_FQK "LentNames$Calendar" 9 24640 := fun ci hci => by
  have e := iv_sub2_eq hci (by decide)
  subst e
  exact ⟨RX1, TX1, 14, "LentNames$Calendar", tyX1, tyX1 (24640 % 64), rfl, by decide, cw_1, tyX1_ok, nmX1, tb_g (tb_1 (List.mem_of_getElem? (i := 176) rfl)) rfl, Or.inl rfl, tyX1_ok _ (by decide), Or.inr (Or.inr ⟨rfl, Or.inr ⟨_, rfl⟩⟩), Or.inr (Or.inl ⟨rfl, rfl, rfl⟩)⟩
theorem fq_LentNames_Calendar_15 : iv_FQK "LentNames$Calendar" 15 24641 := fun ci hci => by
  have e := iv_sub2_eq hci (by decide)
  subst e
  exact ⟨RX1, TX1, 14, "LentNames$Calendar", tyX1, tyX1 (24641 % 64), rfl, by decide, cw_1, tyX1_ok, nmX1, tb_g (tb_1 (List.mem_of_getElem? (i := 180) rfl)) rfl, Or.inl rfl, tyX1_ok _ (by decide), Or.inr (Or.inr ⟨rfl, Or.inr ⟨_, rfl⟩⟩), Or.inr (Or.inl ⟨rfl, rfl, rfl⟩)⟩
theorem fq_LentNames_Calendar_18 : iv_FQK "LentNames$Calendar" 18 24642 := fun ci hci => by
  have e := iv_sub2_eq hci (by decide)
  subst e
  exact ⟨RX1, TX1, 14, "LentNames$Calendar", tyX1, tyX1 (24642 % 64), rfl, by decide, cw_1, tyX1_ok, nmX1, tb_g (tb_1 (List.mem_of_getElem? (i := 183) rfl)) rfl, Or.inl rfl, tyX1_ok _ (by decide), Or.inr (Or.inr ⟨rfl, Or.inr ⟨_, rfl⟩⟩), Or.inr (Or.inl ⟨rfl, rfl, rfl⟩)⟩
theorem fq_LentNames_Calendar_21 : iv_FQK "LentNames$Calendar" 21 24643 := fun ci hci => by
  have e := iv_sub2_eq hci (by decide)
  subst e
  exact ⟨RX1, TX1, 14, "LentNames$Calendar", tyX1, tyX1 (24643 % 64), rfl, by decide, cw_1, tyX1_ok, nmX1, tb_g (tb_1 (List.mem_of_getElem? (i := 185) rfl)) rfl, Or.inl rfl, tyX1_ok _ (by decide), Or.inr (Or.inr ⟨rfl, Or.inr ⟨_, rfl⟩⟩), Or.inr (Or.inl ⟨rfl, rfl, rfl⟩)⟩
theorem fq_LentNames_Calendar_24 : iv_FQK "LentNames$Calendar" 24 24644 := fun ci hci => by
  have e := iv_sub2_eq hci (by decide)
  subst e
  exact ⟨RX1, TX1, 14, "LentNames$Calendar", tyX1, tyX1 (24644 % 64), rfl, by decide, cw_1, tyX1_ok, nmX1, tb_g (tb_1 (List.mem_of_getElem? (i := 187) rfl)) rfl, Or.inl rfl, tyX1_ok _ (by decide), Or.inr (Or.inr ⟨rfl, Or.inr ⟨_, rfl⟩⟩), Or.inr (Or.inl ⟨rfl, rfl, rfl⟩)⟩
theorem fq_LentNames_Calendar_27 : iv_FQK "LentNames$Calendar" 27 24646 := fun ci hci => by
  have e := iv_sub2_eq hci (by decide)
  subst e
  exact ⟨RX1, TX1, 14, "LentNames$Calendar", tyX1, tyX1 (24646 % 64), rfl, by decide, cw_1, tyX1_ok, nmX1, tb_g (tb_1 (List.mem_of_getElem? (i := 191) rfl)) rfl, Or.inl rfl, tyX1_ok _ (by decide), Or.inr (Or.inr ⟨rfl, Or.inr ⟨_, rfl⟩⟩), Or.inr (Or.inl ⟨rfl, rfl, rfl⟩)⟩
theorem fq_LentNames_Calendar_30 : iv_FQK "LentNames$Calendar" 30 24647 := fun ci hci => by
  have e := iv_sub2_eq hci (by decide)
  subst e
  exact ⟨RX1, TX1, 14, "LentNames$Calendar", tyX1, tyX1 (24647 % 64), rfl, by decide, cw_1, tyX1_ok, nmX1, tb_g (tb_1 (List.mem_of_getElem? (i := 192) rfl)) rfl, Or.inl rfl, tyX1_ok _ (by decide), Or.inr (Or.inr ⟨rfl, Or.inr ⟨_, rfl⟩⟩), Or.inr (Or.inl ⟨rfl, rfl, rfl⟩)⟩
theorem fq_LentNames_Calendar_33 : iv_FQK "LentNames$Calendar" 33 24648 := fun ci hci => by
  have e := iv_sub2_eq hci (by decide)
  subst e
  exact ⟨RX1, TX1, 14, "LentNames$Calendar", tyX1, tyX1 (24648 % 64), rfl, by decide, cw_1, tyX1_ok, nmX1, tb_g (tb_1 (List.mem_of_getElem? (i := 193) rfl)) rfl, Or.inl rfl, tyX1_ok _ (by decide), Or.inr (Or.inr ⟨rfl, Or.inr ⟨_, rfl⟩⟩), Or.inr (Or.inl ⟨rfl, rfl, rfl⟩)⟩
theorem fq_LentNames_Calendar_36 : iv_FQK "LentNames$Calendar" 36 24649 := fun ci hci => by
  have e := iv_sub2_eq hci (by decide)
  subst e
  exact ⟨RX1, TX1, 14, "LentNames$Calendar", tyX1, tyX1 (24649 % 64), rfl, by decide, cw_1, tyX1_ok, nmX1, tb_g (tb_1 (List.mem_of_getElem? (i := 194) rfl)) rfl, Or.inl rfl, tyX1_ok _ (by decide), Or.inr (Or.inr ⟨rfl, Or.inr ⟨_, rfl⟩⟩), Or.inr (Or.inl ⟨rfl, rfl, rfl⟩)⟩
theorem fq_LentNames_Calendar_39 : iv_FQK "LentNames$Calendar" 39 24650 := fun ci hci => by
  have e := iv_sub2_eq hci (by decide)
  subst e
  exact ⟨RX1, TX1, 14, "LentNames$Calendar", tyX1, tyX1 (24650 % 64), rfl, by decide, cw_1, tyX1_ok, nmX1, tb_g (tb_1 (List.mem_of_getElem? (i := 195) rfl)) rfl, Or.inl rfl, tyX1_ok _ (by decide), Or.inr (Or.inr ⟨rfl, Or.inr ⟨_, rfl⟩⟩), Or.inr (Or.inl ⟨rfl, rfl, rfl⟩)⟩
theorem fq_LentNames_Calendar_42 : iv_FQK "LentNames$Calendar" 42 24651 := fun ci hci => by
  have e := iv_sub2_eq hci (by decide)
  subst e
  exact ⟨RX1, TX1, 14, "LentNames$Calendar", tyX1, tyX1 (24651 % 64), rfl, by decide, cw_1, tyX1_ok, nmX1, tb_g (tb_1 (List.mem_of_getElem? (i := 196) rfl)) rfl, Or.inl rfl, tyX1_ok _ (by decide), Or.inr (Or.inr ⟨rfl, Or.inr ⟨_, rfl⟩⟩), Or.inr (Or.inl ⟨rfl, rfl, rfl⟩)⟩
theorem fq_LentNames_Calendar_45 : iv_FQK "LentNames$Calendar" 45 24652 := fun ci hci => by
  have e := iv_sub2_eq hci (by decide)
  subst e
  exact ⟨RX1, TX1, 14, "LentNames$Calendar", tyX1, tyX1 (24652 % 64), rfl, by decide, cw_1, tyX1_ok, nmX1, tb_g (tb_1 (List.mem_of_getElem? (i := 197) rfl)) rfl, Or.inl rfl, tyX1_ok _ (by decide), Or.inr (Or.inr ⟨rfl, Or.inr ⟨_, rfl⟩⟩), Or.inr (Or.inl ⟨rfl, rfl, rfl⟩)⟩
theorem fq_LentNames_Calendar_48 : iv_FQK "LentNames$Calendar" 48 24653 := fun ci hci => by
  have e := iv_sub2_eq hci (by decide)
  subst e
  exact ⟨RX1, TX1, 14, "LentNames$Calendar", tyX1, tyX1 (24653 % 64), rfl, by decide, cw_1, tyX1_ok, nmX1, tb_g (tb_1 (List.mem_of_getElem? (i := 198) rfl)) rfl, Or.inl rfl, tyX1_ok _ (by decide), Or.inr (Or.inr ⟨rfl, Or.inr ⟨_, rfl⟩⟩), Or.inr (Or.inl ⟨rfl, rfl, rfl⟩)⟩
theorem fq_LentNames_Calendar_51 : iv_FQK "LentNames$Calendar" 51 8261 := fun ci hci => by
  have e := iv_sub2_eq hci (by decide)
  subst e
  exact ⟨RX1, TX1, 14, "LentNames$Calendar", tyX1, tyX1 (8261 % 64), rfl, by decide, cw_1, tyX1_ok, nmX1, tb_g (tb_1 (List.mem_of_getElem? (i := 190) rfl)) rfl, Or.inl rfl, tyX1_ok _ (by decide), Or.inr (Or.inr ⟨rfl, Or.inl ⟨_, rfl⟩⟩), Or.inl ⟨rfl, rfl⟩⟩
theorem fq_LentNames_Calendar_62 : iv_FQK "LentNames$Calendar" 62 521 := fun ci hci => by
  have e := iv_sub2_eq hci (by decide)
  subst e
  exact ⟨RX9, TX9, 10, "LentNames$Town", tyX9, tyX9 (521 % 64), rfl, by decide, cw_8, tyX9_ok, nmX9, tb_g (tb_1 (List.mem_of_getElem? (i := 145) rfl)) rfl, Or.inl rfl, tyX9_ok _ (by decide), Or.inl ⟨rfl, rfl⟩, Or.inl ⟨rfl, rfl⟩⟩
theorem fq_LentNames_Calendar_91 : iv_FQK "LentNames$Calendar" 91 519 := fun ci hci => by
  have e := iv_sub2_eq hci (by decide)
  subst e
  exact ⟨RX9, TX9, 10, "LentNames$Town", tyX9, tyX9 (519 % 64), rfl, by decide, cw_8, tyX9_ok, nmX9, tb_g (tb_1 (List.mem_of_getElem? (i := 138) rfl)) rfl, Or.inl rfl, tyX9_ok _ (by decide), Or.inl ⟨rfl, rfl⟩, Or.inl ⟨rfl, rfl⟩⟩
theorem fq_LentNames_Calendar_105 : iv_FQK "LentNames$Calendar" 105 41474 := fun ci hci => by
  have e := iv_sub2_eq hci (by decide)
  subst e
  exact ⟨RX9, TX9, 10, "LentNames$Town", tyX9, tyX9 (41474 % 64), rfl, by decide, cw_8, tyX9_ok, nmX9, tb_g (tb_1 (List.mem_of_getElem? (i := 120) rfl)) rfl, Or.inl rfl, tyX9_ok _ (by decide), Or.inr (Or.inr ⟨rfl, Or.inl ⟨_, rfl⟩⟩), Or.inr (Or.inr rfl)⟩
theorem fq_LentNames_Calendar_117 : iv_FQK "LentNames$Calendar" 117 41475 := fun ci hci => by
  have e := iv_sub2_eq hci (by decide)
  subst e
  exact ⟨RX9, TX9, 10, "LentNames$Town", tyX9, tyX9 (41475 % 64), rfl, by decide, cw_8, tyX9_ok, nmX9, tb_g (tb_1 (List.mem_of_getElem? (i := 125) rfl)) rfl, Or.inl rfl, tyX9_ok _ (by decide), Or.inr (Or.inr ⟨rfl, Or.inl ⟨_, rfl⟩⟩), Or.inr (Or.inr rfl)⟩
theorem fq_LentNames_Calendar_120 : iv_FQK "LentNames$Calendar" 120 41472 := fun ci hci => by
  have e := iv_sub2_eq hci (by decide)
  subst e
  exact ⟨RX9, TX9, 10, "LentNames$Town", tyX9, tyX9 (41472 % 64), rfl, by decide, cw_8, tyX9_ok, nmX9, tb_g (tb_1 (List.mem_of_getElem? (i := 111) rfl)) rfl, Or.inl rfl, tyX9_ok _ (by decide), Or.inr (Or.inr ⟨rfl, Or.inl ⟨_, rfl⟩⟩), Or.inr (Or.inr rfl)⟩
theorem fq_LentNames_Calendar_123 : iv_FQK "LentNames$Calendar" 123 386 := fun ci hci => by
  have e := iv_sub2_eq hci (by decide)
  subst e
  exact ⟨RX7, TX7, 3, "LentNames$Table", tyX7, tyX7 (386 % 64), rfl, by decide, cw_6, tyX7_ok, nmX7, tb_g (tb_1 (List.mem_of_getElem? (i := 76) rfl)) rfl, Or.inl rfl, tyX7_ok _ (by decide), Or.inl ⟨rfl, rfl⟩, Or.inl ⟨rfl, rfl⟩⟩
theorem fq_LentNames_Calendar_133 : iv_FQK "LentNames$Calendar" 133 41476 := fun ci hci => by
  have e := iv_sub2_eq hci (by decide)
  subst e
  exact ⟨RX9, TX9, 10, "LentNames$Town", tyX9, tyX9 (41476 % 64), rfl, by decide, cw_8, tyX9_ok, nmX9, tb_g (tb_1 (List.mem_of_getElem? (i := 129) rfl)) rfl, Or.inl rfl, tyX9_ok _ (by decide), Or.inr (Or.inr ⟨rfl, Or.inr ⟨_, rfl⟩⟩), Or.inr (Or.inr rfl)⟩
theorem fq_LentNames_Calendar_163 : iv_FQK "LentNames$Calendar" 163 41478 := fun ci hci => by
  have e := iv_sub2_eq hci (by decide)
  subst e
  exact ⟨RX9, TX9, 10, "LentNames$Town", tyX9, tyX9 (41478 % 64), rfl, by decide, cw_8, tyX9_ok, nmX9, tb_g (tb_1 (List.mem_of_getElem? (i := 135) rfl)) rfl, Or.inl rfl, tyX9_ok _ (by decide), Or.inr (Or.inr ⟨rfl, Or.inl ⟨_, rfl⟩⟩), Or.inr (Or.inr rfl)⟩
def kfl_1 : List (Nat × Nat) := [(9, 24640), (15, 24641), (18, 24642), (21, 24643), (24, 24644), (27, 24646), (30, 24647), (33, 24648), (36, 24649), (39, 24650), (42, 24651), (45, 24652), (48, 24653), (51, 8261), (62, 521), (91, 519), (105, 41474), (117, 41475), (120, 41472), (123, 386), (133, 41476), (163, 41478)]
theorem kfl_ok_1 : ∀ q ∈ kfl_1, iv_FQK "LentNames$Calendar" q.1 q.2 := List.forall_mem_cons.mpr ⟨fq_LentNames_Calendar_9, List.forall_mem_cons.mpr ⟨fq_LentNames_Calendar_15, List.forall_mem_cons.mpr ⟨fq_LentNames_Calendar_18, List.forall_mem_cons.mpr ⟨fq_LentNames_Calendar_21, List.forall_mem_cons.mpr ⟨fq_LentNames_Calendar_24, List.forall_mem_cons.mpr ⟨fq_LentNames_Calendar_27, List.forall_mem_cons.mpr ⟨fq_LentNames_Calendar_30, List.forall_mem_cons.mpr ⟨fq_LentNames_Calendar_33, List.forall_mem_cons.mpr ⟨fq_LentNames_Calendar_36, List.forall_mem_cons.mpr ⟨fq_LentNames_Calendar_39, List.forall_mem_cons.mpr ⟨fq_LentNames_Calendar_42, List.forall_mem_cons.mpr ⟨fq_LentNames_Calendar_45, List.forall_mem_cons.mpr ⟨fq_LentNames_Calendar_48, List.forall_mem_cons.mpr ⟨fq_LentNames_Calendar_51, List.forall_mem_cons.mpr ⟨fq_LentNames_Calendar_62, List.forall_mem_cons.mpr ⟨fq_LentNames_Calendar_91, List.forall_mem_cons.mpr ⟨fq_LentNames_Calendar_105, List.forall_mem_cons.mpr ⟨fq_LentNames_Calendar_117, List.forall_mem_cons.mpr ⟨fq_LentNames_Calendar_120, List.forall_mem_cons.mpr ⟨fq_LentNames_Calendar_123, List.forall_mem_cons.mpr ⟨fq_LentNames_Calendar_133, List.forall_mem_cons.mpr ⟨fq_LentNames_Calendar_163, fun q hq => nomatch hq⟩⟩⟩⟩⟩⟩⟩⟩⟩⟩⟩⟩⟩⟩⟩⟩⟩⟩⟩⟩⟩⟩
theorem fq_LentNames_Custom_9 : iv_FQK "LentNames$Custom" 9 24704 := fun ci hci => by
  have e := iv_sub2_eq hci (by decide)
  subst e
  exact ⟨RX2, TX2, 5, "LentNames$Custom", tyX2, tyX2 (24704 % 64), rfl, by decide, cw_2, tyX2_ok, nmX2, tb_g (tb_1 (List.mem_of_getElem? (i := 91) rfl)) rfl, Or.inl rfl, tyX2_ok _ (by decide), Or.inr (Or.inr ⟨rfl, Or.inr ⟨_, rfl⟩⟩), Or.inr (Or.inl ⟨rfl, rfl, rfl⟩)⟩
theorem fq_LentNames_Custom_15 : iv_FQK "LentNames$Custom" 15 24705 := fun ci hci => by
  have e := iv_sub2_eq hci (by decide)
  subst e
  exact ⟨RX2, TX2, 5, "LentNames$Custom", tyX2, tyX2 (24705 % 64), rfl, by decide, cw_2, tyX2_ok, nmX2, tb_g (tb_1 (List.mem_of_getElem? (i := 92) rfl)) rfl, Or.inl rfl, tyX2_ok _ (by decide), Or.inr (Or.inr ⟨rfl, Or.inr ⟨_, rfl⟩⟩), Or.inr (Or.inl ⟨rfl, rfl, rfl⟩)⟩
theorem fq_LentNames_Custom_18 : iv_FQK "LentNames$Custom" 18 130 := fun ci hci => by
  have e := iv_sub2_eq hci (by decide)
  subst e
  exact ⟨RX2, TX2, 5, "LentNames$Custom", tyX2, tyX2 (130 % 64), rfl, by decide, cw_2, tyX2_ok, nmX2, tb_g (tb_1 (List.mem_of_getElem? (i := 93) rfl)) rfl, Or.inl rfl, tyX2_ok _ (by decide), Or.inl ⟨rfl, rfl⟩, Or.inl ⟨rfl, rfl⟩⟩
theorem fq_LentNames_Custom_22 : iv_FQK "LentNames$Custom" 22 131 := fun ci hci => by
  have e := iv_sub2_eq hci (by decide)
  subst e
  exact ⟨RX2, TX2, 5, "LentNames$Custom", tyX2, tyX2 (131 % 64), rfl, by decide, cw_2, tyX2_ok, nmX2, tb_g (tb_1 (List.mem_of_getElem? (i := 94) rfl)) rfl, Or.inl rfl, tyX2_ok _ (by decide), Or.inl ⟨rfl, rfl⟩, Or.inl ⟨rfl, rfl⟩⟩
theorem fq_LentNames_Custom_31 : iv_FQK "LentNames$Custom" 31 132 := fun ci hci => by
  have e := iv_sub2_eq hci (by decide)
  subst e
  exact ⟨RX2, TX2, 5, "LentNames$Custom", tyX2, tyX2 (132 % 64), rfl, by decide, cw_2, tyX2_ok, nmX2, tb_g (tb_1 (List.mem_of_getElem? (i := 97) rfl)) rfl, Or.inl rfl, tyX2_ok _ (by decide), Or.inl ⟨rfl, rfl⟩, Or.inl ⟨rfl, rfl⟩⟩
def kfl_2 : List (Nat × Nat) := [(9, 24704), (15, 24705), (18, 130), (22, 131), (31, 132)]
theorem kfl_ok_2 : ∀ q ∈ kfl_2, iv_FQK "LentNames$Custom" q.1 q.2 := List.forall_mem_cons.mpr ⟨fq_LentNames_Custom_9, List.forall_mem_cons.mpr ⟨fq_LentNames_Custom_15, List.forall_mem_cons.mpr ⟨fq_LentNames_Custom_18, List.forall_mem_cons.mpr ⟨fq_LentNames_Custom_22, List.forall_mem_cons.mpr ⟨fq_LentNames_Custom_31, fun q hq => nomatch hq⟩⟩⟩⟩⟩
theorem fq_LentNames_CustomReader_9 : iv_FQK "LentNames$CustomReader" 9 24768 := fun ci hci => by
  have e := iv_sub2_eq hci (by decide)
  subst e
  exact ⟨RX3, TX3, 2, "LentNames$CustomReader", tyX3, tyX3 (24768 % 64), rfl, by decide, cw_3, tyX3_ok, nmX3, tb_g (tb_2 (List.mem_of_getElem? (i := 22) rfl)) rfl, Or.inl rfl, tyX3_ok _ (by decide), Or.inr (Or.inr ⟨rfl, Or.inl ⟨_, rfl⟩⟩), Or.inr (Or.inl ⟨rfl, rfl, rfl⟩)⟩
theorem fq_LentNames_CustomReader_15 : iv_FQK "LentNames$CustomReader" 15 8385 := fun ci hci => by
  have e := iv_sub2_eq hci (by decide)
  subst e
  exact ⟨RX3, TX3, 2, "LentNames$CustomReader", tyX3, tyX3 (8385 % 64), rfl, by decide, cw_3, tyX3_ok, nmX3, tb_g (tb_2 (List.mem_of_getElem? (i := 23) rfl)) rfl, Or.inl rfl, tyX3_ok _ (by decide), Or.inr (Or.inr ⟨rfl, Or.inl ⟨_, rfl⟩⟩), Or.inl ⟨rfl, rfl⟩⟩
theorem fq_LentNames_CustomReader_36 : iv_FQK "LentNames$CustomReader" 36 131 := fun ci hci => by
  have e := iv_sub2_eq hci (by decide)
  subst e
  exact ⟨RX2, TX2, 5, "LentNames$Custom", tyX2, tyX2 (131 % 64), rfl, by decide, cw_2, tyX2_ok, nmX2, tb_g (tb_1 (List.mem_of_getElem? (i := 95) rfl)) rfl, Or.inl rfl, tyX2_ok _ (by decide), Or.inl ⟨rfl, rfl⟩, Or.inl ⟨rfl, rfl⟩⟩
def kfl_3 : List (Nat × Nat) := [(9, 24768), (15, 8385), (36, 131)]
theorem kfl_ok_3 : ∀ q ∈ kfl_3, iv_FQK "LentNames$CustomReader" q.1 q.2 := List.forall_mem_cons.mpr ⟨fq_LentNames_CustomReader_9, List.forall_mem_cons.mpr ⟨fq_LentNames_CustomReader_15, List.forall_mem_cons.mpr ⟨fq_LentNames_CustomReader_36, fun q hq => nomatch hq⟩⟩⟩
theorem fq_LentNames_PlanSearch_9 : iv_FQK "LentNames$PlanSearch" 9 41729 := fun ci hci => by
  rcases iv_sub2_12 hci with rfl | rfl
  · exact ⟨RX4, TX4, 18, "LentNames$PlanSearch", tyX4, tyX4 (41729 % 64), rfl, by decide, cw_4, tyX4_ok, nmX4, tb_g (tb_2 (List.mem_of_getElem? (i := 44) rfl)) rfl, Or.inr (tb_g (tb_2 (List.mem_of_getElem? (i := 45) rfl)) rfl), tyX4_ok _ (by decide), Or.inr (Or.inr ⟨rfl, Or.inr ⟨_, rfl⟩⟩), Or.inr (Or.inr rfl)⟩
  · exact ⟨RX6, TX6, 19, "LentNames$PlanSearch", tyX6, tyX6 (41729 % 64), rfl, by decide, cw_5, tyX6_ok, nmX6, tb_g (tb_2 (List.mem_of_getElem? (i := 44) rfl)) rfl, Or.inr (tb_g (tb_2 (List.mem_of_getElem? (i := 45) rfl)) rfl), tyX6_ok _ (by decide), Or.inr (Or.inr ⟨rfl, Or.inr ⟨_, rfl⟩⟩), Or.inr (Or.inr rfl)⟩
theorem fq_LentNames_PlanSearch_22 : iv_FQK "LentNames$PlanSearch" 22 8966 := fun ci hci => by
  rcases iv_sub2_12 hci with rfl | rfl
  · exact ⟨RX4, TX4, 18, "LentNames$PlanSearch", tyX4, tyX4 (8966 % 64), rfl, by decide, cw_4, tyX4_ok, nmX4, tb_g (tb_2 (List.mem_of_getElem? (i := 57) rfl)) rfl, Or.inr (tb_g (tb_2 (List.mem_of_getElem? (i := 58) rfl)) rfl), tyX4_ok _ (by decide), Or.inr (Or.inr ⟨rfl, Or.inl ⟨_, rfl⟩⟩), Or.inl ⟨rfl, rfl⟩⟩
  · exact ⟨RX6, TX6, 19, "LentNames$PlanSearch", tyX6, tyX6 (8966 % 64), rfl, by decide, cw_5, tyX6_ok, nmX6, tb_g (tb_2 (List.mem_of_getElem? (i := 57) rfl)) rfl, Or.inr (tb_g (tb_2 (List.mem_of_getElem? (i := 58) rfl)) rfl), tyX6_ok _ (by decide), Or.inr (Or.inr ⟨rfl, Or.inl ⟨_, rfl⟩⟩), Or.inl ⟨rfl, rfl⟩⟩
theorem fq_LentNames_PlanSearch_26 : iv_FQK "LentNames$PlanSearch" 26 41473 := fun ci hci => by
  have e := iv_sub2_eq hci (by decide)
  subst e
  exact ⟨RX9, TX9, 10, "LentNames$Town", tyX9, tyX9 (41473 % 64), rfl, by decide, cw_8, tyX9_ok, nmX9, tb_g (tb_1 (List.mem_of_getElem? (i := 115) rfl)) rfl, Or.inl rfl, tyX9_ok _ (by decide), Or.inr (Or.inr ⟨rfl, Or.inl ⟨_, rfl⟩⟩), Or.inr (Or.inr rfl)⟩
theorem fq_LentNames_PlanSearch_32 : iv_FQK "LentNames$PlanSearch" 32 386 := fun ci hci => by
  have e := iv_sub2_eq hci (by decide)
  subst e
  exact ⟨RX7, TX7, 3, "LentNames$Table", tyX7, tyX7 (386 % 64), rfl, by decide, cw_6, tyX7_ok, nmX7, tb_g (tb_1 (List.mem_of_getElem? (i := 75) rfl)) rfl, Or.inl rfl, tyX7_ok _ (by decide), Or.inl ⟨rfl, rfl⟩, Or.inl ⟨rfl, rfl⟩⟩
theorem fq_LentNames_PlanSearch_42 : iv_FQK "LentNames$PlanSearch" 42 41728 := fun ci hci => by
  rcases iv_sub2_12 hci with rfl | rfl
  · exact ⟨RX4, TX4, 18, "LentNames$PlanSearch", tyX4, tyX4 (41728 % 64), rfl, by decide, cw_4, tyX4_ok, nmX4, tb_g (tb_2 (List.mem_of_getElem? (i := 41) rfl)) rfl, Or.inr (tb_g (tb_2 (List.mem_of_getElem? (i := 42) rfl)) rfl), tyX4_ok _ (by decide), Or.inr (Or.inr ⟨rfl, Or.inr ⟨_, rfl⟩⟩), Or.inr (Or.inr rfl)⟩
  · exact ⟨RX6, TX6, 19, "LentNames$PlanSearch", tyX6, tyX6 (41728 % 64), rfl, by decide, cw_5, tyX6_ok, nmX6, tb_g (tb_2 (List.mem_of_getElem? (i := 41) rfl)) rfl, Or.inr (tb_g (tb_2 (List.mem_of_getElem? (i := 42) rfl)) rfl), tyX6_ok _ (by decide), Or.inr (Or.inr ⟨rfl, Or.inr ⟨_, rfl⟩⟩), Or.inr (Or.inr rfl)⟩
theorem fq_LentNames_PlanSearch_56 : iv_FQK "LentNames$PlanSearch" 56 519 := fun ci hci => by
  have e := iv_sub2_eq hci (by decide)
  subst e
  exact ⟨RX9, TX9, 10, "LentNames$Town", tyX9, tyX9 (519 % 64), rfl, by decide, cw_8, tyX9_ok, nmX9, tb_g (tb_1 (List.mem_of_getElem? (i := 140) rfl)) rfl, Or.inl rfl, tyX9_ok _ (by decide), Or.inl ⟨rfl, rfl⟩, Or.inl ⟨rfl, rfl⟩⟩
theorem fq_LentNames_PlanSearch_59 : iv_FQK "LentNames$PlanSearch" 59 41733 := fun ci hci => by
  rcases iv_sub2_12 hci with rfl | rfl
  · exact ⟨RX4, TX4, 18, "LentNames$PlanSearch", tyX4, tyX4 (41733 % 64), rfl, by decide, cw_4, tyX4_ok, nmX4, tb_g (tb_2 (List.mem_of_getElem? (i := 52) rfl)) rfl, Or.inr (tb_g (tb_2 (List.mem_of_getElem? (i := 53) rfl)) rfl), tyX4_ok _ (by decide), Or.inr (Or.inr ⟨rfl, Or.inl ⟨_, rfl⟩⟩), Or.inr (Or.inr rfl)⟩
  · exact ⟨RX6, TX6, 19, "LentNames$PlanSearch", tyX6, tyX6 (41733 % 64), rfl, by decide, cw_5, tyX6_ok, nmX6, tb_g (tb_2 (List.mem_of_getElem? (i := 52) rfl)) rfl, Or.inr (tb_g (tb_2 (List.mem_of_getElem? (i := 53) rfl)) rfl), tyX6_ok _ (by decide), Or.inr (Or.inr ⟨rfl, Or.inl ⟨_, rfl⟩⟩), Or.inr (Or.inr rfl)⟩
theorem fq_LentNames_PlanSearch_63 : iv_FQK "LentNames$PlanSearch" 63 41024 := fun ci hci => by
  have e := iv_sub2_eq hci (by decide)
  subst e
  exact ⟨RX1, TX1, 14, "LentNames$Calendar", tyX1, tyX1 (41024 % 64), rfl, by decide, cw_1, tyX1_ok, nmX1, tb_g (tb_1 (List.mem_of_getElem? (i := 177) rfl)) rfl, Or.inl rfl, tyX1_ok _ (by decide), Or.inr (Or.inr ⟨rfl, Or.inr ⟨_, rfl⟩⟩), Or.inr (Or.inr rfl)⟩
theorem fq_LentNames_PlanSearch_68 : iv_FQK "LentNames$PlanSearch" 68 775 := fun ci hci => by
  rcases iv_sub2_12 hci with rfl | rfl
  · exact ⟨RX4, TX4, 18, "LentNames$PlanSearch", tyX4, tyX4 (775 % 64), rfl, by decide, cw_4, tyX4_ok, nmX4, tb_g (tb_2 (List.mem_of_getElem? (i := 62) rfl)) rfl, Or.inr (tb_g (tb_2 (List.mem_of_getElem? (i := 63) rfl)) rfl), tyX4_ok _ (by decide), Or.inl ⟨rfl, rfl⟩, Or.inl ⟨rfl, rfl⟩⟩
  · exact ⟨RX6, TX6, 19, "LentNames$PlanSearch", tyX6, tyX6 (775 % 64), rfl, by decide, cw_5, tyX6_ok, nmX6, tb_g (tb_2 (List.mem_of_getElem? (i := 62) rfl)) rfl, Or.inr (tb_g (tb_2 (List.mem_of_getElem? (i := 63) rfl)) rfl), tyX6_ok _ (by decide), Or.inl ⟨rfl, rfl⟩, Or.inl ⟨rfl, rfl⟩⟩
def kfl_4 : List (Nat × Nat) := [(9, 41729), (22, 8966), (26, 41473), (32, 386), (42, 41728), (56, 519), (59, 41733), (63, 41024), (68, 775)]
theorem kfl_ok_4 : ∀ q ∈ kfl_4, iv_FQK "LentNames$PlanSearch" q.1 q.2 := List.forall_mem_cons.mpr ⟨fq_LentNames_PlanSearch_9, List.forall_mem_cons.mpr ⟨fq_LentNames_PlanSearch_22, List.forall_mem_cons.mpr ⟨fq_LentNames_PlanSearch_26, List.forall_mem_cons.mpr ⟨fq_LentNames_PlanSearch_32, List.forall_mem_cons.mpr ⟨fq_LentNames_PlanSearch_42, List.forall_mem_cons.mpr ⟨fq_LentNames_PlanSearch_56, List.forall_mem_cons.mpr ⟨fq_LentNames_PlanSearch_59, List.forall_mem_cons.mpr ⟨fq_LentNames_PlanSearch_63, List.forall_mem_cons.mpr ⟨fq_LentNames_PlanSearch_68, fun q hq => nomatch hq⟩⟩⟩⟩⟩⟩⟩⟩⟩
theorem fq_LentNames_SecretSearch_9 : iv_FQK "LentNames$SecretSearch" 9 8966 := fun ci hci => by
  rcases iv_sub2_12 hci with rfl | rfl
  · exact ⟨RX4, TX4, 18, "LentNames$SecretSearch", tyX4, tyX4 (8966 % 64), rfl, by decide, cw_4, tyX4_ok, nmX4, tb_g (tb_2 (List.mem_of_getElem? (i := 55) rfl)) rfl, Or.inr (tb_g (tb_2 (List.mem_of_getElem? (i := 56) rfl)) rfl), tyX4_ok _ (by decide), Or.inr (Or.inr ⟨rfl, Or.inl ⟨_, rfl⟩⟩), Or.inl ⟨rfl, rfl⟩⟩
  · exact ⟨RX6, TX6, 19, "LentNames$SecretSearch", tyX6, tyX6 (8966 % 64), rfl, by decide, cw_5, tyX6_ok, nmX6, tb_g (tb_2 (List.mem_of_getElem? (i := 55) rfl)) rfl, Or.inr (tb_g (tb_2 (List.mem_of_getElem? (i := 56) rfl)) rfl), tyX6_ok _ (by decide), Or.inr (Or.inr ⟨rfl, Or.inl ⟨_, rfl⟩⟩), Or.inl ⟨rfl, rfl⟩⟩
theorem fq_LentNames_SecretSearch_15 : iv_FQK "LentNames$SecretSearch" 15 775 := fun ci hci => by
  rcases iv_sub2_12 hci with rfl | rfl
  · exact ⟨RX4, TX4, 18, "LentNames$SecretSearch", tyX4, tyX4 (775 % 64), rfl, by decide, cw_4, tyX4_ok, nmX4, tb_g (tb_2 (List.mem_of_getElem? (i := 59) rfl)) rfl, Or.inr (tb_g (tb_2 (List.mem_of_getElem? (i := 60) rfl)) rfl), tyX4_ok _ (by decide), Or.inl ⟨rfl, rfl⟩, Or.inl ⟨rfl, rfl⟩⟩
  · exact ⟨RX6, TX6, 19, "LentNames$SecretSearch", tyX6, tyX6 (775 % 64), rfl, by decide, cw_5, tyX6_ok, nmX6, tb_g (tb_2 (List.mem_of_getElem? (i := 59) rfl)) rfl, Or.inr (tb_g (tb_2 (List.mem_of_getElem? (i := 60) rfl)) rfl), tyX6_ok _ (by decide), Or.inl ⟨rfl, rfl⟩, Or.inl ⟨rfl, rfl⟩⟩
theorem fq_LentNames_SecretSearch_25 : iv_FQK "LentNames$SecretSearch" 25 338 := fun ci hci => by
  have e := iv_sub2_eq hci (by decide)
  subst e
  exact ⟨RX6, TX6, 19, "LentNames$SecretSearch", tyX6, tyX6 (338 % 64), rfl, by decide, cw_5, tyX6_ok, nmX6, tb_g (tb_2 (List.mem_of_getElem? (i := 123) rfl)) rfl, Or.inl rfl, tyX6_ok _ (by decide), Or.inl ⟨rfl, rfl⟩, Or.inl ⟨rfl, rfl⟩⟩
theorem fq_LentNames_SecretSearch_28 : iv_FQK "LentNames$SecretSearch" 28 41729 := fun ci hci => by
  rcases iv_sub2_12 hci with rfl | rfl
  · exact ⟨RX4, TX4, 18, "LentNames$SecretSearch", tyX4, tyX4 (41729 % 64), rfl, by decide, cw_4, tyX4_ok, nmX4, tb_g (tb_2 (List.mem_of_getElem? (i := 46) rfl)) rfl, Or.inr (tb_g (tb_2 (List.mem_of_getElem? (i := 47) rfl)) rfl), tyX4_ok _ (by decide), Or.inr (Or.inr ⟨rfl, Or.inr ⟨_, rfl⟩⟩), Or.inr (Or.inr rfl)⟩
  · exact ⟨RX6, TX6, 19, "LentNames$SecretSearch", tyX6, tyX6 (41729 % 64), rfl, by decide, cw_5, tyX6_ok, nmX6, tb_g (tb_2 (List.mem_of_getElem? (i := 46) rfl)) rfl, Or.inr (tb_g (tb_2 (List.mem_of_getElem? (i := 47) rfl)) rfl), tyX6_ok _ (by decide), Or.inr (Or.inr ⟨rfl, Or.inr ⟨_, rfl⟩⟩), Or.inr (Or.inr rfl)⟩
theorem fq_LentNames_SecretSearch_32 : iv_FQK "LentNames$SecretSearch" 32 41475 := fun ci hci => by
  have e := iv_sub2_eq hci (by decide)
  subst e
  exact ⟨RX9, TX9, 10, "LentNames$Town", tyX9, tyX9 (41475 % 64), rfl, by decide, cw_8, tyX9_ok, nmX9, tb_g (tb_1 (List.mem_of_getElem? (i := 124) rfl)) rfl, Or.inl rfl, tyX9_ok _ (by decide), Or.inr (Or.inr ⟨rfl, Or.inl ⟨_, rfl⟩⟩), Or.inr (Or.inr rfl)⟩
theorem fq_LentNames_SecretSearch_36 : iv_FQK "LentNames$SecretSearch" 36 386 := fun ci hci => by
  have e := iv_sub2_eq hci (by decide)
  subst e
  exact ⟨RX7, TX7, 3, "LentNames$Table", tyX7, tyX7 (386 % 64), rfl, by decide, cw_6, tyX7_ok, nmX7, tb_g (tb_1 (List.mem_of_getElem? (i := 72) rfl)) rfl, Or.inl rfl, tyX7_ok _ (by decide), Or.inl ⟨rfl, rfl⟩, Or.inl ⟨rfl, rfl⟩⟩
theorem fq_LentNames_SecretSearch_57 : iv_FQK "LentNames$SecretSearch" 57 519 := fun ci hci => by
  have e := iv_sub2_eq hci (by decide)
  subst e
  exact ⟨RX9, TX9, 10, "LentNames$Town", tyX9, tyX9 (519 % 64), rfl, by decide, cw_8, tyX9_ok, nmX9, tb_g (tb_1 (List.mem_of_getElem? (i := 139) rfl)) rfl, Or.inl rfl, tyX9_ok _ (by decide), Or.inl ⟨rfl, rfl⟩, Or.inl ⟨rfl, rfl⟩⟩
theorem fq_LentNames_SecretSearch_60 : iv_FQK "LentNames$SecretSearch" 60 41728 := fun ci hci => by
  rcases iv_sub2_12 hci with rfl | rfl
  · exact ⟨RX4, TX4, 18, "LentNames$SecretSearch", tyX4, tyX4 (41728 % 64), rfl, by decide, cw_4, tyX4_ok, nmX4, tb_g (tb_2 (List.mem_of_getElem? (i := 39) rfl)) rfl, Or.inr (tb_g (tb_2 (List.mem_of_getElem? (i := 40) rfl)) rfl), tyX4_ok _ (by decide), Or.inr (Or.inr ⟨rfl, Or.inr ⟨_, rfl⟩⟩), Or.inr (Or.inr rfl)⟩
  · exact ⟨RX6, TX6, 19, "LentNames$SecretSearch", tyX6, tyX6 (41728 % 64), rfl, by decide, cw_5, tyX6_ok, nmX6, tb_g (tb_2 (List.mem_of_getElem? (i := 39) rfl)) rfl, Or.inr (tb_g (tb_2 (List.mem_of_getElem? (i := 40) rfl)) rfl), tyX6_ok _ (by decide), Or.inr (Or.inr ⟨rfl, Or.inr ⟨_, rfl⟩⟩), Or.inr (Or.inr rfl)⟩
def kfl_5 : List (Nat × Nat) := [(9, 8966), (15, 775), (25, 338), (28, 41729), (32, 41475), (36, 386), (57, 519), (60, 41728)]
theorem kfl_ok_5 : ∀ q ∈ kfl_5, iv_FQK "LentNames$SecretSearch" q.1 q.2 := List.forall_mem_cons.mpr ⟨fq_LentNames_SecretSearch_9, List.forall_mem_cons.mpr ⟨fq_LentNames_SecretSearch_15, List.forall_mem_cons.mpr ⟨fq_LentNames_SecretSearch_25, List.forall_mem_cons.mpr ⟨fq_LentNames_SecretSearch_28, List.forall_mem_cons.mpr ⟨fq_LentNames_SecretSearch_32, List.forall_mem_cons.mpr ⟨fq_LentNames_SecretSearch_36, List.forall_mem_cons.mpr ⟨fq_LentNames_SecretSearch_57, List.forall_mem_cons.mpr ⟨fq_LentNames_SecretSearch_60, fun q hq => nomatch hq⟩⟩⟩⟩⟩⟩⟩⟩
theorem fq_LentNames_Table_9 : iv_FQK "LentNames$Table" 9 16768 := fun ci hci => by
  have e := iv_sub2_eq hci (by decide)
  subst e
  exact ⟨RX7, TX7, 3, "LentNames$Table", tyX7, tyX7 (16768 % 64), rfl, by decide, cw_6, tyX7_ok, nmX7, tb_g (tb_1 (List.mem_of_getElem? (i := 68) rfl)) rfl, Or.inl rfl, tyX7_ok _ (by decide), Or.inl ⟨rfl, rfl⟩, Or.inr (Or.inl ⟨rfl, rfl, rfl⟩)⟩
theorem fq_LentNames_Table_15 : iv_FQK "LentNames$Table" 15 24961 := fun ci hci => by
  have e := iv_sub2_eq hci (by decide)
  subst e
  exact ⟨RX7, TX7, 3, "LentNames$Table", tyX7, tyX7 (24961 % 64), rfl, by decide, cw_6, tyX7_ok, nmX7, tb_g (tb_1 (List.mem_of_getElem? (i := 69) rfl)) rfl, Or.inl rfl, tyX7_ok _ (by decide), Or.inr (Or.inr ⟨rfl, Or.inr ⟨_, rfl⟩⟩), Or.inr (Or.inl ⟨rfl, rfl, rfl⟩)⟩
theorem fq_LentNames_Table_19 : iv_FQK "LentNames$Table" 19 386 := fun ci hci => by
  have e := iv_sub2_eq hci (by decide)
  subst e
  exact ⟨RX7, TX7, 3, "LentNames$Table", tyX7, tyX7 (386 % 64), rfl, by decide, cw_6, tyX7_ok, nmX7, tb_g (tb_1 (List.mem_of_getElem? (i := 70) rfl)) rfl, Or.inl rfl, tyX7_ok _ (by decide), Or.inl ⟨rfl, rfl⟩, Or.inl ⟨rfl, rfl⟩⟩
def kfl_6 : List (Nat × Nat) := [(9, 16768), (15, 24961), (19, 386)]
theorem kfl_ok_6 : ∀ q ∈ kfl_6, iv_FQK "LentNames$Table" q.1 q.2 := List.forall_mem_cons.mpr ⟨fq_LentNames_Table_9, List.forall_mem_cons.mpr ⟨fq_LentNames_Table_15, List.forall_mem_cons.mpr ⟨fq_LentNames_Table_19, fun q hq => nomatch hq⟩⟩⟩
theorem fq_LentNames_Tape_9 : iv_FQK "LentNames$Tape" 9 25024 := fun ci hci => by
  have e := iv_sub2_eq hci (by decide)
  subst e
  exact ⟨RX8, TX8, 3, "LentNames$Tape", tyX8, tyX8 (25024 % 64), rfl, by decide, cw_7, tyX8_ok, nmX8, tb_g (tb_1 (List.mem_of_getElem? (i := 43) rfl)) rfl, Or.inl rfl, tyX8_ok _ (by decide), Or.inr (Or.inr ⟨rfl, Or.inr ⟨_, rfl⟩⟩), Or.inr (Or.inl ⟨rfl, rfl, rfl⟩)⟩
theorem fq_LentNames_Tape_15 : iv_FQK "LentNames$Tape" 15 449 := fun ci hci => by
  have e := iv_sub2_eq hci (by decide)
  subst e
  exact ⟨RX8, TX8, 3, "LentNames$Tape", tyX8, tyX8 (449 % 64), rfl, by decide, cw_7, tyX8_ok, nmX8, tb_g (tb_1 (List.mem_of_getElem? (i := 45) rfl)) rfl, Or.inl rfl, tyX8_ok _ (by decide), Or.inl ⟨rfl, rfl⟩, Or.inl ⟨rfl, rfl⟩⟩
theorem fq_LentNames_Tape_23 : iv_FQK "LentNames$Tape" 23 450 := fun ci hci => by
  have e := iv_sub2_eq hci (by decide)
  subst e
  exact ⟨RX8, TX8, 3, "LentNames$Tape", tyX8, tyX8 (450 % 64), rfl, by decide, cw_7, tyX8_ok, nmX8, tb_g (tb_1 (List.mem_of_getElem? (i := 46) rfl)) rfl, Or.inl rfl, tyX8_ok _ (by decide), Or.inl ⟨rfl, rfl⟩, Or.inl ⟨rfl, rfl⟩⟩
def kfl_7 : List (Nat × Nat) := [(9, 25024), (15, 449), (23, 450)]
theorem kfl_ok_7 : ∀ q ∈ kfl_7, iv_FQK "LentNames$Tape" q.1 q.2 := List.forall_mem_cons.mpr ⟨fq_LentNames_Tape_9, List.forall_mem_cons.mpr ⟨fq_LentNames_Tape_15, List.forall_mem_cons.mpr ⟨fq_LentNames_Tape_23, fun q hq => nomatch hq⟩⟩⟩
theorem fq_LentNames_Town_14 : iv_FQK "LentNames$Town" 14 25088 := fun ci hci => by
  have e := iv_sub2_eq hci (by decide)
  subst e
  exact ⟨RX9, TX9, 10, "LentNames$Town", tyX9, tyX9 (25088 % 64), rfl, by decide, cw_8, tyX9_ok, nmX9, tb_g (tb_1 (List.mem_of_getElem? (i := 109) rfl)) rfl, Or.inl rfl, tyX9_ok _ (by decide), Or.inr (Or.inr ⟨rfl, Or.inl ⟨_, rfl⟩⟩), Or.inr (Or.inl ⟨rfl, rfl, rfl⟩)⟩
theorem fq_LentNames_Town_20 : iv_FQK "LentNames$Town" 20 25089 := fun ci hci => by
  have e := iv_sub2_eq hci (by decide)
  subst e
  exact ⟨RX9, TX9, 10, "LentNames$Town", tyX9, tyX9 (25089 % 64), rfl, by decide, cw_8, tyX9_ok, nmX9, tb_g (tb_1 (List.mem_of_getElem? (i := 113) rfl)) rfl, Or.inl rfl, tyX9_ok _ (by decide), Or.inr (Or.inr ⟨rfl, Or.inl ⟨_, rfl⟩⟩), Or.inr (Or.inl ⟨rfl, rfl, rfl⟩)⟩
theorem fq_LentNames_Town_23 : iv_FQK "LentNames$Town" 23 25090 := fun ci hci => by
  have e := iv_sub2_eq hci (by decide)
  subst e
  exact ⟨RX9, TX9, 10, "LentNames$Town", tyX9, tyX9 (25090 % 64), rfl, by decide, cw_8, tyX9_ok, nmX9, tb_g (tb_1 (List.mem_of_getElem? (i := 117) rfl)) rfl, Or.inl rfl, tyX9_ok _ (by decide), Or.inr (Or.inr ⟨rfl, Or.inl ⟨_, rfl⟩⟩), Or.inr (Or.inl ⟨rfl, rfl, rfl⟩)⟩
theorem fq_LentNames_Town_26 : iv_FQK "LentNames$Town" 26 25091 := fun ci hci => by
  have e := iv_sub2_eq hci (by decide)
  subst e
  exact ⟨RX9, TX9, 10, "LentNames$Town", tyX9, tyX9 (25091 % 64), rfl, by decide, cw_8, tyX9_ok, nmX9, tb_g (tb_1 (List.mem_of_getElem? (i := 122) rfl)) rfl, Or.inl rfl, tyX9_ok _ (by decide), Or.inr (Or.inr ⟨rfl, Or.inl ⟨_, rfl⟩⟩), Or.inr (Or.inl ⟨rfl, rfl, rfl⟩)⟩
theorem fq_LentNames_Town_29 : iv_FQK "LentNames$Town" 29 25092 := fun ci hci => by
  have e := iv_sub2_eq hci (by decide)
  subst e
  exact ⟨RX9, TX9, 10, "LentNames$Town", tyX9, tyX9 (25092 % 64), rfl, by decide, cw_8, tyX9_ok, nmX9, tb_g (tb_1 (List.mem_of_getElem? (i := 127) rfl)) rfl, Or.inl rfl, tyX9_ok _ (by decide), Or.inr (Or.inr ⟨rfl, Or.inr ⟨_, rfl⟩⟩), Or.inr (Or.inl ⟨rfl, rfl, rfl⟩)⟩
theorem fq_LentNames_Town_33 : iv_FQK "LentNames$Town" 33 25093 := fun ci hci => by
  have e := iv_sub2_eq hci (by decide)
  subst e
  exact ⟨RX9, TX9, 10, "LentNames$Town", tyX9, tyX9 (25093 % 64), rfl, by decide, cw_8, tyX9_ok, nmX9, tb_g (tb_1 (List.mem_of_getElem? (i := 130) rfl)) rfl, Or.inl rfl, tyX9_ok _ (by decide), Or.inr (Or.inr ⟨rfl, Or.inr ⟨_, rfl⟩⟩), Or.inr (Or.inl ⟨rfl, rfl, rfl⟩)⟩
theorem fq_LentNames_Town_39 : iv_FQK "LentNames$Town" 39 25094 := fun ci hci => by
  have e := iv_sub2_eq hci (by decide)
  subst e
  exact ⟨RX9, TX9, 10, "LentNames$Town", tyX9, tyX9 (25094 % 64), rfl, by decide, cw_8, tyX9_ok, nmX9, tb_g (tb_1 (List.mem_of_getElem? (i := 133) rfl)) rfl, Or.inl rfl, tyX9_ok _ (by decide), Or.inr (Or.inr ⟨rfl, Or.inl ⟨_, rfl⟩⟩), Or.inr (Or.inl ⟨rfl, rfl, rfl⟩)⟩
theorem fq_LentNames_Town_43 : iv_FQK "LentNames$Town" 43 519 := fun ci hci => by
  have e := iv_sub2_eq hci (by decide)
  subst e
  exact ⟨RX9, TX9, 10, "LentNames$Town", tyX9, tyX9 (519 % 64), rfl, by decide, cw_8, tyX9_ok, nmX9, tb_g (tb_1 (List.mem_of_getElem? (i := 136) rfl)) rfl, Or.inl rfl, tyX9_ok _ (by decide), Or.inl ⟨rfl, rfl⟩, Or.inl ⟨rfl, rfl⟩⟩
theorem fq_LentNames_Town_61 : iv_FQK "LentNames$Town" 61 520 := fun ci hci => by
  have e := iv_sub2_eq hci (by decide)
  subst e
  exact ⟨RX9, TX9, 10, "LentNames$Town", tyX9, tyX9 (520 % 64), rfl, by decide, cw_8, tyX9_ok, nmX9, tb_g (tb_1 (List.mem_of_getElem? (i := 143) rfl)) rfl, Or.inl rfl, tyX9_ok _ (by decide), Or.inl ⟨rfl, rfl⟩, Or.inl ⟨rfl, rfl⟩⟩
theorem fq_LentNames_Town_64 : iv_FQK "LentNames$Town" 64 521 := fun ci hci => by
  have e := iv_sub2_eq hci (by decide)
  subst e
  exact ⟨RX9, TX9, 10, "LentNames$Town", tyX9, tyX9 (521 % 64), rfl, by decide, cw_8, tyX9_ok, nmX9, tb_g (tb_1 (List.mem_of_getElem? (i := 146) rfl)) rfl, Or.inl rfl, tyX9_ok _ (by decide), Or.inl ⟨rfl, rfl⟩, Or.inl ⟨rfl, rfl⟩⟩
theorem fq_LentNames_Town_75 : iv_FQK "LentNames$Town" 75 386 := fun ci hci => by
  have e := iv_sub2_eq hci (by decide)
  subst e
  exact ⟨RX7, TX7, 3, "LentNames$Table", tyX7, tyX7 (386 % 64), rfl, by decide, cw_6, tyX7_ok, nmX7, tb_g (tb_1 (List.mem_of_getElem? (i := 73) rfl)) rfl, Or.inl rfl, tyX7_ok _ (by decide), Or.inl ⟨rfl, rfl⟩, Or.inl ⟨rfl, rfl⟩⟩
def kfl_8 : List (Nat × Nat) := [(14, 25088), (20, 25089), (23, 25090), (26, 25091), (29, 25092), (33, 25093), (39, 25094), (43, 519), (61, 520), (64, 521), (75, 386)]
theorem kfl_ok_8 : ∀ q ∈ kfl_8, iv_FQK "LentNames$Town" q.1 q.2 := List.forall_mem_cons.mpr ⟨fq_LentNames_Town_14, List.forall_mem_cons.mpr ⟨fq_LentNames_Town_20, List.forall_mem_cons.mpr ⟨fq_LentNames_Town_23, List.forall_mem_cons.mpr ⟨fq_LentNames_Town_26, List.forall_mem_cons.mpr ⟨fq_LentNames_Town_29, List.forall_mem_cons.mpr ⟨fq_LentNames_Town_33, List.forall_mem_cons.mpr ⟨fq_LentNames_Town_39, List.forall_mem_cons.mpr ⟨fq_LentNames_Town_43, List.forall_mem_cons.mpr ⟨fq_LentNames_Town_61, List.forall_mem_cons.mpr ⟨fq_LentNames_Town_64, List.forall_mem_cons.mpr ⟨fq_LentNames_Town_75, fun q hq => nomatch hq⟩⟩⟩⟩⟩⟩⟩⟩⟩⟩⟩
theorem fq_LentNames_TownReader_9 : iv_FQK "LentNames$TownReader" 9 25152 := fun ci hci => by
  have e := iv_sub2_eq hci (by decide)
  subst e
  exact ⟨RX10, TX10, 2, "LentNames$TownReader", tyX10, tyX10 (25152 % 64), rfl, by decide, cw_9, tyX10_ok, nmX10, tb_g (tb_2 (List.mem_of_getElem? (i := 9) rfl)) rfl, Or.inl rfl, tyX10_ok _ (by decide), Or.inr (Or.inr ⟨rfl, Or.inl ⟨_, rfl⟩⟩), Or.inr (Or.inl ⟨rfl, rfl, rfl⟩)⟩
theorem fq_LentNames_TownReader_15 : iv_FQK "LentNames$TownReader" 15 8769 := fun ci hci => by
  have e := iv_sub2_eq hci (by decide)
  subst e
  exact ⟨RX10, TX10, 2, "LentNames$TownReader", tyX10, tyX10 (8769 % 64), rfl, by decide, cw_9, tyX10_ok, nmX10, tb_g (tb_2 (List.mem_of_getElem? (i := 10) rfl)) rfl, Or.inl rfl, tyX10_ok _ (by decide), Or.inr (Or.inr ⟨rfl, Or.inl ⟨_, rfl⟩⟩), Or.inl ⟨rfl, rfl⟩⟩
theorem fq_LentNames_TownReader_41 : iv_FQK "LentNames$TownReader" 41 41472 := fun ci hci => by
  have e := iv_sub2_eq hci (by decide)
  subst e
  exact ⟨RX9, TX9, 10, "LentNames$Town", tyX9, tyX9 (41472 % 64), rfl, by decide, cw_8, tyX9_ok, nmX9, tb_g (tb_1 (List.mem_of_getElem? (i := 110) rfl)) rfl, Or.inl rfl, tyX9_ok _ (by decide), Or.inr (Or.inr ⟨rfl, Or.inl ⟨_, rfl⟩⟩), Or.inr (Or.inr rfl)⟩
theorem fq_LentNames_TownReader_60 : iv_FQK "LentNames$TownReader" 60 41473 := fun ci hci => by
  have e := iv_sub2_eq hci (by decide)
  subst e
  exact ⟨RX9, TX9, 10, "LentNames$Town", tyX9, tyX9 (41473 % 64), rfl, by decide, cw_8, tyX9_ok, nmX9, tb_g (tb_1 (List.mem_of_getElem? (i := 114) rfl)) rfl, Or.inl rfl, tyX9_ok _ (by decide), Or.inr (Or.inr ⟨rfl, Or.inl ⟨_, rfl⟩⟩), Or.inr (Or.inr rfl)⟩
theorem fq_LentNames_TownReader_68 : iv_FQK "LentNames$TownReader" 68 41474 := fun ci hci => by
  have e := iv_sub2_eq hci (by decide)
  subst e
  exact ⟨RX9, TX9, 10, "LentNames$Town", tyX9, tyX9 (41474 % 64), rfl, by decide, cw_8, tyX9_ok, nmX9, tb_g (tb_1 (List.mem_of_getElem? (i := 119) rfl)) rfl, Or.inl rfl, tyX9_ok _ (by decide), Or.inr (Or.inr ⟨rfl, Or.inl ⟨_, rfl⟩⟩), Or.inr (Or.inr rfl)⟩
theorem fq_LentNames_TownReader_76 : iv_FQK "LentNames$TownReader" 76 41475 := fun ci hci => by
  have e := iv_sub2_eq hci (by decide)
  subst e
  exact ⟨RX9, TX9, 10, "LentNames$Town", tyX9, tyX9 (41475 % 64), rfl, by decide, cw_8, tyX9_ok, nmX9, tb_g (tb_1 (List.mem_of_getElem? (i := 123) rfl)) rfl, Or.inl rfl, tyX9_ok _ (by decide), Or.inr (Or.inr ⟨rfl, Or.inl ⟨_, rfl⟩⟩), Or.inr (Or.inr rfl)⟩
theorem fq_LentNames_TownReader_101 : iv_FQK "LentNames$TownReader" 101 519 := fun ci hci => by
  have e := iv_sub2_eq hci (by decide)
  subst e
  exact ⟨RX9, TX9, 10, "LentNames$Town", tyX9, tyX9 (519 % 64), rfl, by decide, cw_8, tyX9_ok, nmX9, tb_g (tb_1 (List.mem_of_getElem? (i := 137) rfl)) rfl, Or.inl rfl, tyX9_ok _ (by decide), Or.inl ⟨rfl, rfl⟩, Or.inl ⟨rfl, rfl⟩⟩
theorem fq_LentNames_TownReader_123 : iv_FQK "LentNames$TownReader" 123 386 := fun ci hci => by
  have e := iv_sub2_eq hci (by decide)
  subst e
  exact ⟨RX7, TX7, 3, "LentNames$Table", tyX7, tyX7 (386 % 64), rfl, by decide, cw_6, tyX7_ok, nmX7, tb_g (tb_1 (List.mem_of_getElem? (i := 74) rfl)) rfl, Or.inl rfl, tyX7_ok _ (by decide), Or.inl ⟨rfl, rfl⟩, Or.inl ⟨rfl, rfl⟩⟩
theorem fq_LentNames_TownReader_132 : iv_FQK "LentNames$TownReader" 132 41476 := fun ci hci => by
  have e := iv_sub2_eq hci (by decide)
  subst e
  exact ⟨RX9, TX9, 10, "LentNames$Town", tyX9, tyX9 (41476 % 64), rfl, by decide, cw_8, tyX9_ok, nmX9, tb_g (tb_1 (List.mem_of_getElem? (i := 128) rfl)) rfl, Or.inl rfl, tyX9_ok _ (by decide), Or.inr (Or.inr ⟨rfl, Or.inr ⟨_, rfl⟩⟩), Or.inr (Or.inr rfl)⟩
theorem fq_LentNames_TownReader_141 : iv_FQK "LentNames$TownReader" 141 521 := fun ci hci => by
  have e := iv_sub2_eq hci (by decide)
  subst e
  exact ⟨RX9, TX9, 10, "LentNames$Town", tyX9, tyX9 (521 % 64), rfl, by decide, cw_8, tyX9_ok, nmX9, tb_g (tb_1 (List.mem_of_getElem? (i := 147) rfl)) rfl, Or.inl rfl, tyX9_ok _ (by decide), Or.inl ⟨rfl, rfl⟩, Or.inl ⟨rfl, rfl⟩⟩
def kfl_9 : List (Nat × Nat) := [(9, 25152), (15, 8769), (41, 41472), (60, 41473), (68, 41474), (76, 41475), (101, 519), (123, 386), (132, 41476), (141, 521)]
theorem kfl_ok_9 : ∀ q ∈ kfl_9, iv_FQK "LentNames$TownReader" q.1 q.2 := List.forall_mem_cons.mpr ⟨fq_LentNames_TownReader_9, List.forall_mem_cons.mpr ⟨fq_LentNames_TownReader_15, List.forall_mem_cons.mpr ⟨fq_LentNames_TownReader_41, List.forall_mem_cons.mpr ⟨fq_LentNames_TownReader_60, List.forall_mem_cons.mpr ⟨fq_LentNames_TownReader_68, List.forall_mem_cons.mpr ⟨fq_LentNames_TownReader_76, List.forall_mem_cons.mpr ⟨fq_LentNames_TownReader_101, List.forall_mem_cons.mpr ⟨fq_LentNames_TownReader_123, List.forall_mem_cons.mpr ⟨fq_LentNames_TownReader_132, List.forall_mem_cons.mpr ⟨fq_LentNames_TownReader_141, fun q hq => nomatch hq⟩⟩⟩⟩⟩⟩⟩⟩⟩⟩
theorem fq_LentNames_12 : iv_FQK "LentNames" 12 25216 := fun ci hci => by
  have e := iv_sub2_eq hci (by decide)
  subst e
  exact ⟨RX11, TX11, 12, "LentNames", tyX11, tyX11 (25216 % 64), rfl, by decide, cw_10, tyX11_ok, nmX11, tb_g (tb_3 (List.mem_of_getElem? (i := 36) rfl)) rfl, Or.inl rfl, tyX11_ok _ (by decide), Or.inr (Or.inr ⟨rfl, Or.inl ⟨_, rfl⟩⟩), Or.inr (Or.inl ⟨rfl, rfl, rfl⟩)⟩
theorem fq_LentNames_19 : iv_FQK "LentNames" 19 25223 := fun ci hci => by
  have e := iv_sub2_eq hci (by decide)
  subst e
  exact ⟨RX11, TX11, 12, "LentNames", tyX11, tyX11 (25223 % 64), rfl, by decide, cw_10, tyX11_ok, nmX11, tb_g (tb_3 (List.mem_of_getElem? (i := 43) rfl)) rfl, Or.inl rfl, tyX11_ok _ (by decide), Or.inr (Or.inr ⟨rfl, Or.inl ⟨_, rfl⟩⟩), Or.inr (Or.inl ⟨rfl, rfl, rfl⟩)⟩
theorem fq_LentNames_23 : iv_FQK "LentNames" 23 8840 := fun ci hci => by
  have e := iv_sub2_eq hci (by decide)
  subst e
  exact ⟨RX11, TX11, 12, "LentNames", tyX11, tyX11 (8840 % 64), rfl, by decide, cw_10, tyX11_ok, nmX11, tb_g (tb_3 (List.mem_of_getElem? (i := 44) rfl)) rfl, Or.inl rfl, tyX11_ok _ (by decide), Or.inr (Or.inr ⟨rfl, Or.inl ⟨_, rfl⟩⟩), Or.inl ⟨rfl, rfl⟩⟩
theorem fq_LentNames_26 : iv_FQK "LentNames" 26 8841 := fun ci hci => by
  have e := iv_sub2_eq hci (by decide)
  subst e
  exact ⟨RX11, TX11, 12, "LentNames", tyX11, tyX11 (8841 % 64), rfl, by decide, cw_10, tyX11_ok, nmX11, tb_g (tb_3 (List.mem_of_getElem? (i := 45) rfl)) rfl, Or.inl rfl, tyX11_ok _ (by decide), Or.inr (Or.inr ⟨rfl, Or.inl ⟨_, rfl⟩⟩), Or.inl ⟨rfl, rfl⟩⟩
theorem fq_LentNames_34 : iv_FQK "LentNames" 34 25217 := fun ci hci => by
  have e := iv_sub2_eq hci (by decide)
  subst e
  exact ⟨RX11, TX11, 12, "LentNames", tyX11, tyX11 (25217 % 64), rfl, by decide, cw_10, tyX11_ok, nmX11, tb_g (tb_3 (List.mem_of_getElem? (i := 37) rfl)) rfl, Or.inl rfl, tyX11_ok _ (by decide), Or.inr (Or.inr ⟨rfl, Or.inl ⟨_, rfl⟩⟩), Or.inr (Or.inl ⟨rfl, rfl, rfl⟩)⟩
theorem fq_LentNames_41 : iv_FQK "LentNames" 41 25218 := fun ci hci => by
  have e := iv_sub2_eq hci (by decide)
  subst e
  exact ⟨RX11, TX11, 12, "LentNames", tyX11, tyX11 (25218 % 64), rfl, by decide, cw_10, tyX11_ok, nmX11, tb_g (tb_3 (List.mem_of_getElem? (i := 38) rfl)) rfl, Or.inl rfl, tyX11_ok _ (by decide), Or.inr (Or.inr ⟨rfl, Or.inl ⟨_, rfl⟩⟩), Or.inr (Or.inl ⟨rfl, rfl, rfl⟩)⟩
theorem fq_LentNames_50 : iv_FQK "LentNames" 50 25219 := fun ci hci => by
  have e := iv_sub2_eq hci (by decide)
  subst e
  exact ⟨RX11, TX11, 12, "LentNames", tyX11, tyX11 (25219 % 64), rfl, by decide, cw_10, tyX11_ok, nmX11, tb_g (tb_3 (List.mem_of_getElem? (i := 39) rfl)) rfl, Or.inl rfl, tyX11_ok _ (by decide), Or.inr (Or.inr ⟨rfl, Or.inl ⟨_, rfl⟩⟩), Or.inr (Or.inl ⟨rfl, rfl, rfl⟩)⟩
theorem fq_LentNames_56 : iv_FQK "LentNames" 56 41478 := fun ci hci => by
  have e := iv_sub2_eq hci (by decide)
  subst e
  exact ⟨RX9, TX9, 10, "LentNames$Town", tyX9, tyX9 (41478 % 64), rfl, by decide, cw_8, tyX9_ok, nmX9, tb_g (tb_1 (List.mem_of_getElem? (i := 134) rfl)) rfl, Or.inl rfl, tyX9_ok _ (by decide), Or.inr (Or.inr ⟨rfl, Or.inl ⟨_, rfl⟩⟩), Or.inr (Or.inr rfl)⟩
theorem fq_LentNames_63 : iv_FQK "LentNames" 63 25220 := fun ci hci => by
  have e := iv_sub2_eq hci (by decide)
  subst e
  exact ⟨RX11, TX11, 12, "LentNames", tyX11, tyX11 (25220 % 64), rfl, by decide, cw_10, tyX11_ok, nmX11, tb_g (tb_3 (List.mem_of_getElem? (i := 40) rfl)) rfl, Or.inl rfl, tyX11_ok _ (by decide), Or.inr (Or.inr ⟨rfl, Or.inl ⟨_, rfl⟩⟩), Or.inr (Or.inl ⟨rfl, rfl, rfl⟩)⟩
theorem fq_LentNames_72 : iv_FQK "LentNames" 72 25221 := fun ci hci => by
  have e := iv_sub2_eq hci (by decide)
  subst e
  exact ⟨RX11, TX11, 12, "LentNames", tyX11, tyX11 (25221 % 64), rfl, by decide, cw_10, tyX11_ok, nmX11, tb_g (tb_3 (List.mem_of_getElem? (i := 41) rfl)) rfl, Or.inl rfl, tyX11_ok _ (by decide), Or.inr (Or.inr ⟨rfl, Or.inl ⟨_, rfl⟩⟩), Or.inr (Or.inl ⟨rfl, rfl, rfl⟩)⟩
theorem fq_LentNames_79 : iv_FQK "LentNames" 79 25222 := fun ci hci => by
  have e := iv_sub2_eq hci (by decide)
  subst e
  exact ⟨RX11, TX11, 12, "LentNames", tyX11, tyX11 (25222 % 64), rfl, by decide, cw_10, tyX11_ok, nmX11, tb_g (tb_3 (List.mem_of_getElem? (i := 42) rfl)) rfl, Or.inl rfl, tyX11_ok _ (by decide), Or.inr (Or.inr ⟨rfl, Or.inl ⟨_, rfl⟩⟩), Or.inr (Or.inl ⟨rfl, rfl, rfl⟩)⟩
theorem fq_LentNames_83 : iv_FQK "LentNames" 83 4746 := fun ci hci => by
  have e := iv_sub2_eq hci (by decide)
  subst e
  exact ⟨RX11, TX11, 12, "LentNames", tyX11, tyX11 (4746 % 64), rfl, by decide, cw_10, tyX11_ok, nmX11, tb_g (tb_3 (List.mem_of_getElem? (i := 46) rfl)) rfl, Or.inl rfl, tyX11_ok _ (by decide), Or.inr (Or.inl ⟨rfl, rfl⟩), Or.inl ⟨rfl, rfl⟩⟩
theorem fq_LentNames_87 : iv_FQK "LentNames" 87 651 := fun ci hci => by
  have e := iv_sub2_eq hci (by decide)
  subst e
  exact ⟨RX11, TX11, 12, "LentNames", tyX11, tyX11 (651 % 64), rfl, by decide, cw_10, tyX11_ok, nmX11, tb_g (tb_3 (List.mem_of_getElem? (i := 47) rfl)) rfl, Or.inl rfl, tyX11_ok _ (by decide), Or.inl ⟨rfl, rfl⟩, Or.inl ⟨rfl, rfl⟩⟩
theorem fq_LentNames_94 : iv_FQK "LentNames" 94 449 := fun ci hci => by
  have e := iv_sub2_eq hci (by decide)
  subst e
  exact ⟨RX8, TX8, 3, "LentNames$Tape", tyX8, tyX8 (449 % 64), rfl, by decide, cw_7, tyX8_ok, nmX8, tb_g (tb_1 (List.mem_of_getElem? (i := 44) rfl)) rfl, Or.inl rfl, tyX8_ok _ (by decide), Or.inl ⟨rfl, rfl⟩, Or.inl ⟨rfl, rfl⟩⟩
theorem fq_LentNames_119 : iv_FQK "LentNames" 119 520 := fun ci hci => by
  have e := iv_sub2_eq hci (by decide)
  subst e
  exact ⟨RX9, TX9, 10, "LentNames$Town", tyX9, tyX9 (520 % 64), rfl, by decide, cw_8, tyX9_ok, nmX9, tb_g (tb_1 (List.mem_of_getElem? (i := 144) rfl)) rfl, Or.inl rfl, tyX9_ok _ (by decide), Or.inl ⟨rfl, rfl⟩, Or.inl ⟨rfl, rfl⟩⟩
theorem fq_LentNames_135 : iv_FQK "LentNames" 135 131 := fun ci hci => by
  have e := iv_sub2_eq hci (by decide)
  subst e
  exact ⟨RX2, TX2, 5, "LentNames$Custom", tyX2, tyX2 (131 % 64), rfl, by decide, cw_2, tyX2_ok, nmX2, tb_g (tb_1 (List.mem_of_getElem? (i := 96) rfl)) rfl, Or.inl rfl, tyX2_ok _ (by decide), Or.inl ⟨rfl, rfl⟩, Or.inl ⟨rfl, rfl⟩⟩
theorem fq_LentNames_147 : iv_FQK "LentNames" 147 519 := fun ci hci => by
  have e := iv_sub2_eq hci (by decide)
  subst e
  exact ⟨RX9, TX9, 10, "LentNames$Town", tyX9, tyX9 (519 % 64), rfl, by decide, cw_8, tyX9_ok, nmX9, tb_g (tb_1 (List.mem_of_getElem? (i := 141) rfl)) rfl, Or.inl rfl, tyX9_ok _ (by decide), Or.inl ⟨rfl, rfl⟩, Or.inl ⟨rfl, rfl⟩⟩
theorem fq_LentNames_180 : iv_FQK "LentNames" 180 41024 := fun ci hci => by
  have e := iv_sub2_eq hci (by decide)
  subst e
  exact ⟨RX1, TX1, 14, "LentNames$Calendar", tyX1, tyX1 (41024 % 64), rfl, by decide, cw_1, tyX1_ok, nmX1, tb_g (tb_1 (List.mem_of_getElem? (i := 179) rfl)) rfl, Or.inl rfl, tyX1_ok _ (by decide), Or.inr (Or.inr ⟨rfl, Or.inr ⟨_, rfl⟩⟩), Or.inr (Or.inr rfl)⟩
theorem fq_LentNames_193 : iv_FQK "LentNames" 193 41025 := fun ci hci => by
  have e := iv_sub2_eq hci (by decide)
  subst e
  exact ⟨RX1, TX1, 14, "LentNames$Calendar", tyX1, tyX1 (41025 % 64), rfl, by decide, cw_1, tyX1_ok, nmX1, tb_g (tb_1 (List.mem_of_getElem? (i := 182) rfl)) rfl, Or.inl rfl, tyX1_ok _ (by decide), Or.inr (Or.inr ⟨rfl, Or.inr ⟨_, rfl⟩⟩), Or.inr (Or.inr rfl)⟩
theorem fq_LentNames_202 : iv_FQK "LentNames" 202 41472 := fun ci hci => by
  have e := iv_sub2_eq hci (by decide)
  subst e
  exact ⟨RX9, TX9, 10, "LentNames$Town", tyX9, tyX9 (41472 % 64), rfl, by decide, cw_8, tyX9_ok, nmX9, tb_g (tb_1 (List.mem_of_getElem? (i := 112) rfl)) rfl, Or.inl rfl, tyX9_ok _ (by decide), Or.inr (Or.inr ⟨rfl, Or.inl ⟨_, rfl⟩⟩), Or.inr (Or.inr rfl)⟩
theorem fq_LentNames_218 : iv_FQK "LentNames" 218 41026 := fun ci hci => by
  have e := iv_sub2_eq hci (by decide)
  subst e
  exact ⟨RX1, TX1, 14, "LentNames$Calendar", tyX1, tyX1 (41026 % 64), rfl, by decide, cw_1, tyX1_ok, nmX1, tb_g (tb_1 (List.mem_of_getElem? (i := 184) rfl)) rfl, Or.inl rfl, tyX1_ok _ (by decide), Or.inr (Or.inr ⟨rfl, Or.inr ⟨_, rfl⟩⟩), Or.inr (Or.inr rfl)⟩
theorem fq_LentNames_221 : iv_FQK "LentNames" 221 41027 := fun ci hci => by
  have e := iv_sub2_eq hci (by decide)
  subst e
  exact ⟨RX1, TX1, 14, "LentNames$Calendar", tyX1, tyX1 (41027 % 64), rfl, by decide, cw_1, tyX1_ok, nmX1, tb_g (tb_1 (List.mem_of_getElem? (i := 186) rfl)) rfl, Or.inl rfl, tyX1_ok _ (by decide), Or.inr (Or.inr ⟨rfl, Or.inr ⟨_, rfl⟩⟩), Or.inr (Or.inr rfl)⟩
theorem fq_LentNames_224 : iv_FQK "LentNames" 224 41028 := fun ci hci => by
  have e := iv_sub2_eq hci (by decide)
  subst e
  exact ⟨RX1, TX1, 14, "LentNames$Calendar", tyX1, tyX1 (41028 % 64), rfl, by decide, cw_1, tyX1_ok, nmX1, tb_g (tb_1 (List.mem_of_getElem? (i := 188) rfl)) rfl, Or.inl rfl, tyX1_ok _ (by decide), Or.inr (Or.inr ⟨rfl, Or.inr ⟨_, rfl⟩⟩), Or.inr (Or.inr rfl)⟩
theorem fq_LentNames_232 : iv_FQK "LentNames" 232 386 := fun ci hci => by
  have e := iv_sub2_eq hci (by decide)
  subst e
  exact ⟨RX7, TX7, 3, "LentNames$Table", tyX7, tyX7 (386 % 64), rfl, by decide, cw_6, tyX7_ok, nmX7, tb_g (tb_1 (List.mem_of_getElem? (i := 77) rfl)) rfl, Or.inl rfl, tyX7_ok _ (by decide), Or.inl ⟨rfl, rfl⟩, Or.inl ⟨rfl, rfl⟩⟩
theorem fq_LentNames_235 : iv_FQK "LentNames" 235 41473 := fun ci hci => by
  have e := iv_sub2_eq hci (by decide)
  subst e
  exact ⟨RX9, TX9, 10, "LentNames$Town", tyX9, tyX9 (41473 % 64), rfl, by decide, cw_8, tyX9_ok, nmX9, tb_g (tb_1 (List.mem_of_getElem? (i := 116) rfl)) rfl, Or.inl rfl, tyX9_ok _ (by decide), Or.inr (Or.inr ⟨rfl, Or.inl ⟨_, rfl⟩⟩), Or.inr (Or.inr rfl)⟩
theorem fq_LentNames_257 : iv_FQK "LentNames" 257 4873 := fun ci hci => by
  rcases iv_sub2_12 hci with rfl | rfl
  · exact ⟨RX4, TX4, 18, "LentNames$PlanSearch", tyX4, tyX4 (4873 % 64), rfl, by decide, cw_4, tyX4_ok, nmX4, tb_g (tb_2 (List.mem_of_getElem? (i := 68) rfl)) rfl, Or.inr (tb_g (tb_2 (List.mem_of_getElem? (i := 69) rfl)) rfl), tyX4_ok _ (by decide), Or.inr (Or.inl ⟨rfl, rfl⟩), Or.inl ⟨rfl, rfl⟩⟩
  · exact ⟨RX6, TX6, 19, "LentNames$PlanSearch", tyX6, tyX6 (4873 % 64), rfl, by decide, cw_5, tyX6_ok, nmX6, tb_g (tb_2 (List.mem_of_getElem? (i := 68) rfl)) rfl, Or.inr (tb_g (tb_2 (List.mem_of_getElem? (i := 69) rfl)) rfl), tyX6_ok _ (by decide), Or.inr (Or.inl ⟨rfl, rfl⟩), Or.inl ⟨rfl, rfl⟩⟩
theorem fq_LentNames_263 : iv_FQK "LentNames" 263 41474 := fun ci hci => by
  have e := iv_sub2_eq hci (by decide)
  subst e
  exact ⟨RX9, TX9, 10, "LentNames$Town", tyX9, tyX9 (41474 % 64), rfl, by decide, cw_8, tyX9_ok, nmX9, tb_g (tb_1 (List.mem_of_getElem? (i := 121) rfl)) rfl, Or.inl rfl, tyX9_ok _ (by decide), Or.inr (Or.inr ⟨rfl, Or.inl ⟨_, rfl⟩⟩), Or.inr (Or.inr rfl)⟩
theorem fq_LentNames_271 : iv_FQK "LentNames" 271 41477 := fun ci hci => by
  have e := iv_sub2_eq hci (by decide)
  subst e
  exact ⟨RX9, TX9, 10, "LentNames$Town", tyX9, tyX9 (41477 % 64), rfl, by decide, cw_8, tyX9_ok, nmX9, tb_g (tb_1 (List.mem_of_getElem? (i := 132) rfl)) rfl, Or.inl rfl, tyX9_ok _ (by decide), Or.inr (Or.inr ⟨rfl, Or.inr ⟨_, rfl⟩⟩), Or.inr (Or.inr rfl)⟩
theorem fq_LentNames_278 : iv_FQK "LentNames" 278 40960 := fun ci hci => by
  have e := iv_sub2_eq hci (by decide)
  subst e
  exact ⟨RX0, TX0, 2, "LentNames$Accounts", tyX0, tyX0 (40960 % 64), rfl, by decide, cw_0, tyX0_ok, nmX0, tb_g (tb_1 (List.mem_of_getElem? (i := 235) rfl)) rfl, Or.inl rfl, tyX0_ok _ (by decide), Or.inr (Or.inr ⟨rfl, Or.inr ⟨_, rfl⟩⟩), Or.inr (Or.inr rfl)⟩
theorem fq_LentNames_281 : iv_FQK "LentNames" 281 1 := fun ci hci => by
  have e := iv_sub2_eq hci (by decide)
  subst e
  exact ⟨RX0, TX0, 2, "LentNames$Accounts", tyX0, tyX0 (1 % 64), rfl, by decide, cw_0, tyX0_ok, nmX0, tb_g (tb_1 (List.mem_of_getElem? (i := 237) rfl)) rfl, Or.inl rfl, tyX0_ok _ (by decide), Or.inl ⟨rfl, rfl⟩, Or.inl ⟨rfl, rfl⟩⟩
theorem fq_LentNames_284 : iv_FQK "LentNames" 284 41475 := fun ci hci => by
  have e := iv_sub2_eq hci (by decide)
  subst e
  exact ⟨RX9, TX9, 10, "LentNames$Town", tyX9, tyX9 (41475 % 64), rfl, by decide, cw_8, tyX9_ok, nmX9, tb_g (tb_1 (List.mem_of_getElem? (i := 126) rfl)) rfl, Or.inl rfl, tyX9_ok _ (by decide), Or.inr (Or.inr ⟨rfl, Or.inl ⟨_, rfl⟩⟩), Or.inr (Or.inr rfl)⟩
theorem fq_LentNames_294 : iv_FQK "LentNames" 294 4873 := fun ci hci => by
  rcases iv_sub2_12 hci with rfl | rfl
  · exact ⟨RX4, TX4, 18, "LentNames$SecretSearch", tyX4, tyX4 (4873 % 64), rfl, by decide, cw_4, tyX4_ok, nmX4, tb_g (tb_2 (List.mem_of_getElem? (i := 70) rfl)) rfl, Or.inr (tb_g (tb_2 (List.mem_of_getElem? (i := 71) rfl)) rfl), tyX4_ok _ (by decide), Or.inr (Or.inl ⟨rfl, rfl⟩), Or.inl ⟨rfl, rfl⟩⟩
  · exact ⟨RX6, TX6, 19, "LentNames$SecretSearch", tyX6, tyX6 (4873 % 64), rfl, by decide, cw_5, tyX6_ok, nmX6, tb_g (tb_2 (List.mem_of_getElem? (i := 70) rfl)) rfl, Or.inr (tb_g (tb_2 (List.mem_of_getElem? (i := 71) rfl)) rfl), tyX6_ok _ (by decide), Or.inr (Or.inl ⟨rfl, rfl⟩), Or.inl ⟨rfl, rfl⟩⟩
theorem fq_LentNames_295 : iv_FQK "LentNames" 295 776 := fun ci hci => by
  rcases iv_sub2_12 hci with rfl | rfl
  · exact ⟨RX4, TX4, 18, "LentNames$SecretSearch", tyX4, tyX4 (776 % 64), rfl, by decide, cw_4, tyX4_ok, nmX4, tb_g (tb_2 (List.mem_of_getElem? (i := 65) rfl)) rfl, Or.inr (tb_g (tb_2 (List.mem_of_getElem? (i := 66) rfl)) rfl), tyX4_ok _ (by decide), Or.inl ⟨rfl, rfl⟩, Or.inl ⟨rfl, rfl⟩⟩
  · exact ⟨RX6, TX6, 19, "LentNames$SecretSearch", tyX6, tyX6 (776 % 64), rfl, by decide, cw_5, tyX6_ok, nmX6, tb_g (tb_2 (List.mem_of_getElem? (i := 65) rfl)) rfl, Or.inr (tb_g (tb_2 (List.mem_of_getElem? (i := 66) rfl)) rfl), tyX6_ok _ (by decide), Or.inl ⟨rfl, rfl⟩, Or.inl ⟨rfl, rfl⟩⟩
theorem fq_LentNames_312 : iv_FQK "LentNames" 312 521 := fun ci hci => by
  have e := iv_sub2_eq hci (by decide)
  subst e
  exact ⟨RX9, TX9, 10, "LentNames$Town", tyX9, tyX9 (521 % 64), rfl, by decide, cw_8, tyX9_ok, nmX9, tb_g (tb_1 (List.mem_of_getElem? (i := 148) rfl)) rfl, Or.inl rfl, tyX9_ok _ (by decide), Or.inl ⟨rfl, rfl⟩, Or.inl ⟨rfl, rfl⟩⟩
theorem fq_LentNames_321 : iv_FQK "LentNames" 321 450 := fun ci hci => by
  have e := iv_sub2_eq hci (by decide)
  subst e
  exact ⟨RX8, TX8, 3, "LentNames$Tape", tyX8, tyX8 (450 % 64), rfl, by decide, cw_7, tyX8_ok, nmX8, tb_g (tb_1 (List.mem_of_getElem? (i := 47) rfl)) rfl, Or.inl rfl, tyX8_ok _ (by decide), Or.inl ⟨rfl, rfl⟩, Or.inl ⟨rfl, rfl⟩⟩
def kfl_10 : List (Nat × Nat) := [(12, 25216), (19, 25223), (23, 8840), (26, 8841), (34, 25217), (41, 25218), (50, 25219), (56, 41478), (63, 25220), (72, 25221), (79, 25222), (83, 4746), (87, 651), (94, 449), (119, 520), (135, 131), (147, 519), (180, 41024), (193, 41025), (202, 41472), (218, 41026), (221, 41027), (224, 41028), (232, 386), (235, 41473), (257, 4873), (263, 41474), (271, 41477), (278, 40960), (281, 1), (284, 41475), (294, 4873), (295, 776), (312, 521), (321, 450)]
theorem kfl_ok_10 : ∀ q ∈ kfl_10, iv_FQK "LentNames" q.1 q.2 := List.forall_mem_cons.mpr ⟨fq_LentNames_12, List.forall_mem_cons.mpr ⟨fq_LentNames_19, List.forall_mem_cons.mpr ⟨fq_LentNames_23, List.forall_mem_cons.mpr ⟨fq_LentNames_26, List.forall_mem_cons.mpr ⟨fq_LentNames_34, List.forall_mem_cons.mpr ⟨fq_LentNames_41, List.forall_mem_cons.mpr ⟨fq_LentNames_50, List.forall_mem_cons.mpr ⟨fq_LentNames_56, List.forall_mem_cons.mpr ⟨fq_LentNames_63, List.forall_mem_cons.mpr ⟨fq_LentNames_72, List.forall_mem_cons.mpr ⟨fq_LentNames_79, List.forall_mem_cons.mpr ⟨fq_LentNames_83, List.forall_mem_cons.mpr ⟨fq_LentNames_87, List.forall_mem_cons.mpr ⟨fq_LentNames_94, List.forall_mem_cons.mpr ⟨fq_LentNames_119, List.forall_mem_cons.mpr ⟨fq_LentNames_135, List.forall_mem_cons.mpr ⟨fq_LentNames_147, List.forall_mem_cons.mpr ⟨fq_LentNames_180, List.forall_mem_cons.mpr ⟨fq_LentNames_193, List.forall_mem_cons.mpr ⟨fq_LentNames_202, List.forall_mem_cons.mpr ⟨fq_LentNames_218, List.forall_mem_cons.mpr ⟨fq_LentNames_221, List.forall_mem_cons.mpr ⟨fq_LentNames_224, List.forall_mem_cons.mpr ⟨fq_LentNames_232, List.forall_mem_cons.mpr ⟨fq_LentNames_235, List.forall_mem_cons.mpr ⟨fq_LentNames_257, List.forall_mem_cons.mpr ⟨fq_LentNames_263, List.forall_mem_cons.mpr ⟨fq_LentNames_271, List.forall_mem_cons.mpr ⟨fq_LentNames_278, List.forall_mem_cons.mpr ⟨fq_LentNames_281, List.forall_mem_cons.mpr ⟨fq_LentNames_284, List.forall_mem_cons.mpr ⟨fq_LentNames_294, List.forall_mem_cons.mpr ⟨fq_LentNames_295, List.forall_mem_cons.mpr ⟨fq_LentNames_312, List.forall_mem_cons.mpr ⟨fq_LentNames_321, fun q hq => nomatch hq⟩⟩⟩⟩⟩⟩⟩⟩⟩⟩⟩⟩⟩⟩⟩⟩⟩⟩⟩⟩⟩⟩⟩⟩⟩⟩⟩⟩⟩⟩⟩⟩⟩⟩⟩
theorem fq_LentNamesModel_3 : iv_FQK "LentNamesModel" 3 704 := fun ci hci => by
  have e := iv_sub2_eq hci (by decide)
  subst e
  exact ⟨RX12, TX12, 36, "LentNamesModel", tyX12, tyX12 (704 % 64), rfl, by decide, cw_11, tyX12_ok, nmX12, tb_g (tb_6 (List.mem_of_getElem? (i := 221) rfl)) rfl, Or.inl rfl, tyX12_ok _ (by decide), Or.inl ⟨rfl, rfl⟩, Or.inl ⟨rfl, rfl⟩⟩
theorem fq_LentNamesModel_13 : iv_FQK "LentNamesModel" 13 25281 := fun ci hci => by
  have e := iv_sub2_eq hci (by decide)
  subst e
  exact ⟨RX12, TX12, 36, "LentNamesModel", tyX12, tyX12 (25281 % 64), rfl, by decide, cw_11, tyX12_ok, nmX12, tb_g (tb_6 (List.mem_of_getElem? (i := 222) rfl)) rfl, Or.inl rfl, tyX12_ok _ (by decide), Or.inr (Or.inr ⟨rfl, Or.inr ⟨_, rfl⟩⟩), Or.inr (Or.inl ⟨rfl, rfl, rfl⟩)⟩
theorem fq_LentNamesModel_17 : iv_FQK "LentNamesModel" 17 25282 := fun ci hci => by
  have e := iv_sub2_eq hci (by decide)
  subst e
  exact ⟨RX12, TX12, 36, "LentNamesModel", tyX12, tyX12 (25282 % 64), rfl, by decide, cw_11, tyX12_ok, nmX12, tb_g (tb_6 (List.mem_of_getElem? (i := 223) rfl)) rfl, Or.inl rfl, tyX12_ok _ (by decide), Or.inr (Or.inr ⟨rfl, Or.inr ⟨_, rfl⟩⟩), Or.inr (Or.inl ⟨rfl, rfl, rfl⟩)⟩
theorem fq_LentNamesModel_20 : iv_FQK "LentNamesModel" 20 25283 := fun ci hci => by
  have e := iv_sub2_eq hci (by decide)
  subst e
  exact ⟨RX12, TX12, 36, "LentNamesModel", tyX12, tyX12 (25283 % 64), rfl, by decide, cw_11, tyX12_ok, nmX12, tb_g (tb_6 (List.mem_of_getElem? (i := 224) rfl)) rfl, Or.inl rfl, tyX12_ok _ (by decide), Or.inr (Or.inr ⟨rfl, Or.inr ⟨_, rfl⟩⟩), Or.inr (Or.inl ⟨rfl, rfl, rfl⟩)⟩
theorem fq_LentNamesModel_23 : iv_FQK "LentNamesModel" 23 25285 := fun ci hci => by
  have e := iv_sub2_eq hci (by decide)
  subst e
  exact ⟨RX12, TX12, 36, "LentNamesModel", tyX12, tyX12 (25285 % 64), rfl, by decide, cw_11, tyX12_ok, nmX12, tb_g (tb_6 (List.mem_of_getElem? (i := 226) rfl)) rfl, Or.inl rfl, tyX12_ok _ (by decide), Or.inr (Or.inr ⟨rfl, Or.inr ⟨_, rfl⟩⟩), Or.inr (Or.inl ⟨rfl, rfl, rfl⟩)⟩
theorem fq_LentNamesModel_27 : iv_FQK "LentNamesModel" 27 715 := fun ci hci => by
  have e := iv_sub2_eq hci (by decide)
  subst e
  exact ⟨RX12, TX12, 36, "LentNamesModel", tyX12, tyX12 (715 % 64), rfl, by decide, cw_11, tyX12_ok, nmX12, tb_g (tb_6 (List.mem_of_getElem? (i := 232) rfl)) rfl, Or.inl rfl, tyX12_ok _ (by decide), Or.inl ⟨rfl, rfl⟩, Or.inl ⟨rfl, rfl⟩⟩
theorem fq_LentNamesModel_30 : iv_FQK "LentNamesModel" 30 25292 := fun ci hci => by
  have e := iv_sub2_eq hci (by decide)
  subst e
  exact ⟨RX12, TX12, 36, "LentNamesModel", tyX12, tyX12 (25292 % 64), rfl, by decide, cw_11, tyX12_ok, nmX12, tb_g (tb_6 (List.mem_of_getElem? (i := 233) rfl)) rfl, Or.inl rfl, tyX12_ok _ (by decide), Or.inr (Or.inr ⟨rfl, Or.inr ⟨_, rfl⟩⟩), Or.inr (Or.inl ⟨rfl, rfl, rfl⟩)⟩
theorem fq_LentNamesModel_33 : iv_FQK "LentNamesModel" 33 25294 := fun ci hci => by
  have e := iv_sub2_eq hci (by decide)
  subst e
  exact ⟨RX12, TX12, 36, "LentNamesModel", tyX12, tyX12 (25294 % 64), rfl, by decide, cw_11, tyX12_ok, nmX12, tb_g (tb_6 (List.mem_of_getElem? (i := 235) rfl)) rfl, Or.inl rfl, tyX12_ok _ (by decide), Or.inr (Or.inr ⟨rfl, Or.inr ⟨_, rfl⟩⟩), Or.inr (Or.inl ⟨rfl, rfl, rfl⟩)⟩
theorem fq_LentNamesModel_36 : iv_FQK "LentNamesModel" 36 25295 := fun ci hci => by
  have e := iv_sub2_eq hci (by decide)
  subst e
  exact ⟨RX12, TX12, 36, "LentNamesModel", tyX12, tyX12 (25295 % 64), rfl, by decide, cw_11, tyX12_ok, nmX12, tb_g (tb_6 (List.mem_of_getElem? (i := 236) rfl)) rfl, Or.inl rfl, tyX12_ok _ (by decide), Or.inr (Or.inr ⟨rfl, Or.inr ⟨_, rfl⟩⟩), Or.inr (Or.inl ⟨rfl, rfl, rfl⟩)⟩
theorem fq_LentNamesModel_39 : iv_FQK "LentNamesModel" 39 25296 := fun ci hci => by
  have e := iv_sub2_eq hci (by decide)
  subst e
  exact ⟨RX12, TX12, 36, "LentNamesModel", tyX12, tyX12 (25296 % 64), rfl, by decide, cw_11, tyX12_ok, nmX12, tb_g (tb_6 (List.mem_of_getElem? (i := 237) rfl)) rfl, Or.inl rfl, tyX12_ok _ (by decide), Or.inr (Or.inr ⟨rfl, Or.inr ⟨_, rfl⟩⟩), Or.inr (Or.inl ⟨rfl, rfl, rfl⟩)⟩
theorem fq_LentNamesModel_42 : iv_FQK "LentNamesModel" 42 25297 := fun ci hci => by
  have e := iv_sub2_eq hci (by decide)
  subst e
  exact ⟨RX12, TX12, 36, "LentNamesModel", tyX12, tyX12 (25297 % 64), rfl, by decide, cw_11, tyX12_ok, nmX12, tb_g (tb_6 (List.mem_of_getElem? (i := 238) rfl)) rfl, Or.inl rfl, tyX12_ok _ (by decide), Or.inr (Or.inr ⟨rfl, Or.inr ⟨_, rfl⟩⟩), Or.inr (Or.inl ⟨rfl, rfl, rfl⟩)⟩
theorem fq_LentNamesModel_45 : iv_FQK "LentNamesModel" 45 25298 := fun ci hci => by
  have e := iv_sub2_eq hci (by decide)
  subst e
  exact ⟨RX12, TX12, 36, "LentNamesModel", tyX12, tyX12 (25298 % 64), rfl, by decide, cw_11, tyX12_ok, nmX12, tb_g (tb_6 (List.mem_of_getElem? (i := 239) rfl)) rfl, Or.inl rfl, tyX12_ok _ (by decide), Or.inr (Or.inr ⟨rfl, Or.inr ⟨_, rfl⟩⟩), Or.inr (Or.inl ⟨rfl, rfl, rfl⟩)⟩
theorem fq_LentNamesModel_48 : iv_FQK "LentNamesModel" 48 25299 := fun ci hci => by
  have e := iv_sub2_eq hci (by decide)
  subst e
  exact ⟨RX12, TX12, 36, "LentNamesModel", tyX12, tyX12 (25299 % 64), rfl, by decide, cw_11, tyX12_ok, nmX12, tb_g (tb_7 (List.mem_of_getElem? (i := 0) rfl)) rfl, Or.inl rfl, tyX12_ok _ (by decide), Or.inr (Or.inr ⟨rfl, Or.inr ⟨_, rfl⟩⟩), Or.inr (Or.inl ⟨rfl, rfl, rfl⟩)⟩
theorem fq_LentNamesModel_51 : iv_FQK "LentNamesModel" 51 25300 := fun ci hci => by
  have e := iv_sub2_eq hci (by decide)
  subst e
  exact ⟨RX12, TX12, 36, "LentNamesModel", tyX12, tyX12 (25300 % 64), rfl, by decide, cw_11, tyX12_ok, nmX12, tb_g (tb_7 (List.mem_of_getElem? (i := 1) rfl)) rfl, Or.inl rfl, tyX12_ok _ (by decide), Or.inr (Or.inr ⟨rfl, Or.inr ⟨_, rfl⟩⟩), Or.inr (Or.inl ⟨rfl, rfl, rfl⟩)⟩
theorem fq_LentNamesModel_54 : iv_FQK "LentNamesModel" 54 25301 := fun ci hci => by
  have e := iv_sub2_eq hci (by decide)
  subst e
  exact ⟨RX12, TX12, 36, "LentNamesModel", tyX12, tyX12 (25301 % 64), rfl, by decide, cw_11, tyX12_ok, nmX12, tb_g (tb_7 (List.mem_of_getElem? (i := 2) rfl)) rfl, Or.inl rfl, tyX12_ok _ (by decide), Or.inr (Or.inr ⟨rfl, Or.inr ⟨_, rfl⟩⟩), Or.inr (Or.inl ⟨rfl, rfl, rfl⟩)⟩
theorem fq_LentNamesModel_57 : iv_FQK "LentNamesModel" 57 25302 := fun ci hci => by
  have e := iv_sub2_eq hci (by decide)
  subst e
  exact ⟨RX12, TX12, 36, "LentNamesModel", tyX12, tyX12 (25302 % 64), rfl, by decide, cw_11, tyX12_ok, nmX12, tb_g (tb_7 (List.mem_of_getElem? (i := 3) rfl)) rfl, Or.inl rfl, tyX12_ok _ (by decide), Or.inr (Or.inr ⟨rfl, Or.inr ⟨_, rfl⟩⟩), Or.inr (Or.inl ⟨rfl, rfl, rfl⟩)⟩
theorem fq_LentNamesModel_60 : iv_FQK "LentNamesModel" 60 25303 := fun ci hci => by
  have e := iv_sub2_eq hci (by decide)
  subst e
  exact ⟨RX12, TX12, 36, "LentNamesModel", tyX12, tyX12 (25303 % 64), rfl, by decide, cw_11, tyX12_ok, nmX12, tb_g (tb_7 (List.mem_of_getElem? (i := 4) rfl)) rfl, Or.inl rfl, tyX12_ok _ (by decide), Or.inr (Or.inr ⟨rfl, Or.inr ⟨_, rfl⟩⟩), Or.inr (Or.inl ⟨rfl, rfl, rfl⟩)⟩
theorem fq_LentNamesModel_63 : iv_FQK "LentNamesModel" 63 25304 := fun ci hci => by
  have e := iv_sub2_eq hci (by decide)
  subst e
  exact ⟨RX12, TX12, 36, "LentNamesModel", tyX12, tyX12 (25304 % 64), rfl, by decide, cw_11, tyX12_ok, nmX12, tb_g (tb_7 (List.mem_of_getElem? (i := 5) rfl)) rfl, Or.inl rfl, tyX12_ok _ (by decide), Or.inr (Or.inr ⟨rfl, Or.inr ⟨_, rfl⟩⟩), Or.inr (Or.inl ⟨rfl, rfl, rfl⟩)⟩
theorem fq_LentNamesModel_66 : iv_FQK "LentNamesModel" 66 25305 := fun ci hci => by
  have e := iv_sub2_eq hci (by decide)
  subst e
  exact ⟨RX12, TX12, 36, "LentNamesModel", tyX12, tyX12 (25305 % 64), rfl, by decide, cw_11, tyX12_ok, nmX12, tb_g (tb_7 (List.mem_of_getElem? (i := 6) rfl)) rfl, Or.inl rfl, tyX12_ok _ (by decide), Or.inr (Or.inr ⟨rfl, Or.inr ⟨_, rfl⟩⟩), Or.inr (Or.inl ⟨rfl, rfl, rfl⟩)⟩
theorem fq_LentNamesModel_69 : iv_FQK "LentNamesModel" 69 25307 := fun ci hci => by
  have e := iv_sub2_eq hci (by decide)
  subst e
  exact ⟨RX12, TX12, 36, "LentNamesModel", tyX12, tyX12 (25307 % 64), rfl, by decide, cw_11, tyX12_ok, nmX12, tb_g (tb_7 (List.mem_of_getElem? (i := 8) rfl)) rfl, Or.inl rfl, tyX12_ok _ (by decide), Or.inr (Or.inr ⟨rfl, Or.inr ⟨_, rfl⟩⟩), Or.inr (Or.inl ⟨rfl, rfl, rfl⟩)⟩
theorem fq_LentNamesModel_72 : iv_FQK "LentNamesModel" 72 25308 := fun ci hci => by
  have e := iv_sub2_eq hci (by decide)
  subst e
  exact ⟨RX12, TX12, 36, "LentNamesModel", tyX12, tyX12 (25308 % 64), rfl, by decide, cw_11, tyX12_ok, nmX12, tb_g (tb_7 (List.mem_of_getElem? (i := 9) rfl)) rfl, Or.inl rfl, tyX12_ok _ (by decide), Or.inr (Or.inr ⟨rfl, Or.inr ⟨_, rfl⟩⟩), Or.inr (Or.inl ⟨rfl, rfl, rfl⟩)⟩
theorem fq_LentNamesModel_75 : iv_FQK "LentNamesModel" 75 25309 := fun ci hci => by
  have e := iv_sub2_eq hci (by decide)
  subst e
  exact ⟨RX12, TX12, 36, "LentNamesModel", tyX12, tyX12 (25309 % 64), rfl, by decide, cw_11, tyX12_ok, nmX12, tb_g (tb_7 (List.mem_of_getElem? (i := 10) rfl)) rfl, Or.inl rfl, tyX12_ok _ (by decide), Or.inr (Or.inr ⟨rfl, Or.inr ⟨_, rfl⟩⟩), Or.inr (Or.inl ⟨rfl, rfl, rfl⟩)⟩
theorem fq_LentNamesModel_78 : iv_FQK "LentNamesModel" 78 25315 := fun ci hci => by
  have e := iv_sub2_eq hci (by decide)
  subst e
  exact ⟨RX12, TX12, 36, "LentNamesModel", tyX12, tyX12 (25315 % 64), rfl, by decide, cw_11, tyX12_ok, nmX12, tb_g (tb_7 (List.mem_of_getElem? (i := 16) rfl)) rfl, Or.inl rfl, tyX12_ok _ (by decide), Or.inr (Or.inr ⟨rfl, Or.inr ⟨_, rfl⟩⟩), Or.inr (Or.inl ⟨rfl, rfl, rfl⟩)⟩
theorem fq_LentNamesModel_81 : iv_FQK "LentNamesModel" 81 4804 := fun ci hci => by
  have e := iv_sub2_eq hci (by decide)
  subst e
  exact ⟨RX12, TX12, 36, "LentNamesModel", tyX12, tyX12 (4804 % 64), rfl, by decide, cw_11, tyX12_ok, nmX12, tb_g (tb_6 (List.mem_of_getElem? (i := 225) rfl)) rfl, Or.inl rfl, tyX12_ok _ (by decide), Or.inr (Or.inl ⟨rfl, rfl⟩), Or.inl ⟨rfl, rfl⟩⟩
theorem fq_LentNamesModel_93 : iv_FQK "LentNamesModel" 93 710 := fun ci hci => by
  have e := iv_sub2_eq hci (by decide)
  subst e
  exact ⟨RX12, TX12, 36, "LentNamesModel", tyX12, tyX12 (710 % 64), rfl, by decide, cw_11, tyX12_ok, nmX12, tb_g (tb_6 (List.mem_of_getElem? (i := 227) rfl)) rfl, Or.inl rfl, tyX12_ok _ (by decide), Or.inl ⟨rfl, rfl⟩, Or.inl ⟨rfl, rfl⟩⟩
theorem fq_LentNamesModel_96 : iv_FQK "LentNamesModel" 96 711 := fun ci hci => by
  have e := iv_sub2_eq hci (by decide)
  subst e
  exact ⟨RX12, TX12, 36, "LentNamesModel", tyX12, tyX12 (711 % 64), rfl, by decide, cw_11, tyX12_ok, nmX12, tb_g (tb_6 (List.mem_of_getElem? (i := 228) rfl)) rfl, Or.inl rfl, tyX12_ok _ (by decide), Or.inl ⟨rfl, rfl⟩, Or.inl ⟨rfl, rfl⟩⟩
theorem fq_LentNamesModel_99 : iv_FQK "LentNamesModel" 99 712 := fun ci hci => by
  have e := iv_sub2_eq hci (by decide)
  subst e
  exact ⟨RX12, TX12, 36, "LentNamesModel", tyX12, tyX12 (712 % 64), rfl, by decide, cw_11, tyX12_ok, nmX12, tb_g (tb_6 (List.mem_of_getElem? (i := 229) rfl)) rfl, Or.inl rfl, tyX12_ok _ (by decide), Or.inl ⟨rfl, rfl⟩, Or.inl ⟨rfl, rfl⟩⟩
theorem fq_LentNamesModel_105 : iv_FQK "LentNamesModel" 105 713 := fun ci hci => by
  have e := iv_sub2_eq hci (by decide)
  subst e
  exact ⟨RX12, TX12, 36, "LentNamesModel", tyX12, tyX12 (713 % 64), rfl, by decide, cw_11, tyX12_ok, nmX12, tb_g (tb_6 (List.mem_of_getElem? (i := 230) rfl)) rfl, Or.inl rfl, tyX12_ok _ (by decide), Or.inl ⟨rfl, rfl⟩, Or.inl ⟨rfl, rfl⟩⟩
theorem fq_LentNamesModel_219 : iv_FQK "LentNamesModel" 219 717 := fun ci hci => by
  have e := iv_sub2_eq hci (by decide)
  subst e
  exact ⟨RX12, TX12, 36, "LentNamesModel", tyX12, tyX12 (717 % 64), rfl, by decide, cw_11, tyX12_ok, nmX12, tb_g (tb_6 (List.mem_of_getElem? (i := 234) rfl)) rfl, Or.inl rfl, tyX12_ok _ (by decide), Or.inl ⟨rfl, rfl⟩, Or.inl ⟨rfl, rfl⟩⟩
theorem fq_LentNamesModel_240 : iv_FQK "LentNamesModel" 240 714 := fun ci hci => by
  have e := iv_sub2_eq hci (by decide)
  subst e
  exact ⟨RX12, TX12, 36, "LentNamesModel", tyX12, tyX12 (714 % 64), rfl, by decide, cw_11, tyX12_ok, nmX12, tb_g (tb_6 (List.mem_of_getElem? (i := 231) rfl)) rfl, Or.inl rfl, tyX12_ok _ (by decide), Or.inl ⟨rfl, rfl⟩, Or.inl ⟨rfl, rfl⟩⟩
theorem fq_LentNamesModel_365 : iv_FQK "LentNamesModel" 365 730 := fun ci hci => by
  have e := iv_sub2_eq hci (by decide)
  subst e
  exact ⟨RX12, TX12, 36, "LentNamesModel", tyX12, tyX12 (730 % 64), rfl, by decide, cw_11, tyX12_ok, nmX12, tb_g (tb_7 (List.mem_of_getElem? (i := 7) rfl)) rfl, Or.inl rfl, tyX12_ok _ (by decide), Or.inl ⟨rfl, rfl⟩, Or.inl ⟨rfl, rfl⟩⟩
theorem fq_LentNamesModel_394 : iv_FQK "LentNamesModel" 394 736 := fun ci hci => by
  have e := iv_sub2_eq hci (by decide)
  subst e
  exact ⟨RX12, TX12, 36, "LentNamesModel", tyX12, tyX12 (736 % 64), rfl, by decide, cw_11, tyX12_ok, nmX12, tb_g (tb_7 (List.mem_of_getElem? (i := 13) rfl)) rfl, Or.inl rfl, tyX12_ok _ (by decide), Or.inl ⟨rfl, rfl⟩, Or.inl ⟨rfl, rfl⟩⟩
theorem fq_LentNamesModel_397 : iv_FQK "LentNamesModel" 397 735 := fun ci hci => by
  have e := iv_sub2_eq hci (by decide)
  subst e
  exact ⟨RX12, TX12, 36, "LentNamesModel", tyX12, tyX12 (735 % 64), rfl, by decide, cw_11, tyX12_ok, nmX12, tb_g (tb_7 (List.mem_of_getElem? (i := 12) rfl)) rfl, Or.inl rfl, tyX12_ok _ (by decide), Or.inl ⟨rfl, rfl⟩, Or.inl ⟨rfl, rfl⟩⟩
theorem fq_LentNamesModel_400 : iv_FQK "LentNamesModel" 400 4833 := fun ci hci => by
  have e := iv_sub2_eq hci (by decide)
  subst e
  exact ⟨RX12, TX12, 36, "LentNamesModel", tyX12, tyX12 (4833 % 64), rfl, by decide, cw_11, tyX12_ok, nmX12, tb_g (tb_7 (List.mem_of_getElem? (i := 14) rfl)) rfl, Or.inl rfl, tyX12_ok _ (by decide), Or.inr (Or.inl ⟨rfl, rfl⟩), Or.inl ⟨rfl, rfl⟩⟩
theorem fq_LentNamesModel_427 : iv_FQK "LentNamesModel" 427 738 := fun ci hci => by
  have e := iv_sub2_eq hci (by decide)
  subst e
  exact ⟨RX12, TX12, 36, "LentNamesModel", tyX12, tyX12 (738 % 64), rfl, by decide, cw_11, tyX12_ok, nmX12, tb_g (tb_7 (List.mem_of_getElem? (i := 15) rfl)) rfl, Or.inl rfl, tyX12_ok _ (by decide), Or.inl ⟨rfl, rfl⟩, Or.inl ⟨rfl, rfl⟩⟩
theorem fq_LentNamesModel_429 : iv_FQK "LentNamesModel" 429 734 := fun ci hci => by
  have e := iv_sub2_eq hci (by decide)
  subst e
  exact ⟨RX12, TX12, 36, "LentNamesModel", tyX12, tyX12 (734 % 64), rfl, by decide, cw_11, tyX12_ok, nmX12, tb_g (tb_7 (List.mem_of_getElem? (i := 11) rfl)) rfl, Or.inl rfl, tyX12_ok _ (by decide), Or.inl ⟨rfl, rfl⟩, Or.inl ⟨rfl, rfl⟩⟩
def kfl_11 : List (Nat × Nat) := [(3, 704), (13, 25281), (17, 25282), (20, 25283), (23, 25285), (27, 715), (30, 25292), (33, 25294), (36, 25295), (39, 25296), (42, 25297), (45, 25298), (48, 25299), (51, 25300), (54, 25301), (57, 25302), (60, 25303), (63, 25304), (66, 25305), (69, 25307), (72, 25308), (75, 25309), (78, 25315), (81, 4804), (93, 710), (96, 711), (99, 712), (105, 713), (219, 717), (240, 714), (365, 730), (394, 736), (397, 735), (400, 4833), (427, 738), (429, 734)]
theorem kfl_ok_11 : ∀ q ∈ kfl_11, iv_FQK "LentNamesModel" q.1 q.2 := List.forall_mem_cons.mpr ⟨fq_LentNamesModel_3, List.forall_mem_cons.mpr ⟨fq_LentNamesModel_13, List.forall_mem_cons.mpr ⟨fq_LentNamesModel_17, List.forall_mem_cons.mpr ⟨fq_LentNamesModel_20, List.forall_mem_cons.mpr ⟨fq_LentNamesModel_23, List.forall_mem_cons.mpr ⟨fq_LentNamesModel_27, List.forall_mem_cons.mpr ⟨fq_LentNamesModel_30, List.forall_mem_cons.mpr ⟨fq_LentNamesModel_33, List.forall_mem_cons.mpr ⟨fq_LentNamesModel_36, List.forall_mem_cons.mpr ⟨fq_LentNamesModel_39, List.forall_mem_cons.mpr ⟨fq_LentNamesModel_42, List.forall_mem_cons.mpr ⟨fq_LentNamesModel_45, List.forall_mem_cons.mpr ⟨fq_LentNamesModel_48, List.forall_mem_cons.mpr ⟨fq_LentNamesModel_51, List.forall_mem_cons.mpr ⟨fq_LentNamesModel_54, List.forall_mem_cons.mpr ⟨fq_LentNamesModel_57, List.forall_mem_cons.mpr ⟨fq_LentNamesModel_60, List.forall_mem_cons.mpr ⟨fq_LentNamesModel_63, List.forall_mem_cons.mpr ⟨fq_LentNamesModel_66, List.forall_mem_cons.mpr ⟨fq_LentNamesModel_69, List.forall_mem_cons.mpr ⟨fq_LentNamesModel_72, List.forall_mem_cons.mpr ⟨fq_LentNamesModel_75, List.forall_mem_cons.mpr ⟨fq_LentNamesModel_78, List.forall_mem_cons.mpr ⟨fq_LentNamesModel_81, List.forall_mem_cons.mpr ⟨fq_LentNamesModel_93, List.forall_mem_cons.mpr ⟨fq_LentNamesModel_96, List.forall_mem_cons.mpr ⟨fq_LentNamesModel_99, List.forall_mem_cons.mpr ⟨fq_LentNamesModel_105, List.forall_mem_cons.mpr ⟨fq_LentNamesModel_219, List.forall_mem_cons.mpr ⟨fq_LentNamesModel_240, List.forall_mem_cons.mpr ⟨fq_LentNamesModel_365, List.forall_mem_cons.mpr ⟨fq_LentNamesModel_394, List.forall_mem_cons.mpr ⟨fq_LentNamesModel_397, List.forall_mem_cons.mpr ⟨fq_LentNamesModel_400, List.forall_mem_cons.mpr ⟨fq_LentNamesModel_427, List.forall_mem_cons.mpr ⟨fq_LentNamesModel_429, fun q hq => nomatch hq⟩⟩⟩⟩⟩⟩⟩⟩⟩⟩⟩⟩⟩⟩⟩⟩⟩⟩⟩⟩⟩⟩⟩⟩⟩⟩⟩⟩⟩⟩⟩⟩⟩⟩⟩⟩
theorem fq_LentNames_Search_9 : iv_FQK "LentNames$Search" 9 25344 := fun ci hci => by
  rcases iv_sub2_12 hci with rfl | rfl
  · exact ⟨RX4, TX4, 18, "LentNames$Search", tyX4, tyX4 (25344 % 64), rfl, by decide, cw_4, tyX4_ok, nmX4, tb_g (tb_2 (List.mem_of_getElem? (i := 38) rfl)) rfl, Or.inl rfl, tyX4_ok _ (by decide), Or.inr (Or.inr ⟨rfl, Or.inr ⟨_, rfl⟩⟩), Or.inr (Or.inl ⟨rfl, rfl, rfl⟩)⟩
  · exact ⟨RX6, TX6, 19, "LentNames$Search", tyX6, tyX6 (25344 % 64), rfl, by decide, cw_5, tyX6_ok, nmX6, tb_g (tb_2 (List.mem_of_getElem? (i := 38) rfl)) rfl, Or.inl rfl, tyX6_ok _ (by decide), Or.inr (Or.inr ⟨rfl, Or.inr ⟨_, rfl⟩⟩), Or.inr (Or.inl ⟨rfl, rfl, rfl⟩)⟩
theorem fq_LentNames_Search_15 : iv_FQK "LentNames$Search" 15 25345 := fun ci hci => by
  rcases iv_sub2_12 hci with rfl | rfl
  · exact ⟨RX4, TX4, 18, "LentNames$Search", tyX4, tyX4 (25345 % 64), rfl, by decide, cw_4, tyX4_ok, nmX4, tb_g (tb_2 (List.mem_of_getElem? (i := 43) rfl)) rfl, Or.inl rfl, tyX4_ok _ (by decide), Or.inr (Or.inr ⟨rfl, Or.inr ⟨_, rfl⟩⟩), Or.inr (Or.inl ⟨rfl, rfl, rfl⟩)⟩
  · exact ⟨RX6, TX6, 19, "LentNames$Search", tyX6, tyX6 (25345 % 64), rfl, by decide, cw_5, tyX6_ok, nmX6, tb_g (tb_2 (List.mem_of_getElem? (i := 43) rfl)) rfl, Or.inl rfl, tyX6_ok _ (by decide), Or.inr (Or.inr ⟨rfl, Or.inr ⟨_, rfl⟩⟩), Or.inr (Or.inl ⟨rfl, rfl, rfl⟩)⟩
theorem fq_LentNames_Search_18 : iv_FQK "LentNames$Search" 18 25346 := fun ci hci => by
  rcases iv_sub2_12 hci with rfl | rfl
  · exact ⟨RX4, TX4, 18, "LentNames$Search", tyX4, tyX4 (25346 % 64), rfl, by decide, cw_4, tyX4_ok, nmX4, tb_g (tb_2 (List.mem_of_getElem? (i := 48) rfl)) rfl, Or.inl rfl, tyX4_ok _ (by decide), Or.inr (Or.inr ⟨rfl, Or.inr ⟨_, rfl⟩⟩), Or.inr (Or.inl ⟨rfl, rfl, rfl⟩)⟩
  · exact ⟨RX6, TX6, 19, "LentNames$Search", tyX6, tyX6 (25346 % 64), rfl, by decide, cw_5, tyX6_ok, nmX6, tb_g (tb_2 (List.mem_of_getElem? (i := 48) rfl)) rfl, Or.inl rfl, tyX6_ok _ (by decide), Or.inr (Or.inr ⟨rfl, Or.inr ⟨_, rfl⟩⟩), Or.inr (Or.inl ⟨rfl, rfl, rfl⟩)⟩
theorem fq_LentNames_Search_21 : iv_FQK "LentNames$Search" 21 25347 := fun ci hci => by
  rcases iv_sub2_12 hci with rfl | rfl
  · exact ⟨RX4, TX4, 18, "LentNames$Search", tyX4, tyX4 (25347 % 64), rfl, by decide, cw_4, tyX4_ok, nmX4, tb_g (tb_2 (List.mem_of_getElem? (i := 49) rfl)) rfl, Or.inl rfl, tyX4_ok _ (by decide), Or.inr (Or.inr ⟨rfl, Or.inr ⟨_, rfl⟩⟩), Or.inr (Or.inl ⟨rfl, rfl, rfl⟩)⟩
  · exact ⟨RX6, TX6, 19, "LentNames$Search", tyX6, tyX6 (25347 % 64), rfl, by decide, cw_5, tyX6_ok, nmX6, tb_g (tb_2 (List.mem_of_getElem? (i := 49) rfl)) rfl, Or.inl rfl, tyX6_ok _ (by decide), Or.inr (Or.inr ⟨rfl, Or.inr ⟨_, rfl⟩⟩), Or.inr (Or.inl ⟨rfl, rfl, rfl⟩)⟩
theorem fq_LentNames_Search_24 : iv_FQK "LentNames$Search" 24 25348 := fun ci hci => by
  rcases iv_sub2_12 hci with rfl | rfl
  · exact ⟨RX4, TX4, 18, "LentNames$Search", tyX4, tyX4 (25348 % 64), rfl, by decide, cw_4, tyX4_ok, nmX4, tb_g (tb_2 (List.mem_of_getElem? (i := 50) rfl)) rfl, Or.inl rfl, tyX4_ok _ (by decide), Or.inr (Or.inr ⟨rfl, Or.inr ⟨_, rfl⟩⟩), Or.inr (Or.inl ⟨rfl, rfl, rfl⟩)⟩
  · exact ⟨RX6, TX6, 19, "LentNames$Search", tyX6, tyX6 (25348 % 64), rfl, by decide, cw_5, tyX6_ok, nmX6, tb_g (tb_2 (List.mem_of_getElem? (i := 50) rfl)) rfl, Or.inl rfl, tyX6_ok _ (by decide), Or.inr (Or.inr ⟨rfl, Or.inr ⟨_, rfl⟩⟩), Or.inr (Or.inl ⟨rfl, rfl, rfl⟩)⟩
theorem fq_LentNames_Search_27 : iv_FQK "LentNames$Search" 27 25349 := fun ci hci => by
  rcases iv_sub2_12 hci with rfl | rfl
  · exact ⟨RX4, TX4, 18, "LentNames$Search", tyX4, tyX4 (25349 % 64), rfl, by decide, cw_4, tyX4_ok, nmX4, tb_g (tb_2 (List.mem_of_getElem? (i := 51) rfl)) rfl, Or.inl rfl, tyX4_ok _ (by decide), Or.inr (Or.inr ⟨rfl, Or.inl ⟨_, rfl⟩⟩), Or.inr (Or.inl ⟨rfl, rfl, rfl⟩)⟩
  · exact ⟨RX6, TX6, 19, "LentNames$Search", tyX6, tyX6 (25349 % 64), rfl, by decide, cw_5, tyX6_ok, nmX6, tb_g (tb_2 (List.mem_of_getElem? (i := 51) rfl)) rfl, Or.inl rfl, tyX6_ok _ (by decide), Or.inr (Or.inr ⟨rfl, Or.inl ⟨_, rfl⟩⟩), Or.inr (Or.inl ⟨rfl, rfl, rfl⟩)⟩
theorem fq_LentNames_Search_31 : iv_FQK "LentNames$Search" 31 8261 := fun ci hci => by
  have e := iv_sub2_eq hci (by decide)
  subst e
  exact ⟨RX1, TX1, 14, "LentNames$Calendar", tyX1, tyX1 (8261 % 64), rfl, by decide, cw_1, tyX1_ok, nmX1, tb_g (tb_1 (List.mem_of_getElem? (i := 189) rfl)) rfl, Or.inl rfl, tyX1_ok _ (by decide), Or.inr (Or.inr ⟨rfl, Or.inl ⟨_, rfl⟩⟩), Or.inl ⟨rfl, rfl⟩⟩
theorem fq_LentNames_Search_37 : iv_FQK "LentNames$Search" 37 8966 := fun ci hci => by
  rcases iv_sub2_12 hci with rfl | rfl
  · exact ⟨RX4, TX4, 18, "LentNames$Search", tyX4, tyX4 (8966 % 64), rfl, by decide, cw_4, tyX4_ok, nmX4, tb_g (tb_2 (List.mem_of_getElem? (i := 54) rfl)) rfl, Or.inl rfl, tyX4_ok _ (by decide), Or.inr (Or.inr ⟨rfl, Or.inl ⟨_, rfl⟩⟩), Or.inl ⟨rfl, rfl⟩⟩
  · exact ⟨RX6, TX6, 19, "LentNames$Search", tyX6, tyX6 (8966 % 64), rfl, by decide, cw_5, tyX6_ok, nmX6, tb_g (tb_2 (List.mem_of_getElem? (i := 54) rfl)) rfl, Or.inl rfl, tyX6_ok _ (by decide), Or.inr (Or.inr ⟨rfl, Or.inl ⟨_, rfl⟩⟩), Or.inl ⟨rfl, rfl⟩⟩
theorem fq_LentNames_Search_38 : iv_FQK "LentNames$Search" 38 4878 := fun ci hci => by
  rcases iv_sub2_12 hci with rfl | rfl
  · exact ⟨RX4, TX4, 18, "LentNames$Search", tyX4, tyX4 (4878 % 64), rfl, by decide, cw_4, tyX4_ok, nmX4, tb_g (tb_2 (List.mem_of_getElem? (i := 76) rfl)) rfl, Or.inl rfl, tyX4_ok _ (by decide), Or.inr (Or.inl ⟨rfl, rfl⟩), Or.inl ⟨rfl, rfl⟩⟩
  · exact ⟨RX6, TX6, 19, "LentNames$Search", tyX6, tyX6 (4878 % 64), rfl, by decide, cw_5, tyX6_ok, nmX6, tb_g (tb_2 (List.mem_of_getElem? (i := 76) rfl)) rfl, Or.inl rfl, tyX6_ok _ (by decide), Or.inr (Or.inl ⟨rfl, rfl⟩), Or.inl ⟨rfl, rfl⟩⟩
theorem fq_LentNames_Search_42 : iv_FQK "LentNames$Search" 42 775 := fun ci hci => by
  rcases iv_sub2_12 hci with rfl | rfl
  · exact ⟨RX4, TX4, 18, "LentNames$Search", tyX4, tyX4 (775 % 64), rfl, by decide, cw_4, tyX4_ok, nmX4, tb_g (tb_2 (List.mem_of_getElem? (i := 61) rfl)) rfl, Or.inl rfl, tyX4_ok _ (by decide), Or.inl ⟨rfl, rfl⟩, Or.inl ⟨rfl, rfl⟩⟩
  · exact ⟨RX6, TX6, 19, "LentNames$Search", tyX6, tyX6 (775 % 64), rfl, by decide, cw_5, tyX6_ok, nmX6, tb_g (tb_2 (List.mem_of_getElem? (i := 61) rfl)) rfl, Or.inl rfl, tyX6_ok _ (by decide), Or.inl ⟨rfl, rfl⟩, Or.inl ⟨rfl, rfl⟩⟩
theorem fq_LentNames_Search_46 : iv_FQK "LentNames$Search" 46 41025 := fun ci hci => by
  have e := iv_sub2_eq hci (by decide)
  subst e
  exact ⟨RX1, TX1, 14, "LentNames$Calendar", tyX1, tyX1 (41025 % 64), rfl, by decide, cw_1, tyX1_ok, nmX1, tb_g (tb_1 (List.mem_of_getElem? (i := 181) rfl)) rfl, Or.inl rfl, tyX1_ok _ (by decide), Or.inr (Or.inr ⟨rfl, Or.inr ⟨_, rfl⟩⟩), Or.inr (Or.inr rfl)⟩
theorem fq_LentNames_Search_55 : iv_FQK "LentNames$Search" 55 776 := fun ci hci => by
  rcases iv_sub2_12 hci with rfl | rfl
  · exact ⟨RX4, TX4, 18, "LentNames$Search", tyX4, tyX4 (776 % 64), rfl, by decide, cw_4, tyX4_ok, nmX4, tb_g (tb_2 (List.mem_of_getElem? (i := 64) rfl)) rfl, Or.inl rfl, tyX4_ok _ (by decide), Or.inl ⟨rfl, rfl⟩, Or.inl ⟨rfl, rfl⟩⟩
  · exact ⟨RX6, TX6, 19, "LentNames$Search", tyX6, tyX6 (776 % 64), rfl, by decide, cw_5, tyX6_ok, nmX6, tb_g (tb_2 (List.mem_of_getElem? (i := 64) rfl)) rfl, Or.inl rfl, tyX6_ok _ (by decide), Or.inl ⟨rfl, rfl⟩, Or.inl ⟨rfl, rfl⟩⟩
theorem fq_LentNames_Search_58 : iv_FQK "LentNames$Search" 58 783 := fun ci hci => by
  rcases iv_sub2_12 hci with rfl | rfl
  · exact ⟨RX4, TX4, 18, "LentNames$Search", tyX4, tyX4 (783 % 64), rfl, by decide, cw_4, tyX4_ok, nmX4, tb_g (tb_2 (List.mem_of_getElem? (i := 77) rfl)) rfl, Or.inl rfl, tyX4_ok _ (by decide), Or.inl ⟨rfl, rfl⟩, Or.inl ⟨rfl, rfl⟩⟩
  · exact ⟨RX6, TX6, 19, "LentNames$Search", tyX6, tyX6 (783 % 64), rfl, by decide, cw_5, tyX6_ok, nmX6, tb_g (tb_2 (List.mem_of_getElem? (i := 77) rfl)) rfl, Or.inl rfl, tyX6_ok _ (by decide), Or.inl ⟨rfl, rfl⟩, Or.inl ⟨rfl, rfl⟩⟩
theorem fq_LentNames_Search_61 : iv_FQK "LentNames$Search" 61 785 := fun ci hci => by
  rcases iv_sub2_12 hci with rfl | rfl
  · exact ⟨RX4, TX4, 18, "LentNames$Search", tyX4, tyX4 (785 % 64), rfl, by decide, cw_4, tyX4_ok, nmX4, tb_g (tb_2 (List.mem_of_getElem? (i := 79) rfl)) rfl, Or.inl rfl, tyX4_ok _ (by decide), Or.inl ⟨rfl, rfl⟩, Or.inl ⟨rfl, rfl⟩⟩
  · exact ⟨RX6, TX6, 19, "LentNames$Search", tyX6, tyX6 (785 % 64), rfl, by decide, cw_5, tyX6_ok, nmX6, tb_g (tb_2 (List.mem_of_getElem? (i := 79) rfl)) rfl, Or.inl rfl, tyX6_ok _ (by decide), Or.inl ⟨rfl, rfl⟩, Or.inl ⟨rfl, rfl⟩⟩
theorem fq_LentNames_Search_64 : iv_FQK "LentNames$Search" 64 4873 := fun ci hci => by
  rcases iv_sub2_12 hci with rfl | rfl
  · exact ⟨RX4, TX4, 18, "LentNames$Search", tyX4, tyX4 (4873 % 64), rfl, by decide, cw_4, tyX4_ok, nmX4, tb_g (tb_2 (List.mem_of_getElem? (i := 67) rfl)) rfl, Or.inl rfl, tyX4_ok _ (by decide), Or.inr (Or.inl ⟨rfl, rfl⟩), Or.inl ⟨rfl, rfl⟩⟩
  · exact ⟨RX6, TX6, 19, "LentNames$Search", tyX6, tyX6 (4873 % 64), rfl, by decide, cw_5, tyX6_ok, nmX6, tb_g (tb_2 (List.mem_of_getElem? (i := 67) rfl)) rfl, Or.inl rfl, tyX6_ok _ (by decide), Or.inr (Or.inl ⟨rfl, rfl⟩), Or.inl ⟨rfl, rfl⟩⟩
theorem fq_LentNames_Search_74 : iv_FQK "LentNames$Search" 74 784 := fun ci hci => by
  rcases iv_sub2_12 hci with rfl | rfl
  · exact ⟨RX4, TX4, 18, "LentNames$Search", tyX4, tyX4 (784 % 64), rfl, by decide, cw_4, tyX4_ok, nmX4, tb_g (tb_2 (List.mem_of_getElem? (i := 78) rfl)) rfl, Or.inl rfl, tyX4_ok _ (by decide), Or.inl ⟨rfl, rfl⟩, Or.inl ⟨rfl, rfl⟩⟩
  · exact ⟨RX6, TX6, 19, "LentNames$Search", tyX6, tyX6 (784 % 64), rfl, by decide, cw_5, tyX6_ok, nmX6, tb_g (tb_2 (List.mem_of_getElem? (i := 78) rfl)) rfl, Or.inl rfl, tyX6_ok _ (by decide), Or.inl ⟨rfl, rfl⟩, Or.inl ⟨rfl, rfl⟩⟩
theorem fq_LentNames_Search_81 : iv_FQK "LentNames$Search" 81 778 := fun ci hci => by
  rcases iv_sub2_12 hci with rfl | rfl
  · exact ⟨RX4, TX4, 18, "LentNames$Search", tyX4, tyX4 (778 % 64), rfl, by decide, cw_4, tyX4_ok, nmX4, tb_g (tb_2 (List.mem_of_getElem? (i := 72) rfl)) rfl, Or.inl rfl, tyX4_ok _ (by decide), Or.inl ⟨rfl, rfl⟩, Or.inl ⟨rfl, rfl⟩⟩
  · exact ⟨RX6, TX6, 19, "LentNames$Search", tyX6, tyX6 (778 % 64), rfl, by decide, cw_5, tyX6_ok, nmX6, tb_g (tb_2 (List.mem_of_getElem? (i := 72) rfl)) rfl, Or.inl rfl, tyX6_ok _ (by decide), Or.inl ⟨rfl, rfl⟩, Or.inl ⟨rfl, rfl⟩⟩
theorem fq_LentNames_Search_84 : iv_FQK "LentNames$Search" 84 779 := fun ci hci => by
  rcases iv_sub2_12 hci with rfl | rfl
  · exact ⟨RX4, TX4, 18, "LentNames$Search", tyX4, tyX4 (779 % 64), rfl, by decide, cw_4, tyX4_ok, nmX4, tb_g (tb_2 (List.mem_of_getElem? (i := 73) rfl)) rfl, Or.inl rfl, tyX4_ok _ (by decide), Or.inl ⟨rfl, rfl⟩, Or.inl ⟨rfl, rfl⟩⟩
  · exact ⟨RX6, TX6, 19, "LentNames$Search", tyX6, tyX6 (779 % 64), rfl, by decide, cw_5, tyX6_ok, nmX6, tb_g (tb_2 (List.mem_of_getElem? (i := 73) rfl)) rfl, Or.inl rfl, tyX6_ok _ (by decide), Or.inl ⟨rfl, rfl⟩, Or.inl ⟨rfl, rfl⟩⟩
theorem fq_LentNames_Search_87 : iv_FQK "LentNames$Search" 87 780 := fun ci hci => by
  rcases iv_sub2_12 hci with rfl | rfl
  · exact ⟨RX4, TX4, 18, "LentNames$Search", tyX4, tyX4 (780 % 64), rfl, by decide, cw_4, tyX4_ok, nmX4, tb_g (tb_2 (List.mem_of_getElem? (i := 74) rfl)) rfl, Or.inl rfl, tyX4_ok _ (by decide), Or.inl ⟨rfl, rfl⟩, Or.inl ⟨rfl, rfl⟩⟩
  · exact ⟨RX6, TX6, 19, "LentNames$Search", tyX6, tyX6 (780 % 64), rfl, by decide, cw_5, tyX6_ok, nmX6, tb_g (tb_2 (List.mem_of_getElem? (i := 74) rfl)) rfl, Or.inl rfl, tyX6_ok _ (by decide), Or.inl ⟨rfl, rfl⟩, Or.inl ⟨rfl, rfl⟩⟩
theorem fq_LentNames_Search_90 : iv_FQK "LentNames$Search" 90 781 := fun ci hci => by
  rcases iv_sub2_12 hci with rfl | rfl
  · exact ⟨RX4, TX4, 18, "LentNames$Search", tyX4, tyX4 (781 % 64), rfl, by decide, cw_4, tyX4_ok, nmX4, tb_g (tb_2 (List.mem_of_getElem? (i := 75) rfl)) rfl, Or.inl rfl, tyX4_ok _ (by decide), Or.inl ⟨rfl, rfl⟩, Or.inl ⟨rfl, rfl⟩⟩
  · exact ⟨RX6, TX6, 19, "LentNames$Search", tyX6, tyX6 (781 % 64), rfl, by decide, cw_5, tyX6_ok, nmX6, tb_g (tb_2 (List.mem_of_getElem? (i := 75) rfl)) rfl, Or.inl rfl, tyX6_ok _ (by decide), Or.inl ⟨rfl, rfl⟩, Or.inl ⟨rfl, rfl⟩⟩
theorem fq_LentNames_Search_103 : iv_FQK "LentNames$Search" 103 519 := fun ci hci => by
  have e := iv_sub2_eq hci (by decide)
  subst e
  exact ⟨RX9, TX9, 10, "LentNames$Town", tyX9, tyX9 (519 % 64), rfl, by decide, cw_8, tyX9_ok, nmX9, tb_g (tb_1 (List.mem_of_getElem? (i := 142) rfl)) rfl, Or.inl rfl, tyX9_ok _ (by decide), Or.inl ⟨rfl, rfl⟩, Or.inl ⟨rfl, rfl⟩⟩
theorem fq_LentNames_Search_116 : iv_FQK "LentNames$Search" 116 41024 := fun ci hci => by
  have e := iv_sub2_eq hci (by decide)
  subst e
  exact ⟨RX1, TX1, 14, "LentNames$Calendar", tyX1, tyX1 (41024 % 64), rfl, by decide, cw_1, tyX1_ok, nmX1, tb_g (tb_1 (List.mem_of_getElem? (i := 178) rfl)) rfl, Or.inl rfl, tyX1_ok _ (by decide), Or.inr (Or.inr ⟨rfl, Or.inr ⟨_, rfl⟩⟩), Or.inr (Or.inr rfl)⟩
def kfl_12 : List (Nat × Nat) := [(9, 25344), (15, 25345), (18, 25346), (21, 25347), (24, 25348), (27, 25349), (31, 8261), (37, 8966), (38, 4878), (42, 775), (46, 41025), (55, 776), (58, 783), (61, 785), (64, 4873), (74, 784), (81, 778), (84, 779), (87, 780), (90, 781), (103, 519), (116, 41024)]
theorem kfl_ok_12 : ∀ q ∈ kfl_12, iv_FQK "LentNames$Search" q.1 q.2 := List.forall_mem_cons.mpr ⟨fq_LentNames_Search_9, List.forall_mem_cons.mpr ⟨fq_LentNames_Search_15, List.forall_mem_cons.mpr ⟨fq_LentNames_Search_18, List.forall_mem_cons.mpr ⟨fq_LentNames_Search_21, List.forall_mem_cons.mpr ⟨fq_LentNames_Search_24, List.forall_mem_cons.mpr ⟨fq_LentNames_Search_27, List.forall_mem_cons.mpr ⟨fq_LentNames_Search_31, List.forall_mem_cons.mpr ⟨fq_LentNames_Search_37, List.forall_mem_cons.mpr ⟨fq_LentNames_Search_38, List.forall_mem_cons.mpr ⟨fq_LentNames_Search_42, List.forall_mem_cons.mpr ⟨fq_LentNames_Search_46, List.forall_mem_cons.mpr ⟨fq_LentNames_Search_55, List.forall_mem_cons.mpr ⟨fq_LentNames_Search_58, List.forall_mem_cons.mpr ⟨fq_LentNames_Search_61, List.forall_mem_cons.mpr ⟨fq_LentNames_Search_64, List.forall_mem_cons.mpr ⟨fq_LentNames_Search_74, List.forall_mem_cons.mpr ⟨fq_LentNames_Search_81, List.forall_mem_cons.mpr ⟨fq_LentNames_Search_84, List.forall_mem_cons.mpr ⟨fq_LentNames_Search_87, List.forall_mem_cons.mpr ⟨fq_LentNames_Search_90, List.forall_mem_cons.mpr ⟨fq_LentNames_Search_103, List.forall_mem_cons.mpr ⟨fq_LentNames_Search_116, fun q hq => nomatch hq⟩⟩⟩⟩⟩⟩⟩⟩⟩⟩⟩⟩⟩⟩⟩⟩⟩⟩⟩⟩⟩⟩
def kfl_13 : List (Nat × Nat) := []
theorem kfl_ok_13 : ∀ q ∈ kfl_13, iv_FQK "LentNamesLaw" q.1 q.2 := fun q hq => nomatch hq
def kfl_14 : List (Nat × Nat) := []
theorem kfl_ok_14 : ∀ q ∈ kfl_14, iv_FQK "java/lang/Integer" q.1 q.2 := fun q hq => nomatch hq
def kfl_15 : List (Nat × Nat) := []
theorem kfl_ok_15 : ∀ q ∈ kfl_15, iv_FQK "java/lang/String" q.1 q.2 := fun q hq => nomatch hq
def kfl_16 : List (Nat × Nat) := []
theorem kfl_ok_16 : ∀ q ∈ kfl_16, iv_FQK "java/lang/StringLatin1" q.1 q.2 := fun q hq => nomatch hq
def kfl_17 : List (Nat × Nat) := []
theorem kfl_ok_17 : ∀ q ∈ kfl_17, iv_FQK "jdk/internal/util/Preconditions" q.1 q.2 := fun q hq => nomatch hq
theorem cd_0 : ∀ k, k < 2 → (iv_gt (pg_k 0).2 k = 9223372039002259456 ∧ (tyX0 k = .int ∨ tyX0 k = .boolean)) ∨ (iv_gt (pg_k 0).2 k = 36893488147419103232 ∧ ((∃ n, tyX0 k = .object n) ∨ ∃ t, tyX0 k = .array t)) := iv_lt (iv_lt (iv_lt0) (Or.inr ⟨rfl, Or.inr ⟨_, rfl⟩⟩)) (Or.inl ⟨rfl, Or.inl rfl⟩)
theorem cd_1 : ∀ k, k < 14 → (iv_gt (pg_k 1).2 k = 9223372039002259456 ∧ (tyX1 k = .int ∨ tyX1 k = .boolean)) ∨ (iv_gt (pg_k 1).2 k = 36893488147419103232 ∧ ((∃ n, tyX1 k = .object n) ∨ ∃ t, tyX1 k = .array t)) := iv_lt (iv_lt (iv_lt (iv_lt (iv_lt (iv_lt (iv_lt (iv_lt (iv_lt (iv_lt (iv_lt (iv_lt (iv_lt (iv_lt (iv_lt0) (Or.inr ⟨rfl, Or.inr ⟨_, rfl⟩⟩)) (Or.inr ⟨rfl, Or.inr ⟨_, rfl⟩⟩)) (Or.inr ⟨rfl, Or.inr ⟨_, rfl⟩⟩)) (Or.inr ⟨rfl, Or.inr ⟨_, rfl⟩⟩)) (Or.inr ⟨rfl, Or.inr ⟨_, rfl⟩⟩)) (Or.inr ⟨rfl, Or.inl ⟨_, rfl⟩⟩)) (Or.inr ⟨rfl, Or.inr ⟨_, rfl⟩⟩)) (Or.inr ⟨rfl, Or.inr ⟨_, rfl⟩⟩)) (Or.inr ⟨rfl, Or.inr ⟨_, rfl⟩⟩)) (Or.inr ⟨rfl, Or.inr ⟨_, rfl⟩⟩)) (Or.inr ⟨rfl, Or.inr ⟨_, rfl⟩⟩)) (Or.inr ⟨rfl, Or.inr ⟨_, rfl⟩⟩)) (Or.inr ⟨rfl, Or.inr ⟨_, rfl⟩⟩)) (Or.inr ⟨rfl, Or.inr ⟨_, rfl⟩⟩)
theorem cd_2 : ∀ k, k < 5 → (iv_gt (pg_k 2).2 k = 9223372039002259456 ∧ (tyX2 k = .int ∨ tyX2 k = .boolean)) ∨ (iv_gt (pg_k 2).2 k = 36893488147419103232 ∧ ((∃ n, tyX2 k = .object n) ∨ ∃ t, tyX2 k = .array t)) := iv_lt (iv_lt (iv_lt (iv_lt (iv_lt (iv_lt0) (Or.inr ⟨rfl, Or.inr ⟨_, rfl⟩⟩)) (Or.inr ⟨rfl, Or.inr ⟨_, rfl⟩⟩)) (Or.inl ⟨rfl, Or.inl rfl⟩)) (Or.inl ⟨rfl, Or.inl rfl⟩)) (Or.inl ⟨rfl, Or.inl rfl⟩)
theorem cd_3 : ∀ k, k < 2 → (iv_gt (pg_k 3).2 k = 9223372039002259456 ∧ (tyX3 k = .int ∨ tyX3 k = .boolean)) ∨ (iv_gt (pg_k 3).2 k = 36893488147419103232 ∧ ((∃ n, tyX3 k = .object n) ∨ ∃ t, tyX3 k = .array t)) := iv_lt (iv_lt (iv_lt0) (Or.inr ⟨rfl, Or.inl ⟨_, rfl⟩⟩)) (Or.inr ⟨rfl, Or.inl ⟨_, rfl⟩⟩)
theorem cd_4 : ∀ k, k < 18 → (iv_gt (pg_k 4).2 k = 9223372039002259456 ∧ (tyX4 k = .int ∨ tyX4 k = .boolean)) ∨ (iv_gt (pg_k 4).2 k = 36893488147419103232 ∧ ((∃ n, tyX4 k = .object n) ∨ ∃ t, tyX4 k = .array t)) := iv_lt (iv_lt (iv_lt (iv_lt (iv_lt (iv_lt (iv_lt (iv_lt (iv_lt (iv_lt (iv_lt (iv_lt (iv_lt (iv_lt (iv_lt (iv_lt (iv_lt (iv_lt (iv_lt0) (Or.inr ⟨rfl, Or.inr ⟨_, rfl⟩⟩)) (Or.inr ⟨rfl, Or.inr ⟨_, rfl⟩⟩)) (Or.inr ⟨rfl, Or.inr ⟨_, rfl⟩⟩)) (Or.inr ⟨rfl, Or.inr ⟨_, rfl⟩⟩)) (Or.inr ⟨rfl, Or.inr ⟨_, rfl⟩⟩)) (Or.inr ⟨rfl, Or.inl ⟨_, rfl⟩⟩)) (Or.inr ⟨rfl, Or.inl ⟨_, rfl⟩⟩)) (Or.inl ⟨rfl, Or.inl rfl⟩)) (Or.inl ⟨rfl, Or.inl rfl⟩)) (Or.inl ⟨rfl, Or.inr rfl⟩)) (Or.inl ⟨rfl, Or.inl rfl⟩)) (Or.inl ⟨rfl, Or.inl rfl⟩)) (Or.inl ⟨rfl, Or.inl rfl⟩)) (Or.inl ⟨rfl, Or.inl rfl⟩)) (Or.inl ⟨rfl, Or.inr rfl⟩)) (Or.inl ⟨rfl, Or.inl rfl⟩)) (Or.inl ⟨rfl, Or.inl rfl⟩)) (Or.inl ⟨rfl, Or.inl rfl⟩)
theorem cd_5 : ∀ k, k < 19 → (iv_gt (pg_k 5).2 k = 9223372039002259456 ∧ (tyX6 k = .int ∨ tyX6 k = .boolean)) ∨ (iv_gt (pg_k 5).2 k = 36893488147419103232 ∧ ((∃ n, tyX6 k = .object n) ∨ ∃ t, tyX6 k = .array t)) := iv_lt (iv_lt (iv_lt (iv_lt (iv_lt (iv_lt (iv_lt (iv_lt (iv_lt (iv_lt (iv_lt (iv_lt (iv_lt (iv_lt (iv_lt (iv_lt (iv_lt (iv_lt (iv_lt (iv_lt0) (Or.inr ⟨rfl, Or.inr ⟨_, rfl⟩⟩)) (Or.inr ⟨rfl, Or.inr ⟨_, rfl⟩⟩)) (Or.inr ⟨rfl, Or.inr ⟨_, rfl⟩⟩)) (Or.inr ⟨rfl, Or.inr ⟨_, rfl⟩⟩)) (Or.inr ⟨rfl, Or.inr ⟨_, rfl⟩⟩)) (Or.inr ⟨rfl, Or.inl ⟨_, rfl⟩⟩)) (Or.inr ⟨rfl, Or.inl ⟨_, rfl⟩⟩)) (Or.inl ⟨rfl, Or.inl rfl⟩)) (Or.inl ⟨rfl, Or.inl rfl⟩)) (Or.inl ⟨rfl, Or.inr rfl⟩)) (Or.inl ⟨rfl, Or.inl rfl⟩)) (Or.inl ⟨rfl, Or.inl rfl⟩)) (Or.inl ⟨rfl, Or.inl rfl⟩)) (Or.inl ⟨rfl, Or.inl rfl⟩)) (Or.inl ⟨rfl, Or.inr rfl⟩)) (Or.inl ⟨rfl, Or.inl rfl⟩)) (Or.inl ⟨rfl, Or.inl rfl⟩)) (Or.inl ⟨rfl, Or.inl rfl⟩)) (Or.inl ⟨rfl, Or.inl rfl⟩)
theorem cd_6 : ∀ k, k < 3 → (iv_gt (pg_k 6).2 k = 9223372039002259456 ∧ (tyX7 k = .int ∨ tyX7 k = .boolean)) ∨ (iv_gt (pg_k 6).2 k = 36893488147419103232 ∧ ((∃ n, tyX7 k = .object n) ∨ ∃ t, tyX7 k = .array t)) := iv_lt (iv_lt (iv_lt (iv_lt0) (Or.inl ⟨rfl, Or.inl rfl⟩)) (Or.inr ⟨rfl, Or.inr ⟨_, rfl⟩⟩)) (Or.inl ⟨rfl, Or.inl rfl⟩)
theorem cd_7 : ∀ k, k < 3 → (iv_gt (pg_k 7).2 k = 9223372039002259456 ∧ (tyX8 k = .int ∨ tyX8 k = .boolean)) ∨ (iv_gt (pg_k 7).2 k = 36893488147419103232 ∧ ((∃ n, tyX8 k = .object n) ∨ ∃ t, tyX8 k = .array t)) := iv_lt (iv_lt (iv_lt (iv_lt0) (Or.inr ⟨rfl, Or.inr ⟨_, rfl⟩⟩)) (Or.inl ⟨rfl, Or.inl rfl⟩)) (Or.inl ⟨rfl, Or.inl rfl⟩)
theorem cd_8 : ∀ k, k < 10 → (iv_gt (pg_k 8).2 k = 9223372039002259456 ∧ (tyX9 k = .int ∨ tyX9 k = .boolean)) ∨ (iv_gt (pg_k 8).2 k = 36893488147419103232 ∧ ((∃ n, tyX9 k = .object n) ∨ ∃ t, tyX9 k = .array t)) := iv_lt (iv_lt (iv_lt (iv_lt (iv_lt (iv_lt (iv_lt (iv_lt (iv_lt (iv_lt (iv_lt0) (Or.inr ⟨rfl, Or.inl ⟨_, rfl⟩⟩)) (Or.inr ⟨rfl, Or.inl ⟨_, rfl⟩⟩)) (Or.inr ⟨rfl, Or.inl ⟨_, rfl⟩⟩)) (Or.inr ⟨rfl, Or.inl ⟨_, rfl⟩⟩)) (Or.inr ⟨rfl, Or.inr ⟨_, rfl⟩⟩)) (Or.inr ⟨rfl, Or.inr ⟨_, rfl⟩⟩)) (Or.inr ⟨rfl, Or.inl ⟨_, rfl⟩⟩)) (Or.inl ⟨rfl, Or.inl rfl⟩)) (Or.inl ⟨rfl, Or.inl rfl⟩)) (Or.inl ⟨rfl, Or.inl rfl⟩)
theorem cd_9 : ∀ k, k < 2 → (iv_gt (pg_k 9).2 k = 9223372039002259456 ∧ (tyX10 k = .int ∨ tyX10 k = .boolean)) ∨ (iv_gt (pg_k 9).2 k = 36893488147419103232 ∧ ((∃ n, tyX10 k = .object n) ∨ ∃ t, tyX10 k = .array t)) := iv_lt (iv_lt (iv_lt0) (Or.inr ⟨rfl, Or.inl ⟨_, rfl⟩⟩)) (Or.inr ⟨rfl, Or.inl ⟨_, rfl⟩⟩)
theorem cd_10 : ∀ k, k < 12 → (iv_gt (pg_k 10).2 k = 9223372039002259456 ∧ (tyX11 k = .int ∨ tyX11 k = .boolean)) ∨ (iv_gt (pg_k 10).2 k = 36893488147419103232 ∧ ((∃ n, tyX11 k = .object n) ∨ ∃ t, tyX11 k = .array t)) := iv_lt (iv_lt (iv_lt (iv_lt (iv_lt (iv_lt (iv_lt (iv_lt (iv_lt (iv_lt (iv_lt (iv_lt (iv_lt0) (Or.inr ⟨rfl, Or.inl ⟨_, rfl⟩⟩)) (Or.inr ⟨rfl, Or.inl ⟨_, rfl⟩⟩)) (Or.inr ⟨rfl, Or.inl ⟨_, rfl⟩⟩)) (Or.inr ⟨rfl, Or.inl ⟨_, rfl⟩⟩)) (Or.inr ⟨rfl, Or.inl ⟨_, rfl⟩⟩)) (Or.inr ⟨rfl, Or.inl ⟨_, rfl⟩⟩)) (Or.inr ⟨rfl, Or.inl ⟨_, rfl⟩⟩)) (Or.inr ⟨rfl, Or.inl ⟨_, rfl⟩⟩)) (Or.inr ⟨rfl, Or.inl ⟨_, rfl⟩⟩)) (Or.inr ⟨rfl, Or.inl ⟨_, rfl⟩⟩)) (Or.inl ⟨rfl, Or.inr rfl⟩)) (Or.inl ⟨rfl, Or.inl rfl⟩)
theorem cd_11 : ∀ k, k < 36 → (iv_gt (pg_k 11).2 k = 9223372039002259456 ∧ (tyX12 k = .int ∨ tyX12 k = .boolean)) ∨ (iv_gt (pg_k 11).2 k = 36893488147419103232 ∧ ((∃ n, tyX12 k = .object n) ∨ ∃ t, tyX12 k = .array t)) := iv_lt (iv_lt (iv_lt (iv_lt (iv_lt (iv_lt (iv_lt (iv_lt (iv_lt (iv_lt (iv_lt (iv_lt (iv_lt (iv_lt (iv_lt (iv_lt (iv_lt (iv_lt (iv_lt (iv_lt (iv_lt (iv_lt (iv_lt (iv_lt (iv_lt (iv_lt (iv_lt (iv_lt (iv_lt (iv_lt (iv_lt (iv_lt (iv_lt (iv_lt (iv_lt (iv_lt (iv_lt0) (Or.inl ⟨rfl, Or.inl rfl⟩)) (Or.inr ⟨rfl, Or.inr ⟨_, rfl⟩⟩)) (Or.inr ⟨rfl, Or.inr ⟨_, rfl⟩⟩)) (Or.inr ⟨rfl, Or.inr ⟨_, rfl⟩⟩)) (Or.inl ⟨rfl, Or.inr rfl⟩)) (Or.inr ⟨rfl, Or.inr ⟨_, rfl⟩⟩)) (Or.inl ⟨rfl, Or.inl rfl⟩)) (Or.inl ⟨rfl, Or.inl rfl⟩)) (Or.inl ⟨rfl, Or.inl rfl⟩)) (Or.inl ⟨rfl, Or.inl rfl⟩)) (Or.inl ⟨rfl, Or.inl rfl⟩)) (Or.inl ⟨rfl, Or.inl rfl⟩)) (Or.inr ⟨rfl, Or.inr ⟨_, rfl⟩⟩)) (Or.inl ⟨rfl, Or.inl rfl⟩)) (Or.inr ⟨rfl, Or.inr ⟨_, rfl⟩⟩)) (Or.inr ⟨rfl, Or.inr ⟨_, rfl⟩⟩)) (Or.inr ⟨rfl, Or.inr ⟨_, rfl⟩⟩)) (Or.inr ⟨rfl, Or.inr ⟨_, rfl⟩⟩)) (Or.inr ⟨rfl, Or.inr ⟨_, rfl⟩⟩)) (Or.inr ⟨rfl, Or.inr ⟨_, rfl⟩⟩)) (Or.inr ⟨rfl, Or.inr ⟨_, rfl⟩⟩)) (Or.inr ⟨rfl, Or.inr ⟨_, rfl⟩⟩)) (Or.inr ⟨rfl, Or.inr ⟨_, rfl⟩⟩)) (Or.inr ⟨rfl, Or.inr ⟨_, rfl⟩⟩)) (Or.inr ⟨rfl, Or.inr ⟨_, rfl⟩⟩)) (Or.inr ⟨rfl, Or.inr ⟨_, rfl⟩⟩)) (Or.inl ⟨rfl, Or.inl rfl⟩)) (Or.inr ⟨rfl, Or.inr ⟨_, rfl⟩⟩)) (Or.inr ⟨rfl, Or.inr ⟨_, rfl⟩⟩)) (Or.inr ⟨rfl, Or.inr ⟨_, rfl⟩⟩)) (Or.inl ⟨rfl, Or.inl rfl⟩)) (Or.inl ⟨rfl, Or.inl rfl⟩)) (Or.inl ⟨rfl, Or.inl rfl⟩)) (Or.inl ⟨rfl, Or.inr rfl⟩)) (Or.inl ⟨rfl, Or.inl rfl⟩)) (Or.inr ⟨rfl, Or.inr ⟨_, rfl⟩⟩)
def kwl_0 : List (Nat × Nat) := []
theorem kwl_ok_0 : ∀ q ∈ kwl_0, iv_NQK "LentNames$Accounts" q.1 q.2 := fun q hq => nomatch hq
def kwl_1 : List (Nat × Nat) := []
theorem kwl_ok_1 : ∀ q ∈ kwl_1, iv_NQK "LentNames$Calendar" q.1 q.2 := fun q hq => nomatch hq
def kwl_2 : List (Nat × Nat) := []
theorem kwl_ok_2 : ∀ q ∈ kwl_2, iv_NQK "LentNames$Custom" q.1 q.2 := fun q hq => nomatch hq
def kwl_3 : List (Nat × Nat) := []
theorem kwl_ok_3 : ∀ q ∈ kwl_3, iv_NQK "LentNames$CustomReader" q.1 q.2 := fun q hq => nomatch hq
def kwl_4 : List (Nat × Nat) := []
theorem kwl_ok_4 : ∀ q ∈ kwl_4, iv_NQK "LentNames$PlanSearch" q.1 q.2 := fun q hq => nomatch hq
def kwl_5 : List (Nat × Nat) := []
theorem kwl_ok_5 : ∀ q ∈ kwl_5, iv_NQK "LentNames$SecretSearch" q.1 q.2 := fun q hq => nomatch hq
def kwl_6 : List (Nat × Nat) := []
theorem kwl_ok_6 : ∀ q ∈ kwl_6, iv_NQK "LentNames$Table" q.1 q.2 := fun q hq => nomatch hq
def kwl_7 : List (Nat × Nat) := []
theorem kwl_ok_7 : ∀ q ∈ kwl_7, iv_NQK "LentNames$Tape" q.1 q.2 := fun q hq => nomatch hq
theorem nq_LentNames_Town_9 : iv_NQK "LentNames$Town" 9 6 := ⟨RX7, TX7, 3, tyX7, rfl, cw_6, tyX7_ok, tb_g (tb_1 (List.mem_of_getElem? (i := 62) rfl)) rfl, tb_g (tb_1 (List.mem_of_getElem? (i := 63) rfl)) rfl, tb_g (tb_1 (List.mem_of_getElem? (i := 4) rfl)) rfl, rfl, cd_6⟩
theorem nq_LentNames_Town_36 : iv_NQK "LentNames$Town" 36 2 := ⟨RX2, TX2, 5, tyX2, rfl, cw_2, tyX2_ok, tb_g (tb_1 (List.mem_of_getElem? (i := 85) rfl)) rfl, tb_g (tb_1 (List.mem_of_getElem? (i := 86) rfl)) rfl, tb_g (tb_1 (List.mem_of_getElem? (i := 5) rfl)) rfl, rfl, cd_2⟩
def kwl_8 : List (Nat × Nat) := [(9, 6), (36, 2)]
theorem kwl_ok_8 : ∀ q ∈ kwl_8, iv_NQK "LentNames$Town" q.1 q.2 := List.forall_mem_cons.mpr ⟨nq_LentNames_Town_9, List.forall_mem_cons.mpr ⟨nq_LentNames_Town_36, fun q hq => nomatch hq⟩⟩
def kwl_9 : List (Nat × Nat) := []
theorem kwl_ok_9 : ∀ q ∈ kwl_9, iv_NQK "LentNames$TownReader" q.1 q.2 := fun q hq => nomatch hq
theorem nq_LentNames_9 : iv_NQK "LentNames" 9 7 := ⟨RX8, TX8, 3, tyX8, rfl, cw_7, tyX8_ok, tb_g (tb_1 (List.mem_of_getElem? (i := 37) rfl)) rfl, tb_g (tb_1 (List.mem_of_getElem? (i := 38) rfl)) rfl, tb_g (tb_1 (List.mem_of_getElem? (i := 2) rfl)) rfl, rfl, cd_7⟩
theorem nq_LentNames_16 : iv_NQK "LentNames" 16 8 := ⟨RX9, TX9, 10, tyX9, rfl, cw_8, tyX9_ok, tb_g (tb_1 (List.mem_of_getElem? (i := 56) rfl)) rfl, tb_g (tb_1 (List.mem_of_getElem? (i := 57) rfl)) rfl, tb_g (tb_1 (List.mem_of_getElem? (i := 3) rfl)) rfl, rfl, cd_8⟩
theorem nq_LentNames_29 : iv_NQK "LentNames" 29 1 := ⟨RX1, TX1, 14, tyX1, rfl, cw_1, tyX1_ok, tb_g (tb_1 (List.mem_of_getElem? (i := 170) rfl)) rfl, tb_g (tb_1 (List.mem_of_getElem? (i := 171) rfl)) rfl, tb_g (tb_1 (List.mem_of_getElem? (i := 6) rfl)) rfl, rfl, cd_1⟩
theorem nq_LentNames_38 : iv_NQK "LentNames" 38 0 := ⟨RX0, TX0, 2, tyX0, rfl, cw_0, tyX0_ok, tb_g (tb_1 (List.mem_of_getElem? (i := 228) rfl)) rfl, tb_g (tb_1 (List.mem_of_getElem? (i := 229) rfl)) rfl, tb_g (tb_1 (List.mem_of_getElem? (i := 7) rfl)) rfl, rfl, cd_0⟩
theorem nq_LentNames_45 : iv_NQK "LentNames" 45 9 := ⟨RX10, TX10, 2, tyX10, rfl, cw_9, tyX10_ok, tb_g (tb_2 (List.mem_of_getElem? (i := 3) rfl)) rfl, tb_g (tb_2 (List.mem_of_getElem? (i := 4) rfl)) rfl, tb_g (tb_1 (List.mem_of_getElem? (i := 8) rfl)) rfl, rfl, cd_9⟩
theorem nq_LentNames_54 : iv_NQK "LentNames" 54 3 := ⟨RX3, TX3, 2, tyX3, rfl, cw_3, tyX3_ok, tb_g (tb_2 (List.mem_of_getElem? (i := 16) rfl)) rfl, tb_g (tb_2 (List.mem_of_getElem? (i := 17) rfl)) rfl, tb_g (tb_1 (List.mem_of_getElem? (i := 9) rfl)) rfl, rfl, cd_3⟩
theorem nq_LentNames_67 : iv_NQK "LentNames" 67 4 := ⟨RX4, TX4, 18, tyX4, rfl, cw_4, tyX4_ok, tb_g (tb_2 (List.mem_of_getElem? (i := 29) rfl)) rfl, tb_g (tb_2 (List.mem_of_getElem? (i := 30) rfl)) rfl, tb_g (tb_1 (List.mem_of_getElem? (i := 11) rfl)) rfl, rfl, cd_4⟩
theorem nq_LentNames_76 : iv_NQK "LentNames" 76 5 := ⟨RX6, TX6, 19, tyX6, rfl, cw_5, tyX6_ok, tb_g (tb_2 (List.mem_of_getElem? (i := 117) rfl)) rfl, tb_g (tb_2 (List.mem_of_getElem? (i := 118) rfl)) rfl, tb_g (tb_1 (List.mem_of_getElem? (i := 12) rfl)) rfl, rfl, cd_5⟩
def kwl_10 : List (Nat × Nat) := [(9, 7), (16, 8), (29, 1), (38, 0), (45, 9), (54, 3), (67, 4), (76, 5)]
theorem kwl_ok_10 : ∀ q ∈ kwl_10, iv_NQK "LentNames" q.1 q.2 := List.forall_mem_cons.mpr ⟨nq_LentNames_9, List.forall_mem_cons.mpr ⟨nq_LentNames_16, List.forall_mem_cons.mpr ⟨nq_LentNames_29, List.forall_mem_cons.mpr ⟨nq_LentNames_38, List.forall_mem_cons.mpr ⟨nq_LentNames_45, List.forall_mem_cons.mpr ⟨nq_LentNames_54, List.forall_mem_cons.mpr ⟨nq_LentNames_67, List.forall_mem_cons.mpr ⟨nq_LentNames_76, fun q hq => nomatch hq⟩⟩⟩⟩⟩⟩⟩⟩
def kwl_11 : List (Nat × Nat) := []
theorem kwl_ok_11 : ∀ q ∈ kwl_11, iv_NQK "LentNamesModel" q.1 q.2 := fun q hq => nomatch hq
def kwl_12 : List (Nat × Nat) := []
theorem kwl_ok_12 : ∀ q ∈ kwl_12, iv_NQK "LentNames$Search" q.1 q.2 := fun q hq => nomatch hq
theorem nq_LentNamesLaw_8 : iv_NQK "LentNamesLaw" 8 10 := ⟨RX11, TX11, 12, tyX11, rfl, cw_10, tyX11_ok, tb_g (tb_1 (List.mem_of_getElem? (i := 29) rfl)) rfl, tb_g (tb_1 (List.mem_of_getElem? (i := 30) rfl)) rfl, tb_g (tb_1 (List.mem_of_getElem? (i := 1) rfl)) rfl, rfl, cd_10⟩
theorem nq_LentNamesLaw_108 : iv_NQK "LentNamesLaw" 108 11 := ⟨RX12, TX12, 36, tyX12, rfl, cw_11, tyX12_ok, tb_g (tb_6 (List.mem_of_getElem? (i := 215) rfl)) rfl, tb_g (tb_6 (List.mem_of_getElem? (i := 216) rfl)) rfl, tb_g (tb_1 (List.mem_of_getElem? (i := 13) rfl)) rfl, rfl, cd_11⟩
def kwl_13 : List (Nat × Nat) := [(8, 10), (108, 11)]
theorem kwl_ok_13 : ∀ q ∈ kwl_13, iv_NQK "LentNamesLaw" q.1 q.2 := List.forall_mem_cons.mpr ⟨nq_LentNamesLaw_8, List.forall_mem_cons.mpr ⟨nq_LentNamesLaw_108, fun q hq => nomatch hq⟩⟩
def kwl_14 : List (Nat × Nat) := []
theorem kwl_ok_14 : ∀ q ∈ kwl_14, iv_NQK "java/lang/Integer" q.1 q.2 := fun q hq => nomatch hq
def kwl_15 : List (Nat × Nat) := []
theorem kwl_ok_15 : ∀ q ∈ kwl_15, iv_NQK "java/lang/String" q.1 q.2 := fun q hq => nomatch hq
def kwl_16 : List (Nat × Nat) := []
theorem kwl_ok_16 : ∀ q ∈ kwl_16, iv_NQK "java/lang/StringLatin1" q.1 q.2 := fun q hq => nomatch hq
def kwl_17 : List (Nat × Nat) := []
theorem kwl_ok_17 : ∀ q ∈ kwl_17, iv_NQK "jdk/internal/util/Preconditions" q.1 q.2 := fun q hq => nomatch hq
def kfl (c : Nat) : List (Nat × Nat) := match c with | 0 => kfl_0 | 1 => kfl_1 | 2 => kfl_2 | 3 => kfl_3 | 4 => kfl_4 | 5 => kfl_5 | 6 => kfl_6 | 7 => kfl_7 | 8 => kfl_8 | 9 => kfl_9 | 10 => kfl_10 | 11 => kfl_11 | 12 => kfl_12 | 13 => kfl_13 | 14 => kfl_14 | 15 => kfl_15 | 16 => kfl_16 | 17 => kfl_17 | _ => []
theorem kfl_ok : ∀ c, ∀ q ∈ kfl c, iv_FQK (kn c) q.1 q.2
  | 0 => kfl_ok_0
  | 1 => kfl_ok_1
  | 2 => kfl_ok_2
  | 3 => kfl_ok_3
  | 4 => kfl_ok_4
  | 5 => kfl_ok_5
  | 6 => kfl_ok_6
  | 7 => kfl_ok_7
  | 8 => kfl_ok_8
  | 9 => kfl_ok_9
  | 10 => kfl_ok_10
  | 11 => kfl_ok_11
  | 12 => kfl_ok_12
  | 13 => kfl_ok_13
  | 14 => kfl_ok_14
  | 15 => kfl_ok_15
  | 16 => kfl_ok_16
  | 17 => kfl_ok_17
  | _ + 18 => fun q hq => nomatch hq
def kwl (c : Nat) : List (Nat × Nat) := match c with | 0 => kwl_0 | 1 => kwl_1 | 2 => kwl_2 | 3 => kwl_3 | 4 => kwl_4 | 5 => kwl_5 | 6 => kwl_6 | 7 => kwl_7 | 8 => kwl_8 | 9 => kwl_9 | 10 => kwl_10 | 11 => kwl_11 | 12 => kwl_12 | 13 => kwl_13 | 14 => kwl_14 | 15 => kwl_15 | 16 => kwl_16 | 17 => kwl_17 | _ => []
theorem kwl_ok : ∀ c, ∀ q ∈ kwl c, iv_NQK (kn c) q.1 q.2
  | 0 => kwl_ok_0
  | 1 => kwl_ok_1
  | 2 => kwl_ok_2
  | 3 => kwl_ok_3
  | 4 => kwl_ok_4
  | 5 => kwl_ok_5
  | 6 => kwl_ok_6
  | 7 => kwl_ok_7
  | 8 => kwl_ok_8
  | 9 => kwl_ok_9
  | 10 => kwl_ok_10
  | 11 => kwl_ok_11
  | 12 => kwl_ok_12
  | 13 => kwl_ok_13
  | 14 => kwl_ok_14
  | 15 => kwl_ok_15
  | 16 => kwl_ok_16
  | 17 => kwl_ok_17
  | _ + 18 => fun q hq => nomatch hq
noncomputable def kf (mi k : Nat) : Nat := iv_lk (kfl (kcl mi)) k
noncomputable def kw (mi k : Nat) : Nat := iv_lk (kwl (kcl mi)) k
theorem kf_at {mi k : Nat} (h : kf mi k < 65536) : mi < 318 ∧ iv_FQK (pm_y mi).cls k (kf mi k) := by
  by_cases hm : mi < 318
  · refine ⟨hm, ?_⟩
    rw [kcl_ok mi hm]
    exact kfl_ok (kcl mi) (k, kf mi k) (iv_lk_mem _ _ (Nat.lt_trans h (by decide)))
  · unfold kf at h
    rw [kcl_no hm] at h
    exact absurd (show 1152921504606846976 < 65536 from h) (by decide)
theorem lk_F : ∀ mi k, kf mi k < 65536 → iv_FOK (pm_y mi).cls k (kf mi k % 4096 % 64) (kf mi k % 4096 / 64) := by
  intro mi k h ci hci
  obtain ⟨-, g⟩ := kf_at h
  have e1 : kf mi k % 4096 / 64 = kf mi k / 64 % 64 := by omega
  have e2 : kf mi k % 4096 % 64 = kf mi k % 64 := by omega
  rw [e1] at hci
  obtain ⟨C, T, N, ref, ty0, tv, h1, h2, h3, -, -, h6, h7, -⟩ := g ci hci
  rw [e2]
  exact ⟨C, T, N, ref, h1, h2, h3, h6, h7⟩
theorem lk_FP : ∀ mi k, kf mi k < 65536 → (kf mi k / 16384 = 0 ∨ (kf mi k / 16384 = 1 ∧ ki mi = true)) → iv_FPK mi k (kf mi k) := by
  intro mi k h hz ci hci
  obtain ⟨hm, g⟩ := kf_at h
  obtain ⟨C, T, N, ref, ty0, tv, h1, h2, h3, h4, h5, h6, h7, h8, h9, h10⟩ := g ci hci
  refine ⟨C, T, N, ref, ty0, tv, h1, h2, h3, h4, h5, h6, h7, h8, h9, ?_⟩
  rcases h10 with ⟨-, h10⟩ | ⟨g1, g2, g3⟩ | g1
  · exact Or.inl h10
  · rcases hz with hz | ⟨-, hz⟩
    · omega
    · exact Or.inr ⟨g2, ki_ok mi hm hz, g3⟩
  · rcases hz with hz | ⟨hz, -⟩ <;> omega
theorem lk_N : ∀ mi k, kw mi k < 64 → iv_NOK mi k (kw mi k) := by
  intro mi k h
  by_cases hm : mi < 318
  · have g := kwl_ok (kcl mi) (k, kw mi k) (iv_lk_mem _ _ (Nat.lt_trans h (by decide)))
    rw [← kcl_ok mi hm] at g
    exact g
  · unfold kw at h
    rw [kcl_no hm] at h
    exact absurd (show 1152921504606846976 < 64 from h) (by decide)
