/-! ===== the law's entry ===== -/
theorem lw_known {s : State} {A : Array Value} (hts : ∀ w ∈ lw_tbl, w.before A s = true) : ∀ (c : Nat), ∃ (cC : ClassId) (iS : Nat → Nat), ∀ (q : vw_C), vwCl[c]? = some q → u_Kn s q.1 q.2.1 q.2.2 cC iS
  | 0 => by
    obtain ⟨cC, iS, h⟩ := u_known (ws := iv_T) (fun w hw => hts w (List.mem_filter.mp hw).1) cw_0 (n := 2) (hts _ (tb_1 (List.mem_of_getElem? (i := 229) rfl)))
    exact ⟨cC, iS, fun q hq => by cases hq; exact h⟩
  | 1 => by
    obtain ⟨cC, iS, h⟩ := u_known (ws := iv_T) (fun w hw => hts w (List.mem_filter.mp hw).1) cw_1 (n := 14) (hts _ (tb_1 (List.mem_of_getElem? (i := 171) rfl)))
    exact ⟨cC, iS, fun q hq => by cases hq; exact h⟩
  | 2 => by
    obtain ⟨cC, iS, h⟩ := u_known (ws := iv_T) (fun w hw => hts w (List.mem_filter.mp hw).1) cw_2 (n := 5) (hts _ (tb_1 (List.mem_of_getElem? (i := 86) rfl)))
    exact ⟨cC, iS, fun q hq => by cases hq; exact h⟩
  | 3 => by
    obtain ⟨cC, iS, h⟩ := u_known (ws := iv_T) (fun w hw => hts w (List.mem_filter.mp hw).1) cw_3 (n := 2) (hts _ (tb_2 (List.mem_of_getElem? (i := 17) rfl)))
    exact ⟨cC, iS, fun q hq => by cases hq; exact h⟩
  | 4 => by
    obtain ⟨cC, iS, h⟩ := u_known (ws := iv_T) (fun w hw => hts w (List.mem_filter.mp hw).1) cw_4 (n := 18) (hts _ (tb_2 (List.mem_of_getElem? (i := 30) rfl)))
    exact ⟨cC, iS, fun q hq => by cases hq; exact h⟩
  | 5 => by
    obtain ⟨cC, iS, h⟩ := u_known (ws := iv_T) (fun w hw => hts w (List.mem_filter.mp hw).1) cw_5 (n := 19) (hts _ (tb_2 (List.mem_of_getElem? (i := 118) rfl)))
    exact ⟨cC, iS, fun q hq => by cases hq; exact h⟩
  | 6 => by
    obtain ⟨cC, iS, h⟩ := u_known (ws := iv_T) (fun w hw => hts w (List.mem_filter.mp hw).1) cw_6 (n := 3) (hts _ (tb_1 (List.mem_of_getElem? (i := 63) rfl)))
    exact ⟨cC, iS, fun q hq => by cases hq; exact h⟩
  | 7 => by
    obtain ⟨cC, iS, h⟩ := u_known (ws := iv_T) (fun w hw => hts w (List.mem_filter.mp hw).1) cw_7 (n := 3) (hts _ (tb_1 (List.mem_of_getElem? (i := 38) rfl)))
    exact ⟨cC, iS, fun q hq => by cases hq; exact h⟩
  | 8 => by
    obtain ⟨cC, iS, h⟩ := u_known (ws := iv_T) (fun w hw => hts w (List.mem_filter.mp hw).1) cw_8 (n := 10) (hts _ (tb_1 (List.mem_of_getElem? (i := 57) rfl)))
    exact ⟨cC, iS, fun q hq => by cases hq; exact h⟩
  | 9 => by
    obtain ⟨cC, iS, h⟩ := u_known (ws := iv_T) (fun w hw => hts w (List.mem_filter.mp hw).1) cw_9 (n := 2) (hts _ (tb_2 (List.mem_of_getElem? (i := 4) rfl)))
    exact ⟨cC, iS, fun q hq => by cases hq; exact h⟩
  | 10 => by
    obtain ⟨cC, iS, h⟩ := u_known (ws := iv_T) (fun w hw => hts w (List.mem_filter.mp hw).1) cw_10 (n := 12) (hts _ (tb_1 (List.mem_of_getElem? (i := 30) rfl)))
    exact ⟨cC, iS, fun q hq => by cases hq; exact h⟩
  | 11 => by
    obtain ⟨cC, iS, h⟩ := u_known (ws := iv_T) (fun w hw => hts w (List.mem_filter.mp hw).1) cw_11 (n := 36) (hts _ (tb_6 (List.mem_of_getElem? (i := 216) rfl)))
    exact ⟨cC, iS, fun q hq => by cases hq; exact h⟩
  | n + 12 => ⟨0, fun _ => 0, fun q hq => by
    have e : vwCl[n + 12]? = none := rfl
    rw [e] at hq
    cases hq⟩
theorem ls_s114 {s : State} {A : Array Value} (hts : ∀ w ∈ lw_tbl, w.before A s = true) (hs : ∀ c ∈ flatC (Jvm.Cond.and given_1 narrow_1), c.before A s = true) : ∃ a, vk_R "LentNames" 114 "the text of the town is wrong" a s := by
  obtain ⟨a, _, _, _, ev, -⟩ := Cond.exactly_spec (hs (Cond.exactly (Term.string "LentNames" 114) "java/lang/String") (by decide +kernel))
  exact ⟨a, vk_R.of (hts _ (tb_4 (List.mem_of_getElem? (i := 176) rfl))) ev⟩
theorem ls_s124 {s : State} {A : Array Value} (hts : ∀ w ∈ lw_tbl, w.before A s = true) (hs : ∀ c ∈ flatC (Jvm.Cond.and given_1 narrow_1), c.before A s = true) : ∃ a, vk_R "LentNames" 124 "there are ten texts" a s := by
  obtain ⟨a, _, _, _, ev, -⟩ := Cond.exactly_spec (hs (Cond.exactly (Term.string "LentNames" 124) "java/lang/String") (by decide +kernel))
  exact ⟨a, vk_R.of (hts _ (tb_4 (List.mem_of_getElem? (i := 212) rfl))) ev⟩
theorem ls_s140 {s : State} {A : Array Value} (hts : ∀ w ∈ lw_tbl, w.before A s = true) (hs : ∀ c ∈ flatC (Jvm.Cond.and given_1 narrow_1), c.before A s = true) : ∃ a, vk_R "LentNames" 140 "there cannot be so many bodies" a s := by
  obtain ⟨a, _, _, _, ev, -⟩ := Cond.exactly_spec (hs (Cond.exactly (Term.string "LentNames" 140) "java/lang/String") (by decide +kernel))
  exact ⟨a, vk_R.of (hts _ (tb_4 (List.mem_of_getElem? (i := 231) rfl))) ev⟩
theorem ls_s144 {s : State} {A : Array Value} (hts : ∀ w ∈ lw_tbl, w.before A s = true) (hs : ∀ c ∈ flatC (Jvm.Cond.and given_1 narrow_1), c.before A s = true) : ∃ a, vk_R "LentNames" 144 "texts were told" a s := by
  obtain ⟨a, _, _, _, ev, -⟩ := Cond.exactly_spec (hs (Cond.exactly (Term.string "LentNames" 144) "java/lang/String") (by decide +kernel))
  exact ⟨a, vk_R.of (hts _ (tb_5 (List.mem_of_getElem? (i := 1) rfl))) ev⟩
theorem ls_s330 {s : State} {A : Array Value} (hts : ∀ w ∈ lw_tbl, w.before A s = true) (hs : ∀ c ∈ flatC (Jvm.Cond.and given_1 narrow_1), c.before A s = true) : ∃ a, vk_R "LentNames" 330 "there is no such name" a s := by
  obtain ⟨a, _, _, _, ev, -⟩ := Cond.exactly_spec (hs (Cond.exactly (Term.string "LentNames" 330) "java/lang/String") (by decide +kernel))
  exact ⟨a, vk_R.of (hts _ (tb_5 (List.mem_of_getElem? (i := 29) rfl))) ev⟩
theorem ls_s335 {s : State} {A : Array Value} (hts : ∀ w ∈ lw_tbl, w.before A s = true) (hs : ∀ c ∈ flatC (Jvm.Cond.and given_1 narrow_1), c.before A s = true) : ∃ a, vk_R "LentNames" 335 "there is no such day" a s := by
  obtain ⟨a, _, _, _, ev, -⟩ := Cond.exactly_spec (hs (Cond.exactly (Term.string "LentNames" 335) "java/lang/String") (by decide +kernel))
  exact ⟨a, vk_R.of (hts _ (tb_5 (List.mem_of_getElem? (i := 39) rfl))) ev⟩
theorem ls_s333 {s : State} {A : Array Value} (hts : ∀ w ∈ lw_tbl, w.before A s = true) (hs : ∀ c ∈ flatC (Jvm.Cond.and given_1 narrow_1), c.before A s = true) : ∃ a, vk_R "LentNames" 333 "there is no such body" a s := by
  obtain ⟨a, _, _, _, ev, -⟩ := Cond.exactly_spec (hs (Cond.exactly (Term.string "LentNames" 333) "java/lang/String") (by decide +kernel))
  exact ⟨a, vk_R.of (hts _ (tb_5 (List.mem_of_getElem? (i := 51) rfl))) ev⟩
theorem ls_s337 {s : State} {A : Array Value} (hts : ∀ w ∈ lw_tbl, w.before A s = true) (hs : ∀ c ∈ flatC (Jvm.Cond.and given_1 narrow_1), c.before A s = true) : ∃ a, vk_R "LentNames" 337 "nothing of that number was told" a s := by
  obtain ⟨a, _, _, _, ev, -⟩ := Cond.exactly_spec (hs (Cond.exactly (Term.string "LentNames" 337) "java/lang/String") (by decide +kernel))
  exact ⟨a, vk_R.of (hts _ (tb_5 (List.mem_of_getElem? (i := 118) rfl))) ev⟩
theorem ls_s229 {s : State} {A : Array Value} (hts : ∀ w ∈ lw_tbl, w.before A s = true) (hs : ∀ c ∈ flatC (Jvm.Cond.and given_1 narrow_1), c.before A s = true) : ∃ a, vk_R "LentNames" 229 "a loan has no such number" a s := by
  obtain ⟨a, _, _, _, ev, -⟩ := Cond.exactly_spec (hs (Cond.exactly (Term.string "LentNames" 229) "java/lang/String") (by decide +kernel))
  exact ⟨a, vk_R.of (hts _ (tb_5 (List.mem_of_getElem? (i := 129) rfl))) ev⟩
theorem ls_s238 {s : State} {A : Array Value} (hts : ∀ w ∈ lw_tbl, w.before A s = true) (hs : ∀ c ∈ flatC (Jvm.Cond.and given_1 narrow_1), c.before A s = true) : ∃ a, vk_R "LentNames" 238 "a letter has no such number" a s := by
  obtain ⟨a, _, _, _, ev, -⟩ := Cond.exactly_spec (hs (Cond.exactly (Term.string "LentNames" 238) "java/lang/String") (by decide +kernel))
  exact ⟨a, vk_R.of (hts _ (tb_5 (List.mem_of_getElem? (i := 150) rfl))) ev⟩
theorem ls_s133 {s : State} {A : Array Value} (hts : ∀ w ∈ lw_tbl, w.before A s = true) (hs : ∀ c ∈ flatC (Jvm.Cond.and given_1 narrow_1), c.before A s = true) : ∃ a, vk_R "LentNames" 133 "the text of the custom is wrong" a s := by
  obtain ⟨a, _, _, _, ev, -⟩ := Cond.exactly_spec (hs (Cond.exactly (Term.string "LentNames" 133) "java/lang/String") (by decide +kernel))
  exact ⟨a, vk_R.of (hts _ (tb_6 (List.mem_of_getElem? (i := 0) rfl))) ev⟩
theorem ls_s269 {s : State} {A : Array Value} (hts : ∀ w ∈ lw_tbl, w.before A s = true) (hs : ∀ c ∈ flatC (Jvm.Cond.and given_1 narrow_1), c.before A s = true) : ∃ a, vk_R "LentNames" 269 "no purse holds that" a s := by
  obtain ⟨a, _, _, _, ev, -⟩ := Cond.exactly_spec (hs (Cond.exactly (Term.string "LentNames" 269) "java/lang/String") (by decide +kernel))
  exact ⟨a, vk_R.of (hts _ (tb_6 (List.mem_of_getElem? (i := 8) rfl))) ev⟩
theorem ls_s250 {s : State} {A : Array Value} (hts : ∀ w ∈ lw_tbl, w.before A s = true) (hs : ∀ c ∈ flatC (Jvm.Cond.and given_1 narrow_1), c.before A s = true) : ∃ a, vk_R "LentNames" 250 "the bound is none" a s := by
  obtain ⟨a, _, _, _, ev, -⟩ := Cond.exactly_spec (hs (Cond.exactly (Term.string "LentNames" 250) "java/lang/String") (by decide +kernel))
  exact ⟨a, vk_R.of (hts _ (tb_6 (List.mem_of_getElem? (i := 46) rfl))) ev⟩
theorem ls_s252 {s : State} {A : Array Value} (hts : ∀ w ∈ lw_tbl, w.before A s = true) (hs : ∀ c ∈ flatC (Jvm.Cond.and given_1 narrow_1), c.before A s = true) : ∃ a, vk_R "LentNames" 252 "k is below NONE" a s := by
  obtain ⟨a, _, _, _, ev, -⟩ := Cond.exactly_spec (hs (Cond.exactly (Term.string "LentNames" 252) "java/lang/String") (by decide +kernel))
  exact ⟨a, vk_R.of (hts _ (tb_6 (List.mem_of_getElem? (i := 47) rfl))) ev⟩
theorem ls_s291 {s : State} {A : Array Value} (hts : ∀ w ∈ lw_tbl, w.before A s = true) (hs : ∀ c ∈ flatC (Jvm.Cond.and given_1 narrow_1), c.before A s = true) : ∃ a, vk_R "LentNames" 291 "what is below -2" a s := by
  obtain ⟨a, _, _, _, ev, -⟩ := Cond.exactly_spec (hs (Cond.exactly (Term.string "LentNames" 291) "java/lang/String") (by decide +kernel))
  exact ⟨a, vk_R.of (hts _ (tb_6 (List.mem_of_getElem? (i := 178) rfl))) ev⟩
theorem ls_str {s : State} {A : Array Value} (hts : ∀ w ∈ lw_tbl, w.before A s = true) (hs : ∀ c ∈ flatC (Jvm.Cond.and given_1 narrow_1), c.before A s = true) : ∀ q ∈ iv_str, ∃ a, vk_R q.1 q.2.1 q.2.2 a s := List.forall_mem_cons.mpr ⟨ls_s114 hts hs, List.forall_mem_cons.mpr ⟨ls_s124 hts hs, List.forall_mem_cons.mpr ⟨ls_s140 hts hs, List.forall_mem_cons.mpr ⟨ls_s144 hts hs, List.forall_mem_cons.mpr ⟨ls_s330 hts hs, List.forall_mem_cons.mpr ⟨ls_s335 hts hs, List.forall_mem_cons.mpr ⟨ls_s333 hts hs, List.forall_mem_cons.mpr ⟨ls_s337 hts hs, List.forall_mem_cons.mpr ⟨ls_s229 hts hs, List.forall_mem_cons.mpr ⟨ls_s238 hts hs, List.forall_mem_cons.mpr ⟨ls_s133 hts hs, List.forall_mem_cons.mpr ⟨ls_s269 hts hs, List.forall_mem_cons.mpr ⟨ls_s250 hts hs, List.forall_mem_cons.mpr ⟨ls_s252 hts hs, List.forall_mem_cons.mpr ⟨ls_s291 hts hs, fun q hq => nomatch hq⟩⟩⟩⟩⟩⟩⟩⟩⟩⟩⟩⟩⟩⟩⟩
theorem ls_nc {s : State} {A : Array Value} (hs : ∀ c ∈ flatC (Jvm.Cond.and given_1 narrow_1), c.before A s = true) : ∀ q ∈ iv_nc, va_Nc q.1 q.2 s := List.forall_mem_cons.mpr ⟨va_Nc.of (hs (Cond.not (.castable "java/lang/IllegalArgumentException" "java/lang/IndexOutOfBoundsException")) (by decide +kernel)), List.forall_mem_cons.mpr ⟨va_Nc.of (hs (Cond.not (.castable "java/lang/IllegalStateException" "java/lang/IllegalArgumentException")) (by decide +kernel)), List.forall_mem_cons.mpr ⟨va_Nc.of (hs (Cond.not (.castable "java/lang/UnsupportedOperationException" "java/lang/IllegalArgumentException")) (by decide +kernel)), List.forall_mem_cons.mpr ⟨va_Nc.of (hs (Cond.not (.castable "java/util/NoSuchElementException" "java/lang/IndexOutOfBoundsException")) (by decide +kernel)), fun q hq => nomatch hq⟩⟩⟩⟩
theorem ls_nk {s : State} {A : Array Value} {w : Cond} (hk : iv_nk w = true) (h : w.before A s = true) : va_Nw w s := by
  cases w with
  | methodLinkNest a i x h' => exact va_tabs rfl rfl h
  | declares x => exact va_tabs rfl rfl h
  | castable C T => exact va_tabs rfl rfl h
  | privateMethod x => exact va_tabs rfl rfl h
  | _ => cases hk
/-- a text, out of what is said of it -/
def tx_P (tm : Term) (i : Nat) (A : Array Value) (s : State) (q : Nat × Nat) : Prop := tm.eval A s none [] s = some (.ref q.1) ∧ va_O "java/lang/String" q.1 (va_A [] s.heap.size) s s.heap ∧ va_OF "java/lang/String" "coder" "B" (.int 0) q.1 (va_A [] s.heap.size) s s.heap ∧ va_OF "java/lang/String" "value" "[B" (.ref q.2) q.1 (va_A [] s.heap.size) s s.heap ∧ va_T .byte q.2 (iv_tl i) (fun j => .int (Int32.ofNat (iv_tc i j))) (va_A [] s.heap.size) s s.heap
theorem tx_one {s : State} {A : Array Value} {tm : Term} {i : Nat} (hA : ∀ a : Nat, a < s.heap.size → ¬ va_A [] s.heap.size a) (hN : iv_tl i < 2 ^ 31) (hex : (Cond.exactly tm "java/lang/String").before A s = true) (hco : (Cond.eq (.field tm "java/lang/String" "coder" "B") (.int 0)).before A s = true)
    (har : (Cond.arrayOf (.field tm "java/lang/String" "value" "[B") .byte).before A s = true) (hle : (Cond.eq (.length (.field tm "java/lang/String" "value" "[B")) (.int (Int32.ofNat (iv_tl i)))).before A s = true)
    (hel : ∀ j : Nat, j < iv_tl i → (Cond.eq (.elem (.field tm "java/lang/String" "value" "[B") (.int (Int32.ofNat j))) (.int (Int32.ofNat (iv_tc i j)))).before A s = true) : ∃ q, tx_P tm i A s q := by
  obtain ⟨a, c, cA, kA, q1, q2, q3, q4, q5, q6, -⟩ := Cond.exactly_spec (args := A) (first := s) (o := none) (s := s) (idx := []) (t := tm) (cls := "java/lang/String") hex
  obtain ⟨t, ht, hT⟩ := va_Tof (f := fun j => .int (Int32.ofNat (iv_tc i j))) (A := va_A [] s.heap.size) hN har (va_eqt hle) (fun j hj => va_eqt (hel j hj)) hA
  exact ⟨(a, t), q1, ⟨cA, q3, q5, by rw [q6]; exact q2, hA a (Array.getElem?_eq_some_iff.mp q3).1⟩, vk_OFof q1 (va_eqt hco) hA, vk_OFof q1 ht hA, hT⟩
theorem tx_eq {s : State} {A : Array Value} {t u : Term} {a b : Nat} (h : (Cond.eq t u).before A s = true) (ht : t.eval A s none [] s = some (.ref a)) (hu : u.eval A s none [] s = some (.ref b)) : a = b := by
  simpa [Cond.before, Cond.holds, Cond.value, ht, hu] using h
def tx_t (i : Nat) : Term := match i with | 0 => .string "LentNames$TownReader" 35 | 1 => .string "LentNames$TownReader" 109 | 2 => .string "LentNames$TownReader" 111 | 3 => .string "LentNames$TownReader" 113 | 4 => .string "LentNames$TownReader" 115 | 5 => .string "LentNames$TownReader" 121 | 6 => .string "LentNames$TownReader" 58 | 7 => .string "LentNames$TownReader" 144 | 8 => .string "LentNames$TownReader" 66 | 9 => .string "LentNames$TownReader" 149 | 10 => .string "LentNames$TownReader" 151 | 11 => .string "LentNames$TownReader" 153 | 12 => .string "LentNames$TownReader" 155 | 13 => .string "LentNames$TownReader" 74 | 14 => .string "LentNames$TownReader" 157 | 15 => .string "LentNames$TownReader" 165 | 16 => .string "LentNames$TownReader" 163 | 17 => .string "LentNames$TownReader" 82 | 18 => .string "LentNames$TownReader" 130 | 19 => .string "LentNames$TownReader" 87 | 20 => .string "LentNames$TownReader" 92 | 21 => .string "LentNames$CustomReader" 44 | 22 => .string "LentNames$CustomReader" 50 | 23 => .string "LentNames$CustomReader" 52 | 24 => .string "LentNames$CustomReader" 71 | 25 => .string "LentNames$CustomReader" 79 | 26 => .string "LentNames$CustomReader" 81 | 27 => .string "LentNames$CustomReader" 99 | 28 => .string "LentNames$CustomReader" 103 | 29 => .string "LentNames$CustomReader" 105 | 30 => .string "LentNames$CustomReader" 107 | 31 => .string "LentNames$CustomReader" 69 | _ => .int 0
theorem tx_0 {s : State} {A : Array Value} (hs : ∀ c ∈ flatC (Jvm.Cond.and given_1 narrow_1), c.before A s = true) (hA : ∀ a : Nat, a < s.heap.size → ¬ va_A [] s.heap.size a) : ∃ q, tx_P (tx_t 0) 0 A s q :=
  tx_one hA (by decide +kernel) (hs (.exactly (.string "LentNames$TownReader" 35) "java/lang/String") (by decide +kernel)) (hs (.eq (.field (.string "LentNames$TownReader" 35) "java/lang/String" "coder" "B") (.int 0)) (by decide +kernel)) (hs (.arrayOf (.field (.string "LentNames$TownReader" 35) "java/lang/String" "value" "[B") .byte) (by decide +kernel)) (hs (.eq (.length (.field (.string "LentNames$TownReader" 35) "java/lang/String" "value" "[B")) (.int 4)) (by decide +kernel)) (fun j hj => match j, hj with
    | 0, _ => hs (.eq (.elem (.field (.string "LentNames$TownReader" 35) "java/lang/String" "value" "[B") (.int 0)) (.int 108)) (by decide +kernel)
    | 1, _ => hs (.eq (.elem (.field (.string "LentNames$TownReader" 35) "java/lang/String" "value" "[B") (.int 1)) (.int 101)) (by decide +kernel)
    | 2, _ => hs (.eq (.elem (.field (.string "LentNames$TownReader" 35) "java/lang/String" "value" "[B") (.int 2)) (.int 110)) (by decide +kernel)
    | 3, _ => hs (.eq (.elem (.field (.string "LentNames$TownReader" 35) "java/lang/String" "value" "[B") (.int 3)) (.int 100)) (by decide +kernel)
    | n + 4, h => absurd h (by show ¬ n + 4 < 4; omega))
theorem tx_1 {s : State} {A : Array Value} (hs : ∀ c ∈ flatC (Jvm.Cond.and given_1 narrow_1), c.before A s = true) (hA : ∀ a : Nat, a < s.heap.size → ¬ va_A [] s.heap.size a) : ∃ q, tx_P (tx_t 1) 1 A s q :=
  tx_one hA (by decide +kernel) (hs (.exactly (.string "LentNames$TownReader" 109) "java/lang/String") (by decide +kernel)) (hs (.eq (.field (.string "LentNames$TownReader" 109) "java/lang/String" "coder" "B") (.int 0)) (by decide +kernel)) (hs (.arrayOf (.field (.string "LentNames$TownReader" 109) "java/lang/String" "value" "[B") .byte) (by decide +kernel)) (hs (.eq (.length (.field (.string "LentNames$TownReader" 109) "java/lang/String" "value" "[B")) (.int 2)) (by decide +kernel)) (fun j hj => match j, hj with
    | 0, _ => hs (.eq (.elem (.field (.string "LentNames$TownReader" 109) "java/lang/String" "value" "[B") (.int 0)) (.int 116)) (by decide +kernel)
    | 1, _ => hs (.eq (.elem (.field (.string "LentNames$TownReader" 109) "java/lang/String" "value" "[B") (.int 1)) (.int 111)) (by decide +kernel)
    | n + 2, h => absurd h (by show ¬ n + 2 < 2; omega))
theorem tx_2 {s : State} {A : Array Value} (hs : ∀ c ∈ flatC (Jvm.Cond.and given_1 narrow_1), c.before A s = true) (hA : ∀ a : Nat, a < s.heap.size → ¬ va_A [] s.heap.size a) : ∃ q, tx_P (tx_t 2) 2 A s q :=
  tx_one hA (by decide +kernel) (hs (.exactly (.string "LentNames$TownReader" 111) "java/lang/String") (by decide +kernel)) (hs (.eq (.field (.string "LentNames$TownReader" 111) "java/lang/String" "coder" "B") (.int 0)) (by decide +kernel)) (hs (.arrayOf (.field (.string "LentNames$TownReader" 111) "java/lang/String" "value" "[B") .byte) (by decide +kernel)) (hs (.eq (.length (.field (.string "LentNames$TownReader" 111) "java/lang/String" "value" "[B")) (.int 3)) (by decide +kernel)) (fun j hj => match j, hj with
    | 0, _ => hs (.eq (.elem (.field (.string "LentNames$TownReader" 111) "java/lang/String" "value" "[B") (.int 0)) (.int 100)) (by decide +kernel)
    | 1, _ => hs (.eq (.elem (.field (.string "LentNames$TownReader" 111) "java/lang/String" "value" "[B") (.int 1)) (.int 97)) (by decide +kernel)
    | 2, _ => hs (.eq (.elem (.field (.string "LentNames$TownReader" 111) "java/lang/String" "value" "[B") (.int 2)) (.int 121)) (by decide +kernel)
    | n + 3, h => absurd h (by show ¬ n + 3 < 3; omega))
theorem tx_3 {s : State} {A : Array Value} (hs : ∀ c ∈ flatC (Jvm.Cond.and given_1 narrow_1), c.before A s = true) (hA : ∀ a : Nat, a < s.heap.size → ¬ va_A [] s.heap.size a) : ∃ q, tx_P (tx_t 3) 3 A s q :=
  tx_one hA (by decide +kernel) (hs (.exactly (.string "LentNames$TownReader" 113) "java/lang/String") (by decide +kernel)) (hs (.eq (.field (.string "LentNames$TownReader" 113) "java/lang/String" "coder" "B") (.int 0)) (by decide +kernel)) (hs (.arrayOf (.field (.string "LentNames$TownReader" 113) "java/lang/String" "value" "[B") .byte) (by decide +kernel)) (hs (.eq (.length (.field (.string "LentNames$TownReader" 113) "java/lang/String" "value" "[B")) (.int 3)) (by decide +kernel)) (fun j hj => match j, hj with
    | 0, _ => hs (.eq (.elem (.field (.string "LentNames$TownReader" 113) "java/lang/String" "value" "[B") (.int 0)) (.int 102)) (by decide +kernel)
    | 1, _ => hs (.eq (.elem (.field (.string "LentNames$TownReader" 113) "java/lang/String" "value" "[B") (.int 1)) (.int 111)) (by decide +kernel)
    | 2, _ => hs (.eq (.elem (.field (.string "LentNames$TownReader" 113) "java/lang/String" "value" "[B") (.int 2)) (.int 114)) (by decide +kernel)
    | n + 3, h => absurd h (by show ¬ n + 3 < 3; omega))
theorem tx_4 {s : State} {A : Array Value} (hs : ∀ c ∈ flatC (Jvm.Cond.and given_1 narrow_1), c.before A s = true) (hA : ∀ a : Nat, a < s.heap.size → ¬ va_A [] s.heap.size a) : ∃ q, tx_P (tx_t 4) 4 A s q :=
  tx_one hA (by decide +kernel) (hs (.exactly (.string "LentNames$TownReader" 115) "java/lang/String") (by decide +kernel)) (hs (.eq (.field (.string "LentNames$TownReader" 115) "java/lang/String" "coder" "B") (.int 0)) (by decide +kernel)) (hs (.arrayOf (.field (.string "LentNames$TownReader" 115) "java/lang/String" "value" "[B") .byte) (by decide +kernel)) (hs (.eq (.length (.field (.string "LentNames$TownReader" 115) "java/lang/String" "value" "[B")) (.int 2)) (by decide +kernel)) (fun j hj => match j, hj with
    | 0, _ => hs (.eq (.elem (.field (.string "LentNames$TownReader" 115) "java/lang/String" "value" "[B") (.int 0)) (.int 111)) (by decide +kernel)
    | 1, _ => hs (.eq (.elem (.field (.string "LentNames$TownReader" 115) "java/lang/String" "value" "[B") (.int 1)) (.int 110)) (by decide +kernel)
    | n + 2, h => absurd h (by show ¬ n + 2 < 2; omega))
theorem tx_5 {s : State} {A : Array Value} (hs : ∀ c ∈ flatC (Jvm.Cond.and given_1 narrow_1), c.before A s = true) (hA : ∀ a : Nat, a < s.heap.size → ¬ va_A [] s.heap.size a) : ∃ q, tx_P (tx_t 5) 5 A s q :=
  tx_one hA (by decide +kernel) (hs (.exactly (.string "LentNames$TownReader" 121) "java/lang/String") (by decide +kernel)) (hs (.eq (.field (.string "LentNames$TownReader" 121) "java/lang/String" "coder" "B") (.int 0)) (by decide +kernel)) (hs (.arrayOf (.field (.string "LentNames$TownReader" 121) "java/lang/String" "value" "[B") .byte) (by decide +kernel)) (hs (.eq (.length (.field (.string "LentNames$TownReader" 121) "java/lang/String" "value" "[B")) (.int 6)) (by decide +kernel)) (fun j hj => match j, hj with
    | 0, _ => hs (.eq (.elem (.field (.string "LentNames$TownReader" 121) "java/lang/String" "value" "[B") (.int 0)) (.int 112)) (by decide +kernel)
    | 1, _ => hs (.eq (.elem (.field (.string "LentNames$TownReader" 121) "java/lang/String" "value" "[B") (.int 1)) (.int 108)) (by decide +kernel)
    | 2, _ => hs (.eq (.elem (.field (.string "LentNames$TownReader" 121) "java/lang/String" "value" "[B") (.int 2)) (.int 101)) (by decide +kernel)
    | 3, _ => hs (.eq (.elem (.field (.string "LentNames$TownReader" 121) "java/lang/String" "value" "[B") (.int 3)) (.int 100)) (by decide +kernel)
    | 4, _ => hs (.eq (.elem (.field (.string "LentNames$TownReader" 121) "java/lang/String" "value" "[B") (.int 4)) (.int 103)) (by decide +kernel)
    | 5, _ => hs (.eq (.elem (.field (.string "LentNames$TownReader" 121) "java/lang/String" "value" "[B") (.int 5)) (.int 101)) (by decide +kernel)
    | n + 6, h => absurd h (by show ¬ n + 6 < 6; omega))
theorem tx_6 {s : State} {A : Array Value} (hs : ∀ c ∈ flatC (Jvm.Cond.and given_1 narrow_1), c.before A s = true) (hA : ∀ a : Nat, a < s.heap.size → ¬ va_A [] s.heap.size a) : ∃ q, tx_P (tx_t 6) 6 A s q :=
  tx_one hA (by decide +kernel) (hs (.exactly (.string "LentNames$TownReader" 58) "java/lang/String") (by decide +kernel)) (hs (.eq (.field (.string "LentNames$TownReader" 58) "java/lang/String" "coder" "B") (.int 0)) (by decide +kernel)) (hs (.arrayOf (.field (.string "LentNames$TownReader" 58) "java/lang/String" "value" "[B") .byte) (by decide +kernel)) (hs (.eq (.length (.field (.string "LentNames$TownReader" 58) "java/lang/String" "value" "[B")) (.int 6)) (by decide +kernel)) (fun j hj => match j, hj with
    | 0, _ => hs (.eq (.elem (.field (.string "LentNames$TownReader" 58) "java/lang/String" "value" "[B") (.int 0)) (.int 108)) (by decide +kernel)
    | 1, _ => hs (.eq (.elem (.field (.string "LentNames$TownReader" 58) "java/lang/String" "value" "[B") (.int 1)) (.int 101)) (by decide +kernel)
    | 2, _ => hs (.eq (.elem (.field (.string "LentNames$TownReader" 58) "java/lang/String" "value" "[B") (.int 2)) (.int 116)) (by decide +kernel)
    | 3, _ => hs (.eq (.elem (.field (.string "LentNames$TownReader" 58) "java/lang/String" "value" "[B") (.int 3)) (.int 116)) (by decide +kernel)
    | 4, _ => hs (.eq (.elem (.field (.string "LentNames$TownReader" 58) "java/lang/String" "value" "[B") (.int 4)) (.int 101)) (by decide +kernel)
    | 5, _ => hs (.eq (.elem (.field (.string "LentNames$TownReader" 58) "java/lang/String" "value" "[B") (.int 5)) (.int 114)) (by decide +kernel)
    | n + 6, h => absurd h (by show ¬ n + 6 < 6; omega))
theorem tx_7 {s : State} {A : Array Value} (hs : ∀ c ∈ flatC (Jvm.Cond.and given_1 narrow_1), c.before A s = true) (hA : ∀ a : Nat, a < s.heap.size → ¬ va_A [] s.heap.size a) : ∃ q, tx_P (tx_t 7) 7 A s q :=
  tx_one hA (by decide +kernel) (hs (.exactly (.string "LentNames$TownReader" 144) "java/lang/String") (by decide +kernel)) (hs (.eq (.field (.string "LentNames$TownReader" 144) "java/lang/String" "coder" "B") (.int 0)) (by decide +kernel)) (hs (.arrayOf (.field (.string "LentNames$TownReader" 144) "java/lang/String" "value" "[B") .byte) (by decide +kernel)) (hs (.eq (.length (.field (.string "LentNames$TownReader" 144) "java/lang/String" "value" "[B")) (.int 4)) (by decide +kernel)) (fun j hj => match j, hj with
    | 0, _ => hs (.eq (.elem (.field (.string "LentNames$TownReader" 144) "java/lang/String" "value" "[B") (.int 0)) (.int 114)) (by decide +kernel)
    | 1, _ => hs (.eq (.elem (.field (.string "LentNames$TownReader" 144) "java/lang/String" "value" "[B") (.int 1)) (.int 101)) (by decide +kernel)
    | 2, _ => hs (.eq (.elem (.field (.string "LentNames$TownReader" 144) "java/lang/String" "value" "[B") (.int 2)) (.int 97)) (by decide +kernel)
    | 3, _ => hs (.eq (.elem (.field (.string "LentNames$TownReader" 144) "java/lang/String" "value" "[B") (.int 3)) (.int 100)) (by decide +kernel)
    | n + 4, h => absurd h (by show ¬ n + 4 < 4; omega))
theorem tx_8 {s : State} {A : Array Value} (hs : ∀ c ∈ flatC (Jvm.Cond.and given_1 narrow_1), c.before A s = true) (hA : ∀ a : Nat, a < s.heap.size → ¬ va_A [] s.heap.size a) : ∃ q, tx_P (tx_t 8) 8 A s q :=
  tx_one hA (by decide +kernel) (hs (.exactly (.string "LentNames$TownReader" 66) "java/lang/String") (by decide +kernel)) (hs (.eq (.field (.string "LentNames$TownReader" 66) "java/lang/String" "coder" "B") (.int 0)) (by decide +kernel)) (hs (.arrayOf (.field (.string "LentNames$TownReader" 66) "java/lang/String" "value" "[B") .byte) (by decide +kernel)) (hs (.eq (.length (.field (.string "LentNames$TownReader" 66) "java/lang/String" "value" "[B")) (.int 4)) (by decide +kernel)) (fun j hj => match j, hj with
    | 0, _ => hs (.eq (.elem (.field (.string "LentNames$TownReader" 66) "java/lang/String" "value" "[B") (.int 0)) (.int 100)) (by decide +kernel)
    | 1, _ => hs (.eq (.elem (.field (.string "LentNames$TownReader" 66) "java/lang/String" "value" "[B") (.int 1)) (.int 101)) (by decide +kernel)
    | 2, _ => hs (.eq (.elem (.field (.string "LentNames$TownReader" 66) "java/lang/String" "value" "[B") (.int 2)) (.int 98)) (by decide +kernel)
    | 3, _ => hs (.eq (.elem (.field (.string "LentNames$TownReader" 66) "java/lang/String" "value" "[B") (.int 3)) (.int 116)) (by decide +kernel)
    | n + 4, h => absurd h (by show ¬ n + 4 < 4; omega))
theorem tx_9 {s : State} {A : Array Value} (hs : ∀ c ∈ flatC (Jvm.Cond.and given_1 narrow_1), c.before A s = true) (hA : ∀ a : Nat, a < s.heap.size → ¬ va_A [] s.heap.size a) : ∃ q, tx_P (tx_t 9) 9 A s q :=
  tx_one hA (by decide +kernel) (hs (.exactly (.string "LentNames$TownReader" 149) "java/lang/String") (by decide +kernel)) (hs (.eq (.field (.string "LentNames$TownReader" 149) "java/lang/String" "coder" "B") (.int 0)) (by decide +kernel)) (hs (.arrayOf (.field (.string "LentNames$TownReader" 149) "java/lang/String" "value" "[B") .byte) (by decide +kernel)) (hs (.eq (.length (.field (.string "LentNames$TownReader" 149) "java/lang/String" "value" "[B")) (.int 4)) (by decide +kernel)) (fun j hj => match j, hj with
    | 0, _ => hs (.eq (.elem (.field (.string "LentNames$TownReader" 149) "java/lang/String" "value" "[B") (.int 0)) (.int 98)) (by decide +kernel)
    | 1, _ => hs (.eq (.elem (.field (.string "LentNames$TownReader" 149) "java/lang/String" "value" "[B") (.int 1)) (.int 111)) (by decide +kernel)
    | 2, _ => hs (.eq (.elem (.field (.string "LentNames$TownReader" 149) "java/lang/String" "value" "[B") (.int 2)) (.int 100)) (by decide +kernel)
    | 3, _ => hs (.eq (.elem (.field (.string "LentNames$TownReader" 149) "java/lang/String" "value" "[B") (.int 3)) (.int 121)) (by decide +kernel)
    | n + 4, h => absurd h (by show ¬ n + 4 < 4; omega))
theorem tx_10 {s : State} {A : Array Value} (hs : ∀ c ∈ flatC (Jvm.Cond.and given_1 narrow_1), c.before A s = true) (hA : ∀ a : Nat, a < s.heap.size → ¬ va_A [] s.heap.size a) : ∃ q, tx_P (tx_t 10) 10 A s q :=
  tx_one hA (by decide +kernel) (hs (.exactly (.string "LentNames$TownReader" 151) "java/lang/String") (by decide +kernel)) (hs (.eq (.field (.string "LentNames$TownReader" 151) "java/lang/String" "coder" "B") (.int 0)) (by decide +kernel)) (hs (.arrayOf (.field (.string "LentNames$TownReader" 151) "java/lang/String" "value" "[B") .byte) (by decide +kernel)) (hs (.eq (.length (.field (.string "LentNames$TownReader" 151) "java/lang/String" "value" "[B")) (.int 4)) (by decide +kernel)) (fun j hj => match j, hj with
    | 0, _ => hs (.eq (.elem (.field (.string "LentNames$TownReader" 151) "java/lang/String" "value" "[B") (.int 0)) (.int 110)) (by decide +kernel)
    | 1, _ => hs (.eq (.elem (.field (.string "LentNames$TownReader" 151) "java/lang/String" "value" "[B") (.int 1)) (.int 97)) (by decide +kernel)
    | 2, _ => hs (.eq (.elem (.field (.string "LentNames$TownReader" 151) "java/lang/String" "value" "[B") (.int 2)) (.int 109)) (by decide +kernel)
    | 3, _ => hs (.eq (.elem (.field (.string "LentNames$TownReader" 151) "java/lang/String" "value" "[B") (.int 3)) (.int 101)) (by decide +kernel)
    | n + 4, h => absurd h (by show ¬ n + 4 < 4; omega))
theorem tx_11 {s : State} {A : Array Value} (hs : ∀ c ∈ flatC (Jvm.Cond.and given_1 narrow_1), c.before A s = true) (hA : ∀ a : Nat, a < s.heap.size → ¬ va_A [] s.heap.size a) : ∃ q, tx_P (tx_t 11) 11 A s q :=
  tx_one hA (by decide +kernel) (hs (.exactly (.string "LentNames$TownReader" 153) "java/lang/String") (by decide +kernel)) (hs (.eq (.field (.string "LentNames$TownReader" 153) "java/lang/String" "coder" "B") (.int 0)) (by decide +kernel)) (hs (.arrayOf (.field (.string "LentNames$TownReader" 153) "java/lang/String" "value" "[B") .byte) (by decide +kernel)) (hs (.eq (.length (.field (.string "LentNames$TownReader" 153) "java/lang/String" "value" "[B")) (.int 6)) (by decide +kernel)) (fun j hj => match j, hj with
    | 0, _ => hs (.eq (.elem (.field (.string "LentNames$TownReader" 153) "java/lang/String" "value" "[B") (.int 0)) (.int 106)) (by decide +kernel)
    | 1, _ => hs (.eq (.elem (.field (.string "LentNames$TownReader" 153) "java/lang/String" "value" "[B") (.int 1)) (.int 117)) (by decide +kernel)
    | 2, _ => hs (.eq (.elem (.field (.string "LentNames$TownReader" 153) "java/lang/String" "value" "[B") (.int 2)) (.int 100)) (by decide +kernel)
    | 3, _ => hs (.eq (.elem (.field (.string "LentNames$TownReader" 153) "java/lang/String" "value" "[B") (.int 3)) (.int 103)) (by decide +kernel)
    | 4, _ => hs (.eq (.elem (.field (.string "LentNames$TownReader" 153) "java/lang/String" "value" "[B") (.int 4)) (.int 101)) (by decide +kernel)
    | 5, _ => hs (.eq (.elem (.field (.string "LentNames$TownReader" 153) "java/lang/String" "value" "[B") (.int 5)) (.int 100)) (by decide +kernel)
    | n + 6, h => absurd h (by show ¬ n + 6 < 6; omega))
theorem tx_12 {s : State} {A : Array Value} (hs : ∀ c ∈ flatC (Jvm.Cond.and given_1 narrow_1), c.before A s = true) (hA : ∀ a : Nat, a < s.heap.size → ¬ va_A [] s.heap.size a) : ∃ q, tx_P (tx_t 12) 12 A s q :=
  tx_one hA (by decide +kernel) (hs (.exactly (.string "LentNames$TownReader" 155) "java/lang/String") (by decide +kernel)) (hs (.eq (.field (.string "LentNames$TownReader" 155) "java/lang/String" "coder" "B") (.int 0)) (by decide +kernel)) (hs (.arrayOf (.field (.string "LentNames$TownReader" 155) "java/lang/String" "value" "[B") .byte) (by decide +kernel)) (hs (.eq (.length (.field (.string "LentNames$TownReader" 155) "java/lang/String" "value" "[B")) (.int 2)) (by decide +kernel)) (fun j hj => match j, hj with
    | 0, _ => hs (.eq (.elem (.field (.string "LentNames$TownReader" 155) "java/lang/String" "value" "[B") (.int 0)) (.int 111)) (by decide +kernel)
    | 1, _ => hs (.eq (.elem (.field (.string "LentNames$TownReader" 155) "java/lang/String" "value" "[B") (.int 1)) (.int 102)) (by decide +kernel)
    | n + 2, h => absurd h (by show ¬ n + 2 < 2; omega))
theorem tx_13 {s : State} {A : Array Value} (hs : ∀ c ∈ flatC (Jvm.Cond.and given_1 narrow_1), c.before A s = true) (hA : ∀ a : Nat, a < s.heap.size → ¬ va_A [] s.heap.size a) : ∃ q, tx_P (tx_t 13) 13 A s q :=
  tx_one hA (by decide +kernel) (hs (.exactly (.string "LentNames$TownReader" 74) "java/lang/String") (by decide +kernel)) (hs (.eq (.field (.string "LentNames$TownReader" 74) "java/lang/String" "coder" "B") (.int 0)) (by decide +kernel)) (hs (.arrayOf (.field (.string "LentNames$TownReader" 74) "java/lang/String" "value" "[B") .byte) (by decide +kernel)) (hs (.eq (.length (.field (.string "LentNames$TownReader" 74) "java/lang/String" "value" "[B")) (.int 4)) (by decide +kernel)) (fun j hj => match j, hj with
    | 0, _ => hs (.eq (.elem (.field (.string "LentNames$TownReader" 74) "java/lang/String" "value" "[B") (.int 0)) (.int 115)) (by decide +kernel)
    | 1, _ => hs (.eq (.elem (.field (.string "LentNames$TownReader" 74) "java/lang/String" "value" "[B") (.int 1)) (.int 101)) (by decide +kernel)
    | 2, _ => hs (.eq (.elem (.field (.string "LentNames$TownReader" 74) "java/lang/String" "value" "[B") (.int 2)) (.int 101)) (by decide +kernel)
    | 3, _ => hs (.eq (.elem (.field (.string "LentNames$TownReader" 74) "java/lang/String" "value" "[B") (.int 3)) (.int 110)) (by decide +kernel)
    | n + 4, h => absurd h (by show ¬ n + 4 < 4; omega))
theorem tx_14 {s : State} {A : Array Value} (hs : ∀ c ∈ flatC (Jvm.Cond.and given_1 narrow_1), c.before A s = true) (hA : ∀ a : Nat, a < s.heap.size → ¬ va_A [] s.heap.size a) : ∃ q, tx_P (tx_t 14) 14 A s q :=
  tx_one hA (by decide +kernel) (hs (.exactly (.string "LentNames$TownReader" 157) "java/lang/String") (by decide +kernel)) (hs (.eq (.field (.string "LentNames$TownReader" 157) "java/lang/String" "coder" "B") (.int 0)) (by decide +kernel)) (hs (.arrayOf (.field (.string "LentNames$TownReader" 157) "java/lang/String" "value" "[B") .byte) (by decide +kernel)) (hs (.eq (.length (.field (.string "LentNames$TownReader" 157) "java/lang/String" "value" "[B")) (.int 2)) (by decide +kernel)) (fun j hj => match j, hj with
    | 0, _ => hs (.eq (.elem (.field (.string "LentNames$TownReader" 157) "java/lang/String" "value" "[B") (.int 0)) (.int 97)) (by decide +kernel)
    | 1, _ => hs (.eq (.elem (.field (.string "LentNames$TownReader" 157) "java/lang/String" "value" "[B") (.int 1)) (.int 115)) (by decide +kernel)
    | n + 2, h => absurd h (by show ¬ n + 2 < 2; omega))
theorem tx_15 {s : State} {A : Array Value} (hs : ∀ c ∈ flatC (Jvm.Cond.and given_1 narrow_1), c.before A s = true) (hA : ∀ a : Nat, a < s.heap.size → ¬ va_A [] s.heap.size a) : ∃ q, tx_P (tx_t 15) 15 A s q :=
  tx_one hA (by decide +kernel) (hs (.exactly (.string "LentNames$TownReader" 165) "java/lang/String") (by decide +kernel)) (hs (.eq (.field (.string "LentNames$TownReader" 165) "java/lang/String" "coder" "B") (.int 0)) (by decide +kernel)) (hs (.arrayOf (.field (.string "LentNames$TownReader" 165) "java/lang/String" "value" "[B") .byte) (by decide +kernel)) (hs (.eq (.length (.field (.string "LentNames$TownReader" 165) "java/lang/String" "value" "[B")) (.int 2)) (by decide +kernel)) (fun j hj => match j, hj with
    | 0, _ => hs (.eq (.elem (.field (.string "LentNames$TownReader" 165) "java/lang/String" "value" "[B") (.int 0)) (.int 111)) (by decide +kernel)
    | 1, _ => hs (.eq (.elem (.field (.string "LentNames$TownReader" 165) "java/lang/String" "value" "[B") (.int 1)) (.int 114)) (by decide +kernel)
    | n + 2, h => absurd h (by show ¬ n + 2 < 2; omega))
theorem tx_16 {s : State} {A : Array Value} (hs : ∀ c ∈ flatC (Jvm.Cond.and given_1 narrow_1), c.before A s = true) (hA : ∀ a : Nat, a < s.heap.size → ¬ va_A [] s.heap.size a) : ∃ q, tx_P (tx_t 16) 16 A s q :=
  tx_one hA (by decide +kernel) (hs (.exactly (.string "LentNames$TownReader" 163) "java/lang/String") (by decide +kernel)) (hs (.eq (.field (.string "LentNames$TownReader" 163) "java/lang/String" "coder" "B") (.int 0)) (by decide +kernel)) (hs (.arrayOf (.field (.string "LentNames$TownReader" 163) "java/lang/String" "value" "[B") .byte) (by decide +kernel)) (hs (.eq (.length (.field (.string "LentNames$TownReader" 163) "java/lang/String" "value" "[B")) (.int 5)) (by decide +kernel)) (fun j hj => match j, hj with
    | 0, _ => hs (.eq (.elem (.field (.string "LentNames$TownReader" 163) "java/lang/String" "value" "[B") (.int 0)) (.int 107)) (by decide +kernel)
    | 1, _ => hs (.eq (.elem (.field (.string "LentNames$TownReader" 163) "java/lang/String" "value" "[B") (.int 1)) (.int 110)) (by decide +kernel)
    | 2, _ => hs (.eq (.elem (.field (.string "LentNames$TownReader" 163) "java/lang/String" "value" "[B") (.int 2)) (.int 111)) (by decide +kernel)
    | 3, _ => hs (.eq (.elem (.field (.string "LentNames$TownReader" 163) "java/lang/String" "value" "[B") (.int 3)) (.int 119)) (by decide +kernel)
    | 4, _ => hs (.eq (.elem (.field (.string "LentNames$TownReader" 163) "java/lang/String" "value" "[B") (.int 4)) (.int 110)) (by decide +kernel)
    | n + 5, h => absurd h (by show ¬ n + 5 < 5; omega))
theorem tx_17 {s : State} {A : Array Value} (hs : ∀ c ∈ flatC (Jvm.Cond.and given_1 narrow_1), c.before A s = true) (hA : ∀ a : Nat, a < s.heap.size → ¬ va_A [] s.heap.size a) : ∃ q, tx_P (tx_t 17) 17 A s q :=
  tx_one hA (by decide +kernel) (hs (.exactly (.string "LentNames$TownReader" 82) "java/lang/String") (by decide +kernel)) (hs (.eq (.field (.string "LentNames$TownReader" 82) "java/lang/String" "coder" "B") (.int 0)) (by decide +kernel)) (hs (.arrayOf (.field (.string "LentNames$TownReader" 82) "java/lang/String" "value" "[B") .byte) (by decide +kernel)) (hs (.eq (.length (.field (.string "LentNames$TownReader" 82) "java/lang/String" "value" "[B")) (.int 4)) (by decide +kernel)) (fun j hj => match j, hj with
    | 0, _ => hs (.eq (.elem (.field (.string "LentNames$TownReader" 82) "java/lang/String" "value" "[B") (.int 0)) (.int 108)) (by decide +kernel)
    | 1, _ => hs (.eq (.elem (.field (.string "LentNames$TownReader" 82) "java/lang/String" "value" "[B") (.int 1)) (.int 97)) (by decide +kernel)
    | 2, _ => hs (.eq (.elem (.field (.string "LentNames$TownReader" 82) "java/lang/String" "value" "[B") (.int 2)) (.int 116)) (by decide +kernel)
    | 3, _ => hs (.eq (.elem (.field (.string "LentNames$TownReader" 82) "java/lang/String" "value" "[B") (.int 3)) (.int 101)) (by decide +kernel)
    | n + 4, h => absurd h (by show ¬ n + 4 < 4; omega))
theorem tx_18 {s : State} {A : Array Value} (hs : ∀ c ∈ flatC (Jvm.Cond.and given_1 narrow_1), c.before A s = true) (hA : ∀ a : Nat, a < s.heap.size → ¬ va_A [] s.heap.size a) : ∃ q, tx_P (tx_t 18) 18 A s q :=
  tx_one hA (by decide +kernel) (hs (.exactly (.string "LentNames$TownReader" 130) "java/lang/String") (by decide +kernel)) (hs (.eq (.field (.string "LentNames$TownReader" 130) "java/lang/String" "coder" "B") (.int 0)) (by decide +kernel)) (hs (.arrayOf (.field (.string "LentNames$TownReader" 130) "java/lang/String" "value" "[B") .byte) (by decide +kernel)) (hs (.eq (.length (.field (.string "LentNames$TownReader" 130) "java/lang/String" "value" "[B")) (.int 2)) (by decide +kernel)) (fun j hj => match j, hj with
    | 0, _ => hs (.eq (.elem (.field (.string "LentNames$TownReader" 130) "java/lang/String" "value" "[B") (.int 0)) (.int 98)) (by decide +kernel)
    | 1, _ => hs (.eq (.elem (.field (.string "LentNames$TownReader" 130) "java/lang/String" "value" "[B") (.int 1)) (.int 121)) (by decide +kernel)
    | n + 2, h => absurd h (by show ¬ n + 2 < 2; omega))
theorem tx_19 {s : State} {A : Array Value} (hs : ∀ c ∈ flatC (Jvm.Cond.and given_1 narrow_1), c.before A s = true) (hA : ∀ a : Nat, a < s.heap.size → ¬ va_A [] s.heap.size a) : ∃ q, tx_P (tx_t 19) 19 A s q :=
  tx_one hA (by decide +kernel) (hs (.exactly (.string "LentNames$TownReader" 87) "java/lang/String") (by decide +kernel)) (hs (.eq (.field (.string "LentNames$TownReader" 87) "java/lang/String" "coder" "B") (.int 0)) (by decide +kernel)) (hs (.arrayOf (.field (.string "LentNames$TownReader" 87) "java/lang/String" "value" "[B") .byte) (by decide +kernel)) (hs (.eq (.length (.field (.string "LentNames$TownReader" 87) "java/lang/String" "value" "[B")) (.int 4)) (by decide +kernel)) (fun j hj => match j, hj with
    | 0, _ => hs (.eq (.elem (.field (.string "LentNames$TownReader" 87) "java/lang/String" "value" "[B") (.int 0)) (.int 100)) (by decide +kernel)
    | 1, _ => hs (.eq (.elem (.field (.string "LentNames$TownReader" 87) "java/lang/String" "value" "[B") (.int 1)) (.int 105)) (by decide +kernel)
    | 2, _ => hs (.eq (.elem (.field (.string "LentNames$TownReader" 87) "java/lang/String" "value" "[B") (.int 2)) (.int 101)) (by decide +kernel)
    | 3, _ => hs (.eq (.elem (.field (.string "LentNames$TownReader" 87) "java/lang/String" "value" "[B") (.int 3)) (.int 115)) (by decide +kernel)
    | n + 4, h => absurd h (by show ¬ n + 4 < 4; omega))
theorem tx_20 {s : State} {A : Array Value} (hs : ∀ c ∈ flatC (Jvm.Cond.and given_1 narrow_1), c.before A s = true) (hA : ∀ a : Nat, a < s.heap.size → ¬ va_A [] s.heap.size a) : ∃ q, tx_P (tx_t 20) 20 A s q :=
  tx_one hA (by decide +kernel) (hs (.exactly (.string "LentNames$TownReader" 92) "java/lang/String") (by decide +kernel)) (hs (.eq (.field (.string "LentNames$TownReader" 92) "java/lang/String" "coder" "B") (.int 0)) (by decide +kernel)) (hs (.arrayOf (.field (.string "LentNames$TownReader" 92) "java/lang/String" "value" "[B") .byte) (by decide +kernel)) (hs (.eq (.length (.field (.string "LentNames$TownReader" 92) "java/lang/String" "value" "[B")) (.int 5)) (by decide +kernel)) (fun j hj => match j, hj with
    | 0, _ => hs (.eq (.elem (.field (.string "LentNames$TownReader" 92) "java/lang/String" "value" "[B") (.int 0)) (.int 99)) (by decide +kernel)
    | 1, _ => hs (.eq (.elem (.field (.string "LentNames$TownReader" 92) "java/lang/String" "value" "[B") (.int 1)) (.int 111)) (by decide +kernel)
    | 2, _ => hs (.eq (.elem (.field (.string "LentNames$TownReader" 92) "java/lang/String" "value" "[B") (.int 2)) (.int 117)) (by decide +kernel)
    | 3, _ => hs (.eq (.elem (.field (.string "LentNames$TownReader" 92) "java/lang/String" "value" "[B") (.int 3)) (.int 114)) (by decide +kernel)
    | 4, _ => hs (.eq (.elem (.field (.string "LentNames$TownReader" 92) "java/lang/String" "value" "[B") (.int 4)) (.int 116)) (by decide +kernel)
    | n + 5, h => absurd h (by show ¬ n + 5 < 5; omega))
theorem tx_21 {s : State} {A : Array Value} (hs : ∀ c ∈ flatC (Jvm.Cond.and given_1 narrow_1), c.before A s = true) (hA : ∀ a : Nat, a < s.heap.size → ¬ va_A [] s.heap.size a) : ∃ q, tx_P (tx_t 21) 21 A s q :=
  tx_one hA (by decide +kernel) (hs (.exactly (.string "LentNames$CustomReader" 44) "java/lang/String") (by decide +kernel)) (hs (.eq (.field (.string "LentNames$CustomReader" 44) "java/lang/String" "coder" "B") (.int 0)) (by decide +kernel)) (hs (.arrayOf (.field (.string "LentNames$CustomReader" 44) "java/lang/String" "value" "[B") .byte) (by decide +kernel)) (hs (.eq (.length (.field (.string "LentNames$CustomReader" 44) "java/lang/String" "value" "[B")) (.int 6)) (by decide +kernel)) (fun j hj => match j, hj with
    | 0, _ => hs (.eq (.elem (.field (.string "LentNames$CustomReader" 44) "java/lang/String" "value" "[B") (.int 0)) (.int 114)) (by decide +kernel)
    | 1, _ => hs (.eq (.elem (.field (.string "LentNames$CustomReader" 44) "java/lang/String" "value" "[B") (.int 1)) (.int 101)) (by decide +kernel)
    | 2, _ => hs (.eq (.elem (.field (.string "LentNames$CustomReader" 44) "java/lang/String" "value" "[B") (.int 2)) (.int 102)) (by decide +kernel)
    | 3, _ => hs (.eq (.elem (.field (.string "LentNames$CustomReader" 44) "java/lang/String" "value" "[B") (.int 3)) (.int 117)) (by decide +kernel)
    | 4, _ => hs (.eq (.elem (.field (.string "LentNames$CustomReader" 44) "java/lang/String" "value" "[B") (.int 4)) (.int 115)) (by decide +kernel)
    | 5, _ => hs (.eq (.elem (.field (.string "LentNames$CustomReader" 44) "java/lang/String" "value" "[B") (.int 5)) (.int 101)) (by decide +kernel)
    | n + 6, h => absurd h (by show ¬ n + 6 < 6; omega))
theorem tx_22 {s : State} {A : Array Value} (hs : ∀ c ∈ flatC (Jvm.Cond.and given_1 narrow_1), c.before A s = true) (hA : ∀ a : Nat, a < s.heap.size → ¬ va_A [] s.heap.size a) : ∃ q, tx_P (tx_t 22) 22 A s q :=
  tx_one hA (by decide +kernel) (hs (.exactly (.string "LentNames$CustomReader" 50) "java/lang/String") (by decide +kernel)) (hs (.eq (.field (.string "LentNames$CustomReader" 50) "java/lang/String" "coder" "B") (.int 0)) (by decide +kernel)) (hs (.arrayOf (.field (.string "LentNames$CustomReader" 50) "java/lang/String" "value" "[B") .byte) (by decide +kernel)) (hs (.eq (.length (.field (.string "LentNames$CustomReader" 50) "java/lang/String" "value" "[B")) (.int 5)) (by decide +kernel)) (fun j hj => match j, hj with
    | 0, _ => hs (.eq (.elem (.field (.string "LentNames$CustomReader" 50) "java/lang/String" "value" "[B") (.int 0)) (.int 103)) (by decide +kernel)
    | 1, _ => hs (.eq (.elem (.field (.string "LentNames$CustomReader" 50) "java/lang/String" "value" "[B") (.int 1)) (.int 114)) (by decide +kernel)
    | 2, _ => hs (.eq (.elem (.field (.string "LentNames$CustomReader" 50) "java/lang/String" "value" "[B") (.int 2)) (.int 97)) (by decide +kernel)
    | 3, _ => hs (.eq (.elem (.field (.string "LentNames$CustomReader" 50) "java/lang/String" "value" "[B") (.int 3)) (.int 110)) (by decide +kernel)
    | 4, _ => hs (.eq (.elem (.field (.string "LentNames$CustomReader" 50) "java/lang/String" "value" "[B") (.int 4)) (.int 116)) (by decide +kernel)
    | n + 5, h => absurd h (by show ¬ n + 5 < 5; omega))
theorem tx_23 {s : State} {A : Array Value} (hs : ∀ c ∈ flatC (Jvm.Cond.and given_1 narrow_1), c.before A s = true) (hA : ∀ a : Nat, a < s.heap.size → ¬ va_A [] s.heap.size a) : ∃ q, tx_P (tx_t 23) 23 A s q :=
  tx_one hA (by decide +kernel) (hs (.exactly (.string "LentNames$CustomReader" 52) "java/lang/String") (by decide +kernel)) (hs (.eq (.field (.string "LentNames$CustomReader" 52) "java/lang/String" "coder" "B") (.int 0)) (by decide +kernel)) (hs (.arrayOf (.field (.string "LentNames$CustomReader" 52) "java/lang/String" "value" "[B") .byte) (by decide +kernel)) (hs (.eq (.length (.field (.string "LentNames$CustomReader" 52) "java/lang/String" "value" "[B")) (.int 2)) (by decide +kernel)) (fun j hj => match j, hj with
    | 0, _ => hs (.eq (.elem (.field (.string "LentNames$CustomReader" 52) "java/lang/String" "value" "[B") (.int 0)) (.int 105)) (by decide +kernel)
    | 1, _ => hs (.eq (.elem (.field (.string "LentNames$CustomReader" 52) "java/lang/String" "value" "[B") (.int 1)) (.int 102)) (by decide +kernel)
    | n + 2, h => absurd h (by show ¬ n + 2 < 2; omega))
theorem tx_24 {s : State} {A : Array Value} (hs : ∀ c ∈ flatC (Jvm.Cond.and given_1 narrow_1), c.before A s = true) (hA : ∀ a : Nat, a < s.heap.size → ¬ va_A [] s.heap.size a) : ∃ q, tx_P (tx_t 24) 24 A s q :=
  tx_one hA (by decide +kernel) (hs (.exactly (.string "LentNames$CustomReader" 71) "java/lang/String") (by decide +kernel)) (hs (.eq (.field (.string "LentNames$CustomReader" 71) "java/lang/String" "coder" "B") (.int 0)) (by decide +kernel)) (hs (.arrayOf (.field (.string "LentNames$CustomReader" 71) "java/lang/String" "value" "[B") .byte) (by decide +kernel)) (hs (.eq (.length (.field (.string "LentNames$CustomReader" 71) "java/lang/String" "value" "[B")) (.int 3)) (by decide +kernel)) (fun j hj => match j, hj with
    | 0, _ => hs (.eq (.elem (.field (.string "LentNames$CustomReader" 71) "java/lang/String" "value" "[B") (.int 0)) (.int 110)) (by decide +kernel)
    | 1, _ => hs (.eq (.elem (.field (.string "LentNames$CustomReader" 71) "java/lang/String" "value" "[B") (.int 1)) (.int 111)) (by decide +kernel)
    | 2, _ => hs (.eq (.elem (.field (.string "LentNames$CustomReader" 71) "java/lang/String" "value" "[B") (.int 2)) (.int 116)) (by decide +kernel)
    | n + 3, h => absurd h (by show ¬ n + 3 < 3; omega))
theorem tx_25 {s : State} {A : Array Value} (hs : ∀ c ∈ flatC (Jvm.Cond.and given_1 narrow_1), c.before A s = true) (hA : ∀ a : Nat, a < s.heap.size → ¬ va_A [] s.heap.size a) : ∃ q, tx_P (tx_t 25) 25 A s q :=
  tx_one hA (by decide +kernel) (hs (.exactly (.string "LentNames$CustomReader" 79) "java/lang/String") (by decide +kernel)) (hs (.eq (.field (.string "LentNames$CustomReader" 79) "java/lang/String" "coder" "B") (.int 0)) (by decide +kernel)) (hs (.arrayOf (.field (.string "LentNames$CustomReader" 79) "java/lang/String" "value" "[B") .byte) (by decide +kernel)) (hs (.eq (.length (.field (.string "LentNames$CustomReader" 79) "java/lang/String" "value" "[B")) (.int 3)) (by decide +kernel)) (fun j hj => match j, hj with
    | 0, _ => hs (.eq (.elem (.field (.string "LentNames$CustomReader" 79) "java/lang/String" "value" "[B") (.int 0)) (.int 111)) (by decide +kernel)
    | 1, _ => hs (.eq (.elem (.field (.string "LentNames$CustomReader" 79) "java/lang/String" "value" "[B") (.int 1)) (.int 119)) (by decide +kernel)
    | 2, _ => hs (.eq (.elem (.field (.string "LentNames$CustomReader" 79) "java/lang/String" "value" "[B") (.int 2)) (.int 110)) (by decide +kernel)
    | n + 3, h => absurd h (by show ¬ n + 3 < 3; omega))
theorem tx_26 {s : State} {A : Array Value} (hs : ∀ c ∈ flatC (Jvm.Cond.and given_1 narrow_1), c.before A s = true) (hA : ∀ a : Nat, a < s.heap.size → ¬ va_A [] s.heap.size a) : ∃ q, tx_P (tx_t 26) 26 A s q :=
  tx_one hA (by decide +kernel) (hs (.exactly (.string "LentNames$CustomReader" 81) "java/lang/String") (by decide +kernel)) (hs (.eq (.field (.string "LentNames$CustomReader" 81) "java/lang/String" "coder" "B") (.int 0)) (by decide +kernel)) (hs (.arrayOf (.field (.string "LentNames$CustomReader" 81) "java/lang/String" "value" "[B") .byte) (by decide +kernel)) (hs (.eq (.length (.field (.string "LentNames$CustomReader" 81) "java/lang/String" "value" "[B")) (.int 4)) (by decide +kernel)) (fun j hj => match j, hj with
    | 0, _ => hs (.eq (.elem (.field (.string "LentNames$CustomReader" 81) "java/lang/String" "value" "[B") (.int 0)) (.int 109)) (by decide +kernel)
    | 1, _ => hs (.eq (.elem (.field (.string "LentNames$CustomReader" 81) "java/lang/String" "value" "[B") (.int 1)) (.int 105)) (by decide +kernel)
    | 2, _ => hs (.eq (.elem (.field (.string "LentNames$CustomReader" 81) "java/lang/String" "value" "[B") (.int 2)) (.int 110)) (by decide +kernel)
    | 3, _ => hs (.eq (.elem (.field (.string "LentNames$CustomReader" 81) "java/lang/String" "value" "[B") (.int 3)) (.int 101)) (by decide +kernel)
    | n + 4, h => absurd h (by show ¬ n + 4 < 4; omega))
theorem tx_27 {s : State} {A : Array Value} (hs : ∀ c ∈ flatC (Jvm.Cond.and given_1 narrow_1), c.before A s = true) (hA : ∀ a : Nat, a < s.heap.size → ¬ va_A [] s.heap.size a) : ∃ q, tx_P (tx_t 27) 27 A s q :=
  tx_one hA (by decide +kernel) (hs (.exactly (.string "LentNames$CustomReader" 99) "java/lang/String") (by decide +kernel)) (hs (.eq (.field (.string "LentNames$CustomReader" 99) "java/lang/String" "coder" "B") (.int 0)) (by decide +kernel)) (hs (.arrayOf (.field (.string "LentNames$CustomReader" 99) "java/lang/String" "value" "[B") .byte) (by decide +kernel)) (hs (.eq (.length (.field (.string "LentNames$CustomReader" 99) "java/lang/String" "value" "[B")) (.int 4)) (by decide +kernel)) (fun j hj => match j, hj with
    | 0, _ => hs (.eq (.elem (.field (.string "LentNames$CustomReader" 99) "java/lang/String" "value" "[B") (.int 0)) (.int 100)) (by decide +kernel)
    | 1, _ => hs (.eq (.elem (.field (.string "LentNames$CustomReader" 99) "java/lang/String" "value" "[B") (.int 1)) (.int 97)) (by decide +kernel)
    | 2, _ => hs (.eq (.elem (.field (.string "LentNames$CustomReader" 99) "java/lang/String" "value" "[B") (.int 2)) (.int 121)) (by decide +kernel)
    | 3, _ => hs (.eq (.elem (.field (.string "LentNames$CustomReader" 99) "java/lang/String" "value" "[B") (.int 3)) (.int 115)) (by decide +kernel)
    | n + 4, h => absurd h (by show ¬ n + 4 < 4; omega))
theorem tx_28 {s : State} {A : Array Value} (hs : ∀ c ∈ flatC (Jvm.Cond.and given_1 narrow_1), c.before A s = true) (hA : ∀ a : Nat, a < s.heap.size → ¬ va_A [] s.heap.size a) : ∃ q, tx_P (tx_t 28) 28 A s q :=
  tx_one hA (by decide +kernel) (hs (.exactly (.string "LentNames$CustomReader" 103) "java/lang/String") (by decide +kernel)) (hs (.eq (.field (.string "LentNames$CustomReader" 103) "java/lang/String" "coder" "B") (.int 0)) (by decide +kernel)) (hs (.arrayOf (.field (.string "LentNames$CustomReader" 103) "java/lang/String" "value" "[B") .byte) (by decide +kernel)) (hs (.eq (.length (.field (.string "LentNames$CustomReader" 103) "java/lang/String" "value" "[B")) (.int 4)) (by decide +kernel)) (fun j hj => match j, hj with
    | 0, _ => hs (.eq (.elem (.field (.string "LentNames$CustomReader" 103) "java/lang/String" "value" "[B") (.int 0)) (.int 100)) (by decide +kernel)
    | 1, _ => hs (.eq (.elem (.field (.string "LentNames$CustomReader" 103) "java/lang/String" "value" "[B") (.int 1)) (.int 101)) (by decide +kernel)
    | 2, _ => hs (.eq (.elem (.field (.string "LentNames$CustomReader" 103) "java/lang/String" "value" "[B") (.int 2)) (.int 101)) (by decide +kernel)
    | 3, _ => hs (.eq (.elem (.field (.string "LentNames$CustomReader" 103) "java/lang/String" "value" "[B") (.int 3)) (.int 112)) (by decide +kernel)
    | n + 4, h => absurd h (by show ¬ n + 4 < 4; omega))
theorem tx_29 {s : State} {A : Array Value} (hs : ∀ c ∈ flatC (Jvm.Cond.and given_1 narrow_1), c.before A s = true) (hA : ∀ a : Nat, a < s.heap.size → ¬ va_A [] s.heap.size a) : ∃ q, tx_P (tx_t 29) 29 A s q :=
  tx_one hA (by decide +kernel) (hs (.exactly (.string "LentNames$CustomReader" 105) "java/lang/String") (by decide +kernel)) (hs (.eq (.field (.string "LentNames$CustomReader" 105) "java/lang/String" "coder" "B") (.int 0)) (by decide +kernel)) (hs (.arrayOf (.field (.string "LentNames$CustomReader" 105) "java/lang/String" "value" "[B") .byte) (by decide +kernel)) (hs (.eq (.length (.field (.string "LentNames$CustomReader" 105) "java/lang/String" "value" "[B")) (.int 5)) (by decide +kernel)) (fun j hj => match j, hj with
    | 0, _ => hs (.eq (.elem (.field (.string "LentNames$CustomReader" 105) "java/lang/String" "value" "[B") (.int 0)) (.int 103)) (by decide +kernel)
    | 1, _ => hs (.eq (.elem (.field (.string "LentNames$CustomReader" 105) "java/lang/String" "value" "[B") (.int 1)) (.int 105)) (by decide +kernel)
    | 2, _ => hs (.eq (.elem (.field (.string "LentNames$CustomReader" 105) "java/lang/String" "value" "[B") (.int 2)) (.int 118)) (by decide +kernel)
    | 3, _ => hs (.eq (.elem (.field (.string "LentNames$CustomReader" 105) "java/lang/String" "value" "[B") (.int 3)) (.int 101)) (by decide +kernel)
    | 4, _ => hs (.eq (.elem (.field (.string "LentNames$CustomReader" 105) "java/lang/String" "value" "[B") (.int 4)) (.int 115)) (by decide +kernel)
    | n + 5, h => absurd h (by show ¬ n + 5 < 5; omega))
theorem tx_30 {s : State} {A : Array Value} (hs : ∀ c ∈ flatC (Jvm.Cond.and given_1 narrow_1), c.before A s = true) (hA : ∀ a : Nat, a < s.heap.size → ¬ va_A [] s.heap.size a) : ∃ q, tx_P (tx_t 30) 30 A s q :=
  tx_one hA (by decide +kernel) (hs (.exactly (.string "LentNames$CustomReader" 107) "java/lang/String") (by decide +kernel)) (hs (.eq (.field (.string "LentNames$CustomReader" 107) "java/lang/String" "coder" "B") (.int 0)) (by decide +kernel)) (hs (.arrayOf (.field (.string "LentNames$CustomReader" 107) "java/lang/String" "value" "[B") .byte) (by decide +kernel)) (hs (.eq (.length (.field (.string "LentNames$CustomReader" 107) "java/lang/String" "value" "[B")) (.int 5)) (by decide +kernel)) (fun j hj => match j, hj with
    | 0, _ => hs (.eq (.elem (.field (.string "LentNames$CustomReader" 107) "java/lang/String" "value" "[B") (.int 0)) (.int 116)) (by decide +kernel)
    | 1, _ => hs (.eq (.elem (.field (.string "LentNames$CustomReader" 107) "java/lang/String" "value" "[B") (.int 1)) (.int 97)) (by decide +kernel)
    | 2, _ => hs (.eq (.elem (.field (.string "LentNames$CustomReader" 107) "java/lang/String" "value" "[B") (.int 2)) (.int 107)) (by decide +kernel)
    | 3, _ => hs (.eq (.elem (.field (.string "LentNames$CustomReader" 107) "java/lang/String" "value" "[B") (.int 3)) (.int 101)) (by decide +kernel)
    | 4, _ => hs (.eq (.elem (.field (.string "LentNames$CustomReader" 107) "java/lang/String" "value" "[B") (.int 4)) (.int 115)) (by decide +kernel)
    | n + 5, h => absurd h (by show ¬ n + 5 < 5; omega))
theorem tx_31 {s : State} {A : Array Value} (hs : ∀ c ∈ flatC (Jvm.Cond.and given_1 narrow_1), c.before A s = true) (hA : ∀ a : Nat, a < s.heap.size → ¬ va_A [] s.heap.size a) : ∃ q, tx_P (tx_t 31) 31 A s q :=
  tx_one hA (by decide +kernel) (hs (.exactly (.string "LentNames$CustomReader" 69) "java/lang/String") (by decide +kernel)) (hs (.eq (.field (.string "LentNames$CustomReader" 69) "java/lang/String" "coder" "B") (.int 0)) (by decide +kernel)) (hs (.arrayOf (.field (.string "LentNames$CustomReader" 69) "java/lang/String" "value" "[B") .byte) (by decide +kernel)) (hs (.eq (.length (.field (.string "LentNames$CustomReader" 69) "java/lang/String" "value" "[B")) (.int 3)) (by decide +kernel)) (fun j hj => match j, hj with
    | 0, _ => hs (.eq (.elem (.field (.string "LentNames$CustomReader" 69) "java/lang/String" "value" "[B") (.int 0)) (.int 97)) (by decide +kernel)
    | 1, _ => hs (.eq (.elem (.field (.string "LentNames$CustomReader" 69) "java/lang/String" "value" "[B") (.int 1)) (.int 110)) (by decide +kernel)
    | 2, _ => hs (.eq (.elem (.field (.string "LentNames$CustomReader" 69) "java/lang/String" "value" "[B") (.int 2)) (.int 100)) (by decide +kernel)
    | n + 3, h => absurd h (by show ¬ n + 3 < 3; omega))
theorem tx_all {s : State} {A : Array Value} (hs : ∀ c ∈ flatC (Jvm.Cond.and given_1 narrow_1), c.before A s = true) (hA : ∀ a : Nat, a < s.heap.size → ¬ va_A [] s.heap.size a) : ∀ i, i < 32 → ∃ q, tx_P (tx_t i) i A s q := iv_lt (iv_lt (iv_lt (iv_lt (iv_lt (iv_lt (iv_lt (iv_lt (iv_lt (iv_lt (iv_lt (iv_lt (iv_lt (iv_lt (iv_lt (iv_lt (iv_lt (iv_lt (iv_lt (iv_lt (iv_lt (iv_lt (iv_lt (iv_lt (iv_lt (iv_lt (iv_lt (iv_lt (iv_lt (iv_lt (iv_lt (iv_lt (iv_lt0) (tx_0 hs hA)) (tx_1 hs hA)) (tx_2 hs hA)) (tx_3 hs hA)) (tx_4 hs hA)) (tx_5 hs hA)) (tx_6 hs hA)) (tx_7 hs hA)) (tx_8 hs hA)) (tx_9 hs hA)) (tx_10 hs hA)) (tx_11 hs hA)) (tx_12 hs hA)) (tx_13 hs hA)) (tx_14 hs hA)) (tx_15 hs hA)) (tx_16 hs hA)) (tx_17 hs hA)) (tx_18 hs hA)) (tx_19 hs hA)) (tx_20 hs hA)) (tx_21 hs hA)) (tx_22 hs hA)) (tx_23 hs hA)) (tx_24 hs hA)) (tx_25 hs hA)) (tx_26 hs hA)) (tx_27 hs hA)) (tx_28 hs hA)) (tx_29 hs hA)) (tx_30 hs hA)) (tx_31 hs hA)
theorem tc_0 {s : State} {A : Array Value} (hts : ∀ w ∈ lw_tbl, w.before A s = true) (hs : ∀ c ∈ flatC (Jvm.Cond.and given_1 narrow_1), c.before A s = true) {q : Nat} (hq : (tx_t 0).eval A s none [] s = some (.ref q)) : vk_R "LentNames$TownReader" 35 "lend" q s := vk_R.of (hts _ (tb_3 (List.mem_of_getElem? (i := 220) rfl))) hq
theorem tc_1 {s : State} {A : Array Value} (hts : ∀ w ∈ lw_tbl, w.before A s = true) (hs : ∀ c ∈ flatC (Jvm.Cond.and given_1 narrow_1), c.before A s = true) {q : Nat} (hq : (tx_t 1).eval A s none [] s = some (.ref q)) : vk_R "LentNames$TownReader" 109 "to" q s := vk_R.of (hts _ (tb_4 (List.mem_of_getElem? (i := 71) rfl))) hq
theorem tc_2 {s : State} {A : Array Value} (hts : ∀ w ∈ lw_tbl, w.before A s = true) (hs : ∀ c ∈ flatC (Jvm.Cond.and given_1 narrow_1), c.before A s = true) {q : Nat} (hq : (tx_t 2).eval A s none [] s = some (.ref q)) : vk_R "LentNames$TownReader" 111 "day" q s := vk_R.of (hts _ (tb_4 (List.mem_of_getElem? (i := 72) rfl))) hq
theorem tc_3 {s : State} {A : Array Value} (hts : ∀ w ∈ lw_tbl, w.before A s = true) (hs : ∀ c ∈ flatC (Jvm.Cond.and given_1 narrow_1), c.before A s = true) {q : Nat} (hq : (tx_t 3).eval A s none [] s = some (.ref q)) : vk_R "LentNames$TownReader" 113 "for" q s := vk_R.of (hts _ (tb_4 (List.mem_of_getElem? (i := 73) rfl))) hq
theorem tc_4 {s : State} {A : Array Value} (hts : ∀ w ∈ lw_tbl, w.before A s = true) (hs : ∀ c ∈ flatC (Jvm.Cond.and given_1 narrow_1), c.before A s = true) {q : Nat} (hq : (tx_t 4).eval A s none [] s = some (.ref q)) : vk_R "LentNames$TownReader" 115 "on" q s := vk_R.of (hts _ (tb_4 (List.mem_of_getElem? (i := 74) rfl))) hq
theorem tc_5 {s : State} {A : Array Value} (hts : ∀ w ∈ lw_tbl, w.before A s = true) (hs : ∀ c ∈ flatC (Jvm.Cond.and given_1 narrow_1), c.before A s = true) {q : Nat} (hq : (tx_t 5).eval A s none [] s = some (.ref q)) : vk_R "LentNames$TownReader" 121 "pledge" q s := vk_R.of (hts _ (tb_4 (List.mem_of_getElem? (i := 75) rfl))) hq
theorem tc_6 {s : State} {A : Array Value} (hts : ∀ w ∈ lw_tbl, w.before A s = true) (hs : ∀ c ∈ flatC (Jvm.Cond.and given_1 narrow_1), c.before A s = true) {q : Nat} (hq : (tx_t 6).eval A s none [] s = some (.ref q)) : vk_R "LentNames$TownReader" 58 "letter" q s := vk_R.of (hts _ (tb_4 (List.mem_of_getElem? (i := 76) rfl))) hq
theorem tc_7 {s : State} {A : Array Value} (hts : ∀ w ∈ lw_tbl, w.before A s = true) (hs : ∀ c ∈ flatC (Jvm.Cond.and given_1 narrow_1), c.before A s = true) {q : Nat} (hq : (tx_t 7).eval A s none [] s = some (.ref q)) : vk_R "LentNames$TownReader" 144 "read" q s := vk_R.of (hts _ (tb_4 (List.mem_of_getElem? (i := 81) rfl))) hq
theorem tc_8 {s : State} {A : Array Value} (hts : ∀ w ∈ lw_tbl, w.before A s = true) (hs : ∀ c ∈ flatC (Jvm.Cond.and given_1 narrow_1), c.before A s = true) {q : Nat} (hq : (tx_t 8).eval A s none [] s = some (.ref q)) : vk_R "LentNames$TownReader" 66 "debt" q s := vk_R.of (hts _ (tb_4 (List.mem_of_getElem? (i := 83) rfl))) hq
theorem tc_9 {s : State} {A : Array Value} (hts : ∀ w ∈ lw_tbl, w.before A s = true) (hs : ∀ c ∈ flatC (Jvm.Cond.and given_1 narrow_1), c.before A s = true) {q : Nat} (hq : (tx_t 9).eval A s none [] s = some (.ref q)) : vk_R "LentNames$TownReader" 149 "body" q s := vk_R.of (hts _ (tb_4 (List.mem_of_getElem? (i := 88) rfl))) hq
theorem tc_10 {s : State} {A : Array Value} (hts : ∀ w ∈ lw_tbl, w.before A s = true) (hs : ∀ c ∈ flatC (Jvm.Cond.and given_1 narrow_1), c.before A s = true) {q : Nat} (hq : (tx_t 10).eval A s none [] s = some (.ref q)) : vk_R "LentNames$TownReader" 151 "name" q s := vk_R.of (hts _ (tb_4 (List.mem_of_getElem? (i := 89) rfl))) hq
theorem tc_11 {s : State} {A : Array Value} (hts : ∀ w ∈ lw_tbl, w.before A s = true) (hs : ∀ c ∈ flatC (Jvm.Cond.and given_1 narrow_1), c.before A s = true) {q : Nat} (hq : (tx_t 11).eval A s none [] s = some (.ref q)) : vk_R "LentNames$TownReader" 153 "judged" q s := vk_R.of (hts _ (tb_4 (List.mem_of_getElem? (i := 90) rfl))) hq
theorem tc_12 {s : State} {A : Array Value} (hts : ∀ w ∈ lw_tbl, w.before A s = true) (hs : ∀ c ∈ flatC (Jvm.Cond.and given_1 narrow_1), c.before A s = true) {q : Nat} (hq : (tx_t 12).eval A s none [] s = some (.ref q)) : vk_R "LentNames$TownReader" 155 "of" q s := vk_R.of (hts _ (tb_4 (List.mem_of_getElem? (i := 91) rfl))) hq
theorem tc_13 {s : State} {A : Array Value} (hts : ∀ w ∈ lw_tbl, w.before A s = true) (hs : ∀ c ∈ flatC (Jvm.Cond.and given_1 narrow_1), c.before A s = true) {q : Nat} (hq : (tx_t 13).eval A s none [] s = some (.ref q)) : vk_R "LentNames$TownReader" 74 "seen" q s := vk_R.of (hts _ (tb_4 (List.mem_of_getElem? (i := 92) rfl))) hq
theorem tc_14 {s : State} {A : Array Value} (hts : ∀ w ∈ lw_tbl, w.before A s = true) (hs : ∀ c ∈ flatC (Jvm.Cond.and given_1 narrow_1), c.before A s = true) {q : Nat} (hq : (tx_t 14).eval A s none [] s = some (.ref q)) : vk_R "LentNames$TownReader" 157 "as" q s := vk_R.of (hts _ (tb_4 (List.mem_of_getElem? (i := 97) rfl))) hq
theorem tc_15 {s : State} {A : Array Value} (hts : ∀ w ∈ lw_tbl, w.before A s = true) (hs : ∀ c ∈ flatC (Jvm.Cond.and given_1 narrow_1), c.before A s = true) {q : Nat} (hq : (tx_t 15).eval A s none [] s = some (.ref q)) : vk_R "LentNames$TownReader" 165 "or" q s := vk_R.of (hts _ (tb_4 (List.mem_of_getElem? (i := 102) rfl))) hq
theorem tc_16 {s : State} {A : Array Value} (hts : ∀ w ∈ lw_tbl, w.before A s = true) (hs : ∀ c ∈ flatC (Jvm.Cond.and given_1 narrow_1), c.before A s = true) {q : Nat} (hq : (tx_t 16).eval A s none [] s = some (.ref q)) : vk_R "LentNames$TownReader" 163 "known" q s := vk_R.of (hts _ (tb_4 (List.mem_of_getElem? (i := 103) rfl))) hq
theorem tc_17 {s : State} {A : Array Value} (hts : ∀ w ∈ lw_tbl, w.before A s = true) (hs : ∀ c ∈ flatC (Jvm.Cond.and given_1 narrow_1), c.before A s = true) {q : Nat} (hq : (tx_t 17).eval A s none [] s = some (.ref q)) : vk_R "LentNames$TownReader" 82 "late" q s := vk_R.of (hts _ (tb_4 (List.mem_of_getElem? (i := 104) rfl))) hq
theorem tc_18 {s : State} {A : Array Value} (hts : ∀ w ∈ lw_tbl, w.before A s = true) (hs : ∀ c ∈ flatC (Jvm.Cond.and given_1 narrow_1), c.before A s = true) {q : Nat} (hq : (tx_t 18).eval A s none [] s = some (.ref q)) : vk_R "LentNames$TownReader" 130 "by" q s := vk_R.of (hts _ (tb_4 (List.mem_of_getElem? (i := 109) rfl))) hq
theorem tc_19 {s : State} {A : Array Value} (hts : ∀ w ∈ lw_tbl, w.before A s = true) (hs : ∀ c ∈ flatC (Jvm.Cond.and given_1 narrow_1), c.before A s = true) {q : Nat} (hq : (tx_t 19).eval A s none [] s = some (.ref q)) : vk_R "LentNames$TownReader" 87 "dies" q s := vk_R.of (hts _ (tb_4 (List.mem_of_getElem? (i := 110) rfl))) hq
theorem tc_20 {s : State} {A : Array Value} (hts : ∀ w ∈ lw_tbl, w.before A s = true) (hs : ∀ c ∈ flatC (Jvm.Cond.and given_1 narrow_1), c.before A s = true) {q : Nat} (hq : (tx_t 20).eval A s none [] s = some (.ref q)) : vk_R "LentNames$TownReader" 92 "court" q s := vk_R.of (hts _ (tb_4 (List.mem_of_getElem? (i := 116) rfl))) hq
theorem tc_21 {s : State} {A : Array Value} (hts : ∀ w ∈ lw_tbl, w.before A s = true) (hs : ∀ c ∈ flatC (Jvm.Cond.and given_1 narrow_1), c.before A s = true) {q : Nat} (hq : (tx_t 21).eval A s none [] s = some (.ref q)) : vk_R "LentNames$CustomReader" 44 "refuse" q s := vk_R.of (hts _ (tb_5 (List.mem_of_getElem? (i := 194) rfl))) hq
theorem tc_22 {s : State} {A : Array Value} (hts : ∀ w ∈ lw_tbl, w.before A s = true) (hs : ∀ c ∈ flatC (Jvm.Cond.and given_1 narrow_1), c.before A s = true) {q : Nat} (hq : (tx_t 22).eval A s none [] s = some (.ref q)) : vk_R "LentNames$CustomReader" 50 "grant" q s := vk_R.of (hts _ (tb_5 (List.mem_of_getElem? (i := 196) rfl))) hq
theorem tc_23 {s : State} {A : Array Value} (hts : ∀ w ∈ lw_tbl, w.before A s = true) (hs : ∀ c ∈ flatC (Jvm.Cond.and given_1 narrow_1), c.before A s = true) {q : Nat} (hq : (tx_t 23).eval A s none [] s = some (.ref q)) : vk_R "LentNames$CustomReader" 52 "if" q s := vk_R.of (hts _ (tb_5 (List.mem_of_getElem? (i := 197) rfl))) hq
theorem tc_24 {s : State} {A : Array Value} (hts : ∀ w ∈ lw_tbl, w.before A s = true) (hs : ∀ c ∈ flatC (Jvm.Cond.and given_1 narrow_1), c.before A s = true) {q : Nat} (hq : (tx_t 24).eval A s none [] s = some (.ref q)) : vk_R "LentNames$CustomReader" 71 "not" q s := vk_R.of (hts _ (tb_5 (List.mem_of_getElem? (i := 214) rfl))) hq
theorem tc_25 {s : State} {A : Array Value} (hts : ∀ w ∈ lw_tbl, w.before A s = true) (hs : ∀ c ∈ flatC (Jvm.Cond.and given_1 narrow_1), c.before A s = true) {q : Nat} (hq : (tx_t 25).eval A s none [] s = some (.ref q)) : vk_R "LentNames$CustomReader" 79 "own" q s := vk_R.of (hts _ (tb_5 (List.mem_of_getElem? (i := 218) rfl))) hq
theorem tc_26 {s : State} {A : Array Value} (hts : ∀ w ∈ lw_tbl, w.before A s = true) (hs : ∀ c ∈ flatC (Jvm.Cond.and given_1 narrow_1), c.before A s = true) {q : Nat} (hq : (tx_t 26).eval A s none [] s = some (.ref q)) : vk_R "LentNames$CustomReader" 81 "mine" q s := vk_R.of (hts _ (tb_5 (List.mem_of_getElem? (i := 219) rfl))) hq
theorem tc_27 {s : State} {A : Array Value} (hts : ∀ w ∈ lw_tbl, w.before A s = true) (hs : ∀ c ∈ flatC (Jvm.Cond.and given_1 narrow_1), c.before A s = true) {q : Nat} (hq : (tx_t 2).eval A s none [] s = some (.ref q)) : vk_R "LentNames$CustomReader" 97 "day" q s := by
  obtain ⟨a, _, _, _, ev, -⟩ := Cond.exactly_spec (hs (Cond.exactly (Term.string "LentNames$CustomReader" 97) "java/lang/String") (by decide +kernel))
  have e : q = a := tx_eq (hs (.eq (.string "LentNames$TownReader" 111) (.string "LentNames$CustomReader" 97)) (by decide +kernel)) hq ev
  rw [e]
  exact vk_R.of (hts _ (tb_5 (List.mem_of_getElem? (i := 232) rfl))) ev
theorem tc_28 {s : State} {A : Array Value} (hts : ∀ w ∈ lw_tbl, w.before A s = true) (hs : ∀ c ∈ flatC (Jvm.Cond.and given_1 narrow_1), c.before A s = true) {q : Nat} (hq : (tx_t 27).eval A s none [] s = some (.ref q)) : vk_R "LentNames$CustomReader" 99 "days" q s := vk_R.of (hts _ (tb_5 (List.mem_of_getElem? (i := 233) rfl))) hq
theorem tc_29 {s : State} {A : Array Value} (hts : ∀ w ∈ lw_tbl, w.before A s = true) (hs : ∀ c ∈ flatC (Jvm.Cond.and given_1 narrow_1), c.before A s = true) {q : Nat} (hq : (tx_t 5).eval A s none [] s = some (.ref q)) : vk_R "LentNames$CustomReader" 101 "pledge" q s := by
  obtain ⟨a, _, _, _, ev, -⟩ := Cond.exactly_spec (hs (Cond.exactly (Term.string "LentNames$CustomReader" 101) "java/lang/String") (by decide +kernel))
  have e : q = a := tx_eq (hs (.eq (.string "LentNames$TownReader" 121) (.string "LentNames$CustomReader" 101)) (by decide +kernel)) hq ev
  rw [e]
  exact vk_R.of (hts _ (tb_5 (List.mem_of_getElem? (i := 234) rfl))) ev
theorem tc_30 {s : State} {A : Array Value} (hts : ∀ w ∈ lw_tbl, w.before A s = true) (hs : ∀ c ∈ flatC (Jvm.Cond.and given_1 narrow_1), c.before A s = true) {q : Nat} (hq : (tx_t 28).eval A s none [] s = some (.ref q)) : vk_R "LentNames$CustomReader" 103 "deep" q s := vk_R.of (hts _ (tb_5 (List.mem_of_getElem? (i := 235) rfl))) hq
theorem tc_31 {s : State} {A : Array Value} (hts : ∀ w ∈ lw_tbl, w.before A s = true) (hs : ∀ c ∈ flatC (Jvm.Cond.and given_1 narrow_1), c.before A s = true) {q : Nat} (hq : (tx_t 29).eval A s none [] s = some (.ref q)) : vk_R "LentNames$CustomReader" 105 "gives" q s := vk_R.of (hts _ (tb_5 (List.mem_of_getElem? (i := 236) rfl))) hq
theorem tc_32 {s : State} {A : Array Value} (hts : ∀ w ∈ lw_tbl, w.before A s = true) (hs : ∀ c ∈ flatC (Jvm.Cond.and given_1 narrow_1), c.before A s = true) {q : Nat} (hq : (tx_t 30).eval A s none [] s = some (.ref q)) : vk_R "LentNames$CustomReader" 107 "takes" q s := vk_R.of (hts _ (tb_5 (List.mem_of_getElem? (i := 237) rfl))) hq
theorem tc_33 {s : State} {A : Array Value} (hts : ∀ w ∈ lw_tbl, w.before A s = true) (hs : ∀ c ∈ flatC (Jvm.Cond.and given_1 narrow_1), c.before A s = true) {q : Nat} (hq : (tx_t 31).eval A s none [] s = some (.ref q)) : vk_R "LentNames$CustomReader" 69 "and" q s := vk_R.of (hts _ (tb_5 (List.mem_of_getElem? (i := 238) rfl))) hq
theorem tc_34 {s : State} {A : Array Value} (hts : ∀ w ∈ lw_tbl, w.before A s = true) (hs : ∀ c ∈ flatC (Jvm.Cond.and given_1 narrow_1), c.before A s = true) {q : Nat} (hq : (tx_t 15).eval A s none [] s = some (.ref q)) : vk_R "LentNames$CustomReader" 64 "or" q s := by
  obtain ⟨a, _, _, _, ev, -⟩ := Cond.exactly_spec (hs (Cond.exactly (Term.string "LentNames$CustomReader" 64) "java/lang/String") (by decide +kernel))
  have e : q = a := tx_eq (hs (.eq (.string "LentNames$TownReader" 165) (.string "LentNames$CustomReader" 64)) (by decide +kernel)) hq ev
  rw [e]
  exact vk_R.of (hts _ (tb_5 (List.mem_of_getElem? (i := 239) rfl))) ev
theorem tc_35 {s : State} {A : Array Value} (hts : ∀ w ∈ lw_tbl, w.before A s = true) (hs : ∀ c ∈ flatC (Jvm.Cond.and given_1 narrow_1), c.before A s = true) {q : Nat} (hq : (tx_t 0).eval A s none [] s = some (.ref q)) : vk_R "LentNamesModel" 183 "lend" q s := by
  obtain ⟨a, _, _, _, ev, -⟩ := Cond.exactly_spec (hs (Cond.exactly (Term.string "LentNamesModel" 183) "java/lang/String") (by decide +kernel))
  have e : q = a := tx_eq (hs (.eq (.string "LentNames$TownReader" 35) (.string "LentNamesModel" 183)) (by decide +kernel)) hq ev
  rw [e]
  exact vk_R.of (hts _ (tb_7 (List.mem_of_getElem? (i := 134) rfl))) ev
theorem tc_36 {s : State} {A : Array Value} (hts : ∀ w ∈ lw_tbl, w.before A s = true) (hs : ∀ c ∈ flatC (Jvm.Cond.and given_1 narrow_1), c.before A s = true) {q : Nat} (hq : (tx_t 1).eval A s none [] s = some (.ref q)) : vk_R "LentNamesModel" 142 "to" q s := by
  obtain ⟨a, _, _, _, ev, -⟩ := Cond.exactly_spec (hs (Cond.exactly (Term.string "LentNamesModel" 142) "java/lang/String") (by decide +kernel))
  have e : q = a := tx_eq (hs (.eq (.string "LentNames$TownReader" 109) (.string "LentNamesModel" 142)) (by decide +kernel)) hq ev
  rw [e]
  exact vk_R.of (hts _ (tb_7 (List.mem_of_getElem? (i := 161) rfl))) ev
theorem tc_37 {s : State} {A : Array Value} (hts : ∀ w ∈ lw_tbl, w.before A s = true) (hs : ∀ c ∈ flatC (Jvm.Cond.and given_1 narrow_1), c.before A s = true) {q : Nat} (hq : (tx_t 2).eval A s none [] s = some (.ref q)) : vk_R "LentNamesModel" 147 "day" q s := by
  obtain ⟨a, _, _, _, ev, -⟩ := Cond.exactly_spec (hs (Cond.exactly (Term.string "LentNamesModel" 147) "java/lang/String") (by decide +kernel))
  have e : q = a := tx_eq (hs (.eq (.string "LentNames$TownReader" 111) (.string "LentNamesModel" 147)) (by decide +kernel)) hq ev
  rw [e]
  exact vk_R.of (hts _ (tb_7 (List.mem_of_getElem? (i := 166) rfl))) ev
theorem tc_38 {s : State} {A : Array Value} (hts : ∀ w ∈ lw_tbl, w.before A s = true) (hs : ∀ c ∈ flatC (Jvm.Cond.and given_1 narrow_1), c.before A s = true) {q : Nat} (hq : (tx_t 3).eval A s none [] s = some (.ref q)) : vk_R "LentNamesModel" 151 "for" q s := by
  obtain ⟨a, _, _, _, ev, -⟩ := Cond.exactly_spec (hs (Cond.exactly (Term.string "LentNamesModel" 151) "java/lang/String") (by decide +kernel))
  have e : q = a := tx_eq (hs (.eq (.string "LentNames$TownReader" 113) (.string "LentNamesModel" 151)) (by decide +kernel)) hq ev
  rw [e]
  exact vk_R.of (hts _ (tb_7 (List.mem_of_getElem? (i := 171) rfl))) ev
theorem tc_39 {s : State} {A : Array Value} (hts : ∀ w ∈ lw_tbl, w.before A s = true) (hs : ∀ c ∈ flatC (Jvm.Cond.and given_1 narrow_1), c.before A s = true) {q : Nat} (hq : (tx_t 4).eval A s none [] s = some (.ref q)) : vk_R "LentNamesModel" 153 "on" q s := by
  obtain ⟨a, _, _, _, ev, -⟩ := Cond.exactly_spec (hs (Cond.exactly (Term.string "LentNamesModel" 153) "java/lang/String") (by decide +kernel))
  have e : q = a := tx_eq (hs (.eq (.string "LentNames$TownReader" 115) (.string "LentNamesModel" 153)) (by decide +kernel)) hq ev
  rw [e]
  exact vk_R.of (hts _ (tb_7 (List.mem_of_getElem? (i := 172) rfl))) ev
theorem tc_40 {s : State} {A : Array Value} (hts : ∀ w ∈ lw_tbl, w.before A s = true) (hs : ∀ c ∈ flatC (Jvm.Cond.and given_1 narrow_1), c.before A s = true) {q : Nat} (hq : (tx_t 5).eval A s none [] s = some (.ref q)) : vk_R "LentNamesModel" 158 "pledge" q s := by
  obtain ⟨a, _, _, _, ev, -⟩ := Cond.exactly_spec (hs (Cond.exactly (Term.string "LentNamesModel" 158) "java/lang/String") (by decide +kernel))
  have e : q = a := tx_eq (hs (.eq (.string "LentNames$TownReader" 121) (.string "LentNamesModel" 158)) (by decide +kernel)) hq ev
  rw [e]
  exact vk_R.of (hts _ (tb_7 (List.mem_of_getElem? (i := 177) rfl))) ev
theorem tc_41 {s : State} {A : Array Value} (hts : ∀ w ∈ lw_tbl, w.before A s = true) (hs : ∀ c ∈ flatC (Jvm.Cond.and given_1 narrow_1), c.before A s = true) {q : Nat} (hq : (tx_t 17).eval A s none [] s = some (.ref q)) : vk_R "LentNamesModel" 189 "late" q s := by
  obtain ⟨a, _, _, _, ev, -⟩ := Cond.exactly_spec (hs (Cond.exactly (Term.string "LentNamesModel" 189) "java/lang/String") (by decide +kernel))
  have e : q = a := tx_eq (hs (.eq (.string "LentNames$TownReader" 82) (.string "LentNamesModel" 189)) (by decide +kernel)) hq ev
  rw [e]
  exact vk_R.of (hts _ (tb_7 (List.mem_of_getElem? (i := 178) rfl))) ev
theorem tc_42 {s : State} {A : Array Value} (hts : ∀ w ∈ lw_tbl, w.before A s = true) (hs : ∀ c ∈ flatC (Jvm.Cond.and given_1 narrow_1), c.before A s = true) {q : Nat} (hq : (tx_t 18).eval A s none [] s = some (.ref q)) : vk_R "LentNamesModel" 160 "by" q s := by
  obtain ⟨a, _, _, _, ev, -⟩ := Cond.exactly_spec (hs (Cond.exactly (Term.string "LentNamesModel" 160) "java/lang/String") (by decide +kernel))
  have e : q = a := tx_eq (hs (.eq (.string "LentNames$TownReader" 130) (.string "LentNamesModel" 160)) (by decide +kernel)) hq ev
  rw [e]
  exact vk_R.of (hts _ (tb_7 (List.mem_of_getElem? (i := 183) rfl))) ev
theorem tc_43 {s : State} {A : Array Value} (hts : ∀ w ∈ lw_tbl, w.before A s = true) (hs : ∀ c ∈ flatC (Jvm.Cond.and given_1 narrow_1), c.before A s = true) {q : Nat} (hq : (tx_t 19).eval A s none [] s = some (.ref q)) : vk_R "LentNamesModel" 194 "dies" q s := by
  obtain ⟨a, _, _, _, ev, -⟩ := Cond.exactly_spec (hs (Cond.exactly (Term.string "LentNamesModel" 194) "java/lang/String") (by decide +kernel))
  have e : q = a := tx_eq (hs (.eq (.string "LentNames$TownReader" 87) (.string "LentNamesModel" 194)) (by decide +kernel)) hq ev
  rw [e]
  exact vk_R.of (hts _ (tb_7 (List.mem_of_getElem? (i := 184) rfl))) ev
theorem tc_44 {s : State} {A : Array Value} (hts : ∀ w ∈ lw_tbl, w.before A s = true) (hs : ∀ c ∈ flatC (Jvm.Cond.and given_1 narrow_1), c.before A s = true) {q : Nat} (hq : (tx_t 20).eval A s none [] s = some (.ref q)) : vk_R "LentNamesModel" 199 "court" q s := by
  obtain ⟨a, _, _, _, ev, -⟩ := Cond.exactly_spec (hs (Cond.exactly (Term.string "LentNamesModel" 199) "java/lang/String") (by decide +kernel))
  have e : q = a := tx_eq (hs (.eq (.string "LentNames$TownReader" 92) (.string "LentNamesModel" 199)) (by decide +kernel)) hq ev
  rw [e]
  exact vk_R.of (hts _ (tb_7 (List.mem_of_getElem? (i := 190) rfl))) ev
theorem tc_45 {s : State} {A : Array Value} (hts : ∀ w ∈ lw_tbl, w.before A s = true) (hs : ∀ c ∈ flatC (Jvm.Cond.and given_1 narrow_1), c.before A s = true) {q : Nat} (hq : (tx_t 6).eval A s none [] s = some (.ref q)) : vk_R "LentNamesModel" 204 "letter" q s := by
  obtain ⟨a, _, _, _, ev, -⟩ := Cond.exactly_spec (hs (Cond.exactly (Term.string "LentNamesModel" 204) "java/lang/String") (by decide +kernel))
  have e : q = a := tx_eq (hs (.eq (.string "LentNames$TownReader" 58) (.string "LentNamesModel" 204)) (by decide +kernel)) hq ev
  rw [e]
  exact vk_R.of (hts _ (tb_7 (List.mem_of_getElem? (i := 195) rfl))) ev
theorem tc_46 {s : State} {A : Array Value} (hts : ∀ w ∈ lw_tbl, w.before A s = true) (hs : ∀ c ∈ flatC (Jvm.Cond.and given_1 narrow_1), c.before A s = true) {q : Nat} (hq : (tx_t 7).eval A s none [] s = some (.ref q)) : vk_R "LentNamesModel" 167 "read" q s := by
  obtain ⟨a, _, _, _, ev, -⟩ := Cond.exactly_spec (hs (Cond.exactly (Term.string "LentNamesModel" 167) "java/lang/String") (by decide +kernel))
  have e : q = a := tx_eq (hs (.eq (.string "LentNames$TownReader" 144) (.string "LentNamesModel" 167)) (by decide +kernel)) hq ev
  rw [e]
  exact vk_R.of (hts _ (tb_7 (List.mem_of_getElem? (i := 200) rfl))) ev
theorem tc_47 {s : State} {A : Array Value} (hts : ∀ w ∈ lw_tbl, w.before A s = true) (hs : ∀ c ∈ flatC (Jvm.Cond.and given_1 narrow_1), c.before A s = true) {q : Nat} (hq : (tx_t 8).eval A s none [] s = some (.ref q)) : vk_R "LentNamesModel" 209 "debt" q s := by
  obtain ⟨a, _, _, _, ev, -⟩ := Cond.exactly_spec (hs (Cond.exactly (Term.string "LentNamesModel" 209) "java/lang/String") (by decide +kernel))
  have e : q = a := tx_eq (hs (.eq (.string "LentNames$TownReader" 66) (.string "LentNamesModel" 209)) (by decide +kernel)) hq ev
  rw [e]
  exact vk_R.of (hts _ (tb_7 (List.mem_of_getElem? (i := 201) rfl))) ev
theorem tc_48 {s : State} {A : Array Value} (hts : ∀ w ∈ lw_tbl, w.before A s = true) (hs : ∀ c ∈ flatC (Jvm.Cond.and given_1 narrow_1), c.before A s = true) {q : Nat} (hq : (tx_t 10).eval A s none [] s = some (.ref q)) : vk_R "LentNamesModel" 169 "name" q s := by
  obtain ⟨a, _, _, _, ev, -⟩ := Cond.exactly_spec (hs (Cond.exactly (Term.string "LentNamesModel" 169) "java/lang/String") (by decide +kernel))
  have e : q = a := tx_eq (hs (.eq (.string "LentNames$TownReader" 151) (.string "LentNamesModel" 169)) (by decide +kernel)) hq ev
  rw [e]
  exact vk_R.of (hts _ (tb_7 (List.mem_of_getElem? (i := 206) rfl))) ev
theorem tc_49 {s : State} {A : Array Value} (hts : ∀ w ∈ lw_tbl, w.before A s = true) (hs : ∀ c ∈ flatC (Jvm.Cond.and given_1 narrow_1), c.before A s = true) {q : Nat} (hq : (tx_t 9).eval A s none [] s = some (.ref q)) : vk_R "LentNamesModel" 171 "body" q s := by
  obtain ⟨a, _, _, _, ev, -⟩ := Cond.exactly_spec (hs (Cond.exactly (Term.string "LentNamesModel" 171) "java/lang/String") (by decide +kernel))
  have e : q = a := tx_eq (hs (.eq (.string "LentNames$TownReader" 149) (.string "LentNamesModel" 171)) (by decide +kernel)) hq ev
  rw [e]
  exact vk_R.of (hts _ (tb_7 (List.mem_of_getElem? (i := 207) rfl))) ev
theorem tc_50 {s : State} {A : Array Value} (hts : ∀ w ∈ lw_tbl, w.before A s = true) (hs : ∀ c ∈ flatC (Jvm.Cond.and given_1 narrow_1), c.before A s = true) {q : Nat} (hq : (tx_t 11).eval A s none [] s = some (.ref q)) : vk_R "LentNamesModel" 173 "judged" q s := by
  obtain ⟨a, _, _, _, ev, -⟩ := Cond.exactly_spec (hs (Cond.exactly (Term.string "LentNamesModel" 173) "java/lang/String") (by decide +kernel))
  have e : q = a := tx_eq (hs (.eq (.string "LentNames$TownReader" 153) (.string "LentNamesModel" 173)) (by decide +kernel)) hq ev
  rw [e]
  exact vk_R.of (hts _ (tb_7 (List.mem_of_getElem? (i := 208) rfl))) ev
theorem tc_51 {s : State} {A : Array Value} (hts : ∀ w ∈ lw_tbl, w.before A s = true) (hs : ∀ c ∈ flatC (Jvm.Cond.and given_1 narrow_1), c.before A s = true) {q : Nat} (hq : (tx_t 12).eval A s none [] s = some (.ref q)) : vk_R "LentNamesModel" 175 "of" q s := by
  obtain ⟨a, _, _, _, ev, -⟩ := Cond.exactly_spec (hs (Cond.exactly (Term.string "LentNamesModel" 175) "java/lang/String") (by decide +kernel))
  have e : q = a := tx_eq (hs (.eq (.string "LentNames$TownReader" 155) (.string "LentNamesModel" 175)) (by decide +kernel)) hq ev
  rw [e]
  exact vk_R.of (hts _ (tb_7 (List.mem_of_getElem? (i := 209) rfl))) ev
theorem tc_52 {s : State} {A : Array Value} (hts : ∀ w ∈ lw_tbl, w.before A s = true) (hs : ∀ c ∈ flatC (Jvm.Cond.and given_1 narrow_1), c.before A s = true) {q : Nat} (hq : (tx_t 13).eval A s none [] s = some (.ref q)) : vk_R "LentNamesModel" 214 "seen" q s := by
  obtain ⟨a, _, _, _, ev, -⟩ := Cond.exactly_spec (hs (Cond.exactly (Term.string "LentNamesModel" 214) "java/lang/String") (by decide +kernel))
  have e : q = a := tx_eq (hs (.eq (.string "LentNames$TownReader" 74) (.string "LentNamesModel" 214)) (by decide +kernel)) hq ev
  rw [e]
  exact vk_R.of (hts _ (tb_7 (List.mem_of_getElem? (i := 210) rfl))) ev
theorem tc_53 {s : State} {A : Array Value} (hts : ∀ w ∈ lw_tbl, w.before A s = true) (hs : ∀ c ∈ flatC (Jvm.Cond.and given_1 narrow_1), c.before A s = true) {q : Nat} (hq : (tx_t 14).eval A s none [] s = some (.ref q)) : vk_R "LentNamesModel" 177 "as" q s := by
  obtain ⟨a, _, _, _, ev, -⟩ := Cond.exactly_spec (hs (Cond.exactly (Term.string "LentNamesModel" 177) "java/lang/String") (by decide +kernel))
  have e : q = a := tx_eq (hs (.eq (.string "LentNames$TownReader" 157) (.string "LentNamesModel" 177)) (by decide +kernel)) hq ev
  rw [e]
  exact vk_R.of (hts _ (tb_7 (List.mem_of_getElem? (i := 215) rfl))) ev
theorem tc_54 {s : State} {A : Array Value} (hts : ∀ w ∈ lw_tbl, w.before A s = true) (hs : ∀ c ∈ flatC (Jvm.Cond.and given_1 narrow_1), c.before A s = true) {q : Nat} (hq : (tx_t 15).eval A s none [] s = some (.ref q)) : vk_R "LentNamesModel" 179 "or" q s := by
  obtain ⟨a, _, _, _, ev, -⟩ := Cond.exactly_spec (hs (Cond.exactly (Term.string "LentNamesModel" 179) "java/lang/String") (by decide +kernel))
  have e : q = a := tx_eq (hs (.eq (.string "LentNames$TownReader" 165) (.string "LentNamesModel" 179)) (by decide +kernel)) hq ev
  rw [e]
  exact vk_R.of (hts _ (tb_7 (List.mem_of_getElem? (i := 216) rfl))) ev
theorem tc_55 {s : State} {A : Array Value} (hts : ∀ w ∈ lw_tbl, w.before A s = true) (hs : ∀ c ∈ flatC (Jvm.Cond.and given_1 narrow_1), c.before A s = true) {q : Nat} (hq : (tx_t 16).eval A s none [] s = some (.ref q)) : vk_R "LentNamesModel" 181 "known" q s := by
  obtain ⟨a, _, _, _, ev, -⟩ := Cond.exactly_spec (hs (Cond.exactly (Term.string "LentNamesModel" 181) "java/lang/String") (by decide +kernel))
  have e : q = a := tx_eq (hs (.eq (.string "LentNames$TownReader" 163) (.string "LentNamesModel" 181)) (by decide +kernel)) hq ev
  rw [e]
  exact vk_R.of (hts _ (tb_7 (List.mem_of_getElem? (i := 217) rfl))) ev
theorem tc_56 {s : State} {A : Array Value} (hts : ∀ w ∈ lw_tbl, w.before A s = true) (hs : ∀ c ∈ flatC (Jvm.Cond.and given_1 narrow_1), c.before A s = true) {q : Nat} (hq : (tx_t 22).eval A s none [] s = some (.ref q)) : vk_R "LentNamesModel" 262 "grant" q s := by
  obtain ⟨a, _, _, _, ev, -⟩ := Cond.exactly_spec (hs (Cond.exactly (Term.string "LentNamesModel" 262) "java/lang/String") (by decide +kernel))
  have e : q = a := tx_eq (hs (.eq (.string "LentNames$CustomReader" 50) (.string "LentNamesModel" 262)) (by decide +kernel)) hq ev
  rw [e]
  exact vk_R.of (hts _ (tb_7 (List.mem_of_getElem? (i := 222) rfl))) ev
theorem tc_57 {s : State} {A : Array Value} (hts : ∀ w ∈ lw_tbl, w.before A s = true) (hs : ∀ c ∈ flatC (Jvm.Cond.and given_1 narrow_1), c.before A s = true) {q : Nat} (hq : (tx_t 21).eval A s none [] s = some (.ref q)) : vk_R "LentNamesModel" 264 "refuse" q s := by
  obtain ⟨a, _, _, _, ev, -⟩ := Cond.exactly_spec (hs (Cond.exactly (Term.string "LentNamesModel" 264) "java/lang/String") (by decide +kernel))
  have e : q = a := tx_eq (hs (.eq (.string "LentNames$CustomReader" 44) (.string "LentNamesModel" 264)) (by decide +kernel)) hq ev
  rw [e]
  exact vk_R.of (hts _ (tb_7 (List.mem_of_getElem? (i := 223) rfl))) ev
theorem tc_58 {s : State} {A : Array Value} (hts : ∀ w ∈ lw_tbl, w.before A s = true) (hs : ∀ c ∈ flatC (Jvm.Cond.and given_1 narrow_1), c.before A s = true) {q : Nat} (hq : (tx_t 23).eval A s none [] s = some (.ref q)) : vk_R "LentNamesModel" 266 "if" q s := by
  obtain ⟨a, _, _, _, ev, -⟩ := Cond.exactly_spec (hs (Cond.exactly (Term.string "LentNamesModel" 266) "java/lang/String") (by decide +kernel))
  have e : q = a := tx_eq (hs (.eq (.string "LentNames$CustomReader" 52) (.string "LentNamesModel" 266)) (by decide +kernel)) hq ev
  rw [e]
  exact vk_R.of (hts _ (tb_7 (List.mem_of_getElem? (i := 224) rfl))) ev
theorem tc_59 {s : State} {A : Array Value} (hts : ∀ w ∈ lw_tbl, w.before A s = true) (hs : ∀ c ∈ flatC (Jvm.Cond.and given_1 narrow_1), c.before A s = true) {q : Nat} (hq : (tx_t 24).eval A s none [] s = some (.ref q)) : vk_R "LentNamesModel" 245 "not" q s := by
  obtain ⟨a, _, _, _, ev, -⟩ := Cond.exactly_spec (hs (Cond.exactly (Term.string "LentNamesModel" 245) "java/lang/String") (by decide +kernel))
  have e : q = a := tx_eq (hs (.eq (.string "LentNames$CustomReader" 71) (.string "LentNamesModel" 245)) (by decide +kernel)) hq ev
  rw [e]
  exact vk_R.of (hts _ (tb_8 (List.mem_of_getElem? (i := 1) rfl))) ev
theorem tc_60 {s : State} {A : Array Value} (hts : ∀ w ∈ lw_tbl, w.before A s = true) (hs : ∀ c ∈ flatC (Jvm.Cond.and given_1 narrow_1), c.before A s = true) {q : Nat} (hq : (tx_t 25).eval A s none [] s = some (.ref q)) : vk_R "LentNamesModel" 250 "own" q s := by
  obtain ⟨a, _, _, _, ev, -⟩ := Cond.exactly_spec (hs (Cond.exactly (Term.string "LentNamesModel" 250) "java/lang/String") (by decide +kernel))
  have e : q = a := tx_eq (hs (.eq (.string "LentNames$CustomReader" 79) (.string "LentNamesModel" 250)) (by decide +kernel)) hq ev
  rw [e]
  exact vk_R.of (hts _ (tb_8 (List.mem_of_getElem? (i := 6) rfl))) ev
theorem tc_61 {s : State} {A : Array Value} (hts : ∀ w ∈ lw_tbl, w.before A s = true) (hs : ∀ c ∈ flatC (Jvm.Cond.and given_1 narrow_1), c.before A s = true) {q : Nat} (hq : (tx_t 26).eval A s none [] s = some (.ref q)) : vk_R "LentNamesModel" 252 "mine" q s := by
  obtain ⟨a, _, _, _, ev, -⟩ := Cond.exactly_spec (hs (Cond.exactly (Term.string "LentNamesModel" 252) "java/lang/String") (by decide +kernel))
  have e : q = a := tx_eq (hs (.eq (.string "LentNames$CustomReader" 81) (.string "LentNamesModel" 252)) (by decide +kernel)) hq ev
  rw [e]
  exact vk_R.of (hts _ (tb_8 (List.mem_of_getElem? (i := 7) rfl))) ev
theorem tc_62 {s : State} {A : Array Value} (hts : ∀ w ∈ lw_tbl, w.before A s = true) (hs : ∀ c ∈ flatC (Jvm.Cond.and given_1 narrow_1), c.before A s = true) {q : Nat} (hq : (tx_t 27).eval A s none [] s = some (.ref q)) : vk_R "LentNamesModel" 226 "days" q s := by
  obtain ⟨a, _, _, _, ev, -⟩ := Cond.exactly_spec (hs (Cond.exactly (Term.string "LentNamesModel" 226) "java/lang/String") (by decide +kernel))
  have e : q = a := tx_eq (hs (.eq (.string "LentNames$CustomReader" 99) (.string "LentNamesModel" 226)) (by decide +kernel)) hq ev
  rw [e]
  exact vk_R.of (hts _ (tb_8 (List.mem_of_getElem? (i := 16) rfl))) ev
theorem tc_63 {s : State} {A : Array Value} (hts : ∀ w ∈ lw_tbl, w.before A s = true) (hs : ∀ c ∈ flatC (Jvm.Cond.and given_1 narrow_1), c.before A s = true) {q : Nat} (hq : (tx_t 28).eval A s none [] s = some (.ref q)) : vk_R "LentNamesModel" 228 "deep" q s := by
  obtain ⟨a, _, _, _, ev, -⟩ := Cond.exactly_spec (hs (Cond.exactly (Term.string "LentNamesModel" 228) "java/lang/String") (by decide +kernel))
  have e : q = a := tx_eq (hs (.eq (.string "LentNames$CustomReader" 103) (.string "LentNamesModel" 228)) (by decide +kernel)) hq ev
  rw [e]
  exact vk_R.of (hts _ (tb_8 (List.mem_of_getElem? (i := 17) rfl))) ev
theorem tc_64 {s : State} {A : Array Value} (hts : ∀ w ∈ lw_tbl, w.before A s = true) (hs : ∀ c ∈ flatC (Jvm.Cond.and given_1 narrow_1), c.before A s = true) {q : Nat} (hq : (tx_t 29).eval A s none [] s = some (.ref q)) : vk_R "LentNamesModel" 230 "gives" q s := by
  obtain ⟨a, _, _, _, ev, -⟩ := Cond.exactly_spec (hs (Cond.exactly (Term.string "LentNamesModel" 230) "java/lang/String") (by decide +kernel))
  have e : q = a := tx_eq (hs (.eq (.string "LentNames$CustomReader" 105) (.string "LentNamesModel" 230)) (by decide +kernel)) hq ev
  rw [e]
  exact vk_R.of (hts _ (tb_8 (List.mem_of_getElem? (i := 18) rfl))) ev
theorem tc_65 {s : State} {A : Array Value} (hts : ∀ w ∈ lw_tbl, w.before A s = true) (hs : ∀ c ∈ flatC (Jvm.Cond.and given_1 narrow_1), c.before A s = true) {q : Nat} (hq : (tx_t 30).eval A s none [] s = some (.ref q)) : vk_R "LentNamesModel" 232 "takes" q s := by
  obtain ⟨a, _, _, _, ev, -⟩ := Cond.exactly_spec (hs (Cond.exactly (Term.string "LentNamesModel" 232) "java/lang/String") (by decide +kernel))
  have e : q = a := tx_eq (hs (.eq (.string "LentNames$CustomReader" 107) (.string "LentNamesModel" 232)) (by decide +kernel)) hq ev
  rw [e]
  exact vk_R.of (hts _ (tb_8 (List.mem_of_getElem? (i := 19) rfl))) ev
theorem tc_66 {s : State} {A : Array Value} (hts : ∀ w ∈ lw_tbl, w.before A s = true) (hs : ∀ c ∈ flatC (Jvm.Cond.and given_1 narrow_1), c.before A s = true) {q : Nat} (hq : (tx_t 31).eval A s none [] s = some (.ref q)) : vk_R "LentNamesModel" 257 "and" q s := by
  obtain ⟨a, _, _, _, ev, -⟩ := Cond.exactly_spec (hs (Cond.exactly (Term.string "LentNamesModel" 257) "java/lang/String") (by decide +kernel))
  have e : q = a := tx_eq (hs (.eq (.string "LentNames$CustomReader" 69) (.string "LentNamesModel" 257)) (by decide +kernel)) hq ev
  rw [e]
  exact vk_R.of (hts _ (tb_8 (List.mem_of_getElem? (i := 20) rfl))) ev
theorem td_0 {s : State} {A : Array Value} {b : Nat → Nat} {ad : Nat → Nat × Nat} (hts : ∀ w ∈ lw_tbl, w.before A s = true) (hs : ∀ c ∈ flatC (Jvm.Cond.and given_1 narrow_1), c.before A s = true) (bt : ∀ i, i < 32 → b (i + 1) = (ad i).1) (had : ∀ i, i < 32 → tx_P (tx_t i) i A s (ad i)) : ∀ q, iv_sx[0]? = some q → vk_R q.1 q.2.1 q.2.2.1 (b (q.2.2.2 + 1)) s := fun q hq => by
  cases hq
  show vk_R _ _ _ (b (0 + 1)) s
  rw [bt 0 (by decide)]
  exact tc_0 hts hs (had 0 (by decide)).1
theorem td_1 {s : State} {A : Array Value} {b : Nat → Nat} {ad : Nat → Nat × Nat} (hts : ∀ w ∈ lw_tbl, w.before A s = true) (hs : ∀ c ∈ flatC (Jvm.Cond.and given_1 narrow_1), c.before A s = true) (bt : ∀ i, i < 32 → b (i + 1) = (ad i).1) (had : ∀ i, i < 32 → tx_P (tx_t i) i A s (ad i)) : ∀ q, iv_sx[1]? = some q → vk_R q.1 q.2.1 q.2.2.1 (b (q.2.2.2 + 1)) s := fun q hq => by
  cases hq
  show vk_R _ _ _ (b (1 + 1)) s
  rw [bt 1 (by decide)]
  exact tc_1 hts hs (had 1 (by decide)).1
theorem td_2 {s : State} {A : Array Value} {b : Nat → Nat} {ad : Nat → Nat × Nat} (hts : ∀ w ∈ lw_tbl, w.before A s = true) (hs : ∀ c ∈ flatC (Jvm.Cond.and given_1 narrow_1), c.before A s = true) (bt : ∀ i, i < 32 → b (i + 1) = (ad i).1) (had : ∀ i, i < 32 → tx_P (tx_t i) i A s (ad i)) : ∀ q, iv_sx[2]? = some q → vk_R q.1 q.2.1 q.2.2.1 (b (q.2.2.2 + 1)) s := fun q hq => by
  cases hq
  show vk_R _ _ _ (b (2 + 1)) s
  rw [bt 2 (by decide)]
  exact tc_2 hts hs (had 2 (by decide)).1
theorem td_3 {s : State} {A : Array Value} {b : Nat → Nat} {ad : Nat → Nat × Nat} (hts : ∀ w ∈ lw_tbl, w.before A s = true) (hs : ∀ c ∈ flatC (Jvm.Cond.and given_1 narrow_1), c.before A s = true) (bt : ∀ i, i < 32 → b (i + 1) = (ad i).1) (had : ∀ i, i < 32 → tx_P (tx_t i) i A s (ad i)) : ∀ q, iv_sx[3]? = some q → vk_R q.1 q.2.1 q.2.2.1 (b (q.2.2.2 + 1)) s := fun q hq => by
  cases hq
  show vk_R _ _ _ (b (3 + 1)) s
  rw [bt 3 (by decide)]
  exact tc_3 hts hs (had 3 (by decide)).1
theorem td_4 {s : State} {A : Array Value} {b : Nat → Nat} {ad : Nat → Nat × Nat} (hts : ∀ w ∈ lw_tbl, w.before A s = true) (hs : ∀ c ∈ flatC (Jvm.Cond.and given_1 narrow_1), c.before A s = true) (bt : ∀ i, i < 32 → b (i + 1) = (ad i).1) (had : ∀ i, i < 32 → tx_P (tx_t i) i A s (ad i)) : ∀ q, iv_sx[4]? = some q → vk_R q.1 q.2.1 q.2.2.1 (b (q.2.2.2 + 1)) s := fun q hq => by
  cases hq
  show vk_R _ _ _ (b (4 + 1)) s
  rw [bt 4 (by decide)]
  exact tc_4 hts hs (had 4 (by decide)).1
theorem td_5 {s : State} {A : Array Value} {b : Nat → Nat} {ad : Nat → Nat × Nat} (hts : ∀ w ∈ lw_tbl, w.before A s = true) (hs : ∀ c ∈ flatC (Jvm.Cond.and given_1 narrow_1), c.before A s = true) (bt : ∀ i, i < 32 → b (i + 1) = (ad i).1) (had : ∀ i, i < 32 → tx_P (tx_t i) i A s (ad i)) : ∀ q, iv_sx[5]? = some q → vk_R q.1 q.2.1 q.2.2.1 (b (q.2.2.2 + 1)) s := fun q hq => by
  cases hq
  show vk_R _ _ _ (b (5 + 1)) s
  rw [bt 5 (by decide)]
  exact tc_5 hts hs (had 5 (by decide)).1
theorem td_6 {s : State} {A : Array Value} {b : Nat → Nat} {ad : Nat → Nat × Nat} (hts : ∀ w ∈ lw_tbl, w.before A s = true) (hs : ∀ c ∈ flatC (Jvm.Cond.and given_1 narrow_1), c.before A s = true) (bt : ∀ i, i < 32 → b (i + 1) = (ad i).1) (had : ∀ i, i < 32 → tx_P (tx_t i) i A s (ad i)) : ∀ q, iv_sx[6]? = some q → vk_R q.1 q.2.1 q.2.2.1 (b (q.2.2.2 + 1)) s := fun q hq => by
  cases hq
  show vk_R _ _ _ (b (6 + 1)) s
  rw [bt 6 (by decide)]
  exact tc_6 hts hs (had 6 (by decide)).1
theorem td_7 {s : State} {A : Array Value} {b : Nat → Nat} {ad : Nat → Nat × Nat} (hts : ∀ w ∈ lw_tbl, w.before A s = true) (hs : ∀ c ∈ flatC (Jvm.Cond.and given_1 narrow_1), c.before A s = true) (bt : ∀ i, i < 32 → b (i + 1) = (ad i).1) (had : ∀ i, i < 32 → tx_P (tx_t i) i A s (ad i)) : ∀ q, iv_sx[7]? = some q → vk_R q.1 q.2.1 q.2.2.1 (b (q.2.2.2 + 1)) s := fun q hq => by
  cases hq
  show vk_R _ _ _ (b (7 + 1)) s
  rw [bt 7 (by decide)]
  exact tc_7 hts hs (had 7 (by decide)).1
theorem td_8 {s : State} {A : Array Value} {b : Nat → Nat} {ad : Nat → Nat × Nat} (hts : ∀ w ∈ lw_tbl, w.before A s = true) (hs : ∀ c ∈ flatC (Jvm.Cond.and given_1 narrow_1), c.before A s = true) (bt : ∀ i, i < 32 → b (i + 1) = (ad i).1) (had : ∀ i, i < 32 → tx_P (tx_t i) i A s (ad i)) : ∀ q, iv_sx[8]? = some q → vk_R q.1 q.2.1 q.2.2.1 (b (q.2.2.2 + 1)) s := fun q hq => by
  cases hq
  show vk_R _ _ _ (b (8 + 1)) s
  rw [bt 8 (by decide)]
  exact tc_8 hts hs (had 8 (by decide)).1
theorem td_9 {s : State} {A : Array Value} {b : Nat → Nat} {ad : Nat → Nat × Nat} (hts : ∀ w ∈ lw_tbl, w.before A s = true) (hs : ∀ c ∈ flatC (Jvm.Cond.and given_1 narrow_1), c.before A s = true) (bt : ∀ i, i < 32 → b (i + 1) = (ad i).1) (had : ∀ i, i < 32 → tx_P (tx_t i) i A s (ad i)) : ∀ q, iv_sx[9]? = some q → vk_R q.1 q.2.1 q.2.2.1 (b (q.2.2.2 + 1)) s := fun q hq => by
  cases hq
  show vk_R _ _ _ (b (9 + 1)) s
  rw [bt 9 (by decide)]
  exact tc_9 hts hs (had 9 (by decide)).1
theorem td_10 {s : State} {A : Array Value} {b : Nat → Nat} {ad : Nat → Nat × Nat} (hts : ∀ w ∈ lw_tbl, w.before A s = true) (hs : ∀ c ∈ flatC (Jvm.Cond.and given_1 narrow_1), c.before A s = true) (bt : ∀ i, i < 32 → b (i + 1) = (ad i).1) (had : ∀ i, i < 32 → tx_P (tx_t i) i A s (ad i)) : ∀ q, iv_sx[10]? = some q → vk_R q.1 q.2.1 q.2.2.1 (b (q.2.2.2 + 1)) s := fun q hq => by
  cases hq
  show vk_R _ _ _ (b (10 + 1)) s
  rw [bt 10 (by decide)]
  exact tc_10 hts hs (had 10 (by decide)).1
theorem td_11 {s : State} {A : Array Value} {b : Nat → Nat} {ad : Nat → Nat × Nat} (hts : ∀ w ∈ lw_tbl, w.before A s = true) (hs : ∀ c ∈ flatC (Jvm.Cond.and given_1 narrow_1), c.before A s = true) (bt : ∀ i, i < 32 → b (i + 1) = (ad i).1) (had : ∀ i, i < 32 → tx_P (tx_t i) i A s (ad i)) : ∀ q, iv_sx[11]? = some q → vk_R q.1 q.2.1 q.2.2.1 (b (q.2.2.2 + 1)) s := fun q hq => by
  cases hq
  show vk_R _ _ _ (b (11 + 1)) s
  rw [bt 11 (by decide)]
  exact tc_11 hts hs (had 11 (by decide)).1
theorem td_12 {s : State} {A : Array Value} {b : Nat → Nat} {ad : Nat → Nat × Nat} (hts : ∀ w ∈ lw_tbl, w.before A s = true) (hs : ∀ c ∈ flatC (Jvm.Cond.and given_1 narrow_1), c.before A s = true) (bt : ∀ i, i < 32 → b (i + 1) = (ad i).1) (had : ∀ i, i < 32 → tx_P (tx_t i) i A s (ad i)) : ∀ q, iv_sx[12]? = some q → vk_R q.1 q.2.1 q.2.2.1 (b (q.2.2.2 + 1)) s := fun q hq => by
  cases hq
  show vk_R _ _ _ (b (12 + 1)) s
  rw [bt 12 (by decide)]
  exact tc_12 hts hs (had 12 (by decide)).1
theorem td_13 {s : State} {A : Array Value} {b : Nat → Nat} {ad : Nat → Nat × Nat} (hts : ∀ w ∈ lw_tbl, w.before A s = true) (hs : ∀ c ∈ flatC (Jvm.Cond.and given_1 narrow_1), c.before A s = true) (bt : ∀ i, i < 32 → b (i + 1) = (ad i).1) (had : ∀ i, i < 32 → tx_P (tx_t i) i A s (ad i)) : ∀ q, iv_sx[13]? = some q → vk_R q.1 q.2.1 q.2.2.1 (b (q.2.2.2 + 1)) s := fun q hq => by
  cases hq
  show vk_R _ _ _ (b (13 + 1)) s
  rw [bt 13 (by decide)]
  exact tc_13 hts hs (had 13 (by decide)).1
theorem td_14 {s : State} {A : Array Value} {b : Nat → Nat} {ad : Nat → Nat × Nat} (hts : ∀ w ∈ lw_tbl, w.before A s = true) (hs : ∀ c ∈ flatC (Jvm.Cond.and given_1 narrow_1), c.before A s = true) (bt : ∀ i, i < 32 → b (i + 1) = (ad i).1) (had : ∀ i, i < 32 → tx_P (tx_t i) i A s (ad i)) : ∀ q, iv_sx[14]? = some q → vk_R q.1 q.2.1 q.2.2.1 (b (q.2.2.2 + 1)) s := fun q hq => by
  cases hq
  show vk_R _ _ _ (b (14 + 1)) s
  rw [bt 14 (by decide)]
  exact tc_14 hts hs (had 14 (by decide)).1
theorem td_15 {s : State} {A : Array Value} {b : Nat → Nat} {ad : Nat → Nat × Nat} (hts : ∀ w ∈ lw_tbl, w.before A s = true) (hs : ∀ c ∈ flatC (Jvm.Cond.and given_1 narrow_1), c.before A s = true) (bt : ∀ i, i < 32 → b (i + 1) = (ad i).1) (had : ∀ i, i < 32 → tx_P (tx_t i) i A s (ad i)) : ∀ q, iv_sx[15]? = some q → vk_R q.1 q.2.1 q.2.2.1 (b (q.2.2.2 + 1)) s := fun q hq => by
  cases hq
  show vk_R _ _ _ (b (15 + 1)) s
  rw [bt 15 (by decide)]
  exact tc_15 hts hs (had 15 (by decide)).1
theorem td_16 {s : State} {A : Array Value} {b : Nat → Nat} {ad : Nat → Nat × Nat} (hts : ∀ w ∈ lw_tbl, w.before A s = true) (hs : ∀ c ∈ flatC (Jvm.Cond.and given_1 narrow_1), c.before A s = true) (bt : ∀ i, i < 32 → b (i + 1) = (ad i).1) (had : ∀ i, i < 32 → tx_P (tx_t i) i A s (ad i)) : ∀ q, iv_sx[16]? = some q → vk_R q.1 q.2.1 q.2.2.1 (b (q.2.2.2 + 1)) s := fun q hq => by
  cases hq
  show vk_R _ _ _ (b (16 + 1)) s
  rw [bt 16 (by decide)]
  exact tc_16 hts hs (had 16 (by decide)).1
theorem td_17 {s : State} {A : Array Value} {b : Nat → Nat} {ad : Nat → Nat × Nat} (hts : ∀ w ∈ lw_tbl, w.before A s = true) (hs : ∀ c ∈ flatC (Jvm.Cond.and given_1 narrow_1), c.before A s = true) (bt : ∀ i, i < 32 → b (i + 1) = (ad i).1) (had : ∀ i, i < 32 → tx_P (tx_t i) i A s (ad i)) : ∀ q, iv_sx[17]? = some q → vk_R q.1 q.2.1 q.2.2.1 (b (q.2.2.2 + 1)) s := fun q hq => by
  cases hq
  show vk_R _ _ _ (b (17 + 1)) s
  rw [bt 17 (by decide)]
  exact tc_17 hts hs (had 17 (by decide)).1
theorem td_18 {s : State} {A : Array Value} {b : Nat → Nat} {ad : Nat → Nat × Nat} (hts : ∀ w ∈ lw_tbl, w.before A s = true) (hs : ∀ c ∈ flatC (Jvm.Cond.and given_1 narrow_1), c.before A s = true) (bt : ∀ i, i < 32 → b (i + 1) = (ad i).1) (had : ∀ i, i < 32 → tx_P (tx_t i) i A s (ad i)) : ∀ q, iv_sx[18]? = some q → vk_R q.1 q.2.1 q.2.2.1 (b (q.2.2.2 + 1)) s := fun q hq => by
  cases hq
  show vk_R _ _ _ (b (18 + 1)) s
  rw [bt 18 (by decide)]
  exact tc_18 hts hs (had 18 (by decide)).1
theorem td_19 {s : State} {A : Array Value} {b : Nat → Nat} {ad : Nat → Nat × Nat} (hts : ∀ w ∈ lw_tbl, w.before A s = true) (hs : ∀ c ∈ flatC (Jvm.Cond.and given_1 narrow_1), c.before A s = true) (bt : ∀ i, i < 32 → b (i + 1) = (ad i).1) (had : ∀ i, i < 32 → tx_P (tx_t i) i A s (ad i)) : ∀ q, iv_sx[19]? = some q → vk_R q.1 q.2.1 q.2.2.1 (b (q.2.2.2 + 1)) s := fun q hq => by
  cases hq
  show vk_R _ _ _ (b (19 + 1)) s
  rw [bt 19 (by decide)]
  exact tc_19 hts hs (had 19 (by decide)).1
theorem td_20 {s : State} {A : Array Value} {b : Nat → Nat} {ad : Nat → Nat × Nat} (hts : ∀ w ∈ lw_tbl, w.before A s = true) (hs : ∀ c ∈ flatC (Jvm.Cond.and given_1 narrow_1), c.before A s = true) (bt : ∀ i, i < 32 → b (i + 1) = (ad i).1) (had : ∀ i, i < 32 → tx_P (tx_t i) i A s (ad i)) : ∀ q, iv_sx[20]? = some q → vk_R q.1 q.2.1 q.2.2.1 (b (q.2.2.2 + 1)) s := fun q hq => by
  cases hq
  show vk_R _ _ _ (b (20 + 1)) s
  rw [bt 20 (by decide)]
  exact tc_20 hts hs (had 20 (by decide)).1
theorem td_21 {s : State} {A : Array Value} {b : Nat → Nat} {ad : Nat → Nat × Nat} (hts : ∀ w ∈ lw_tbl, w.before A s = true) (hs : ∀ c ∈ flatC (Jvm.Cond.and given_1 narrow_1), c.before A s = true) (bt : ∀ i, i < 32 → b (i + 1) = (ad i).1) (had : ∀ i, i < 32 → tx_P (tx_t i) i A s (ad i)) : ∀ q, iv_sx[21]? = some q → vk_R q.1 q.2.1 q.2.2.1 (b (q.2.2.2 + 1)) s := fun q hq => by
  cases hq
  show vk_R _ _ _ (b (21 + 1)) s
  rw [bt 21 (by decide)]
  exact tc_21 hts hs (had 21 (by decide)).1
theorem td_22 {s : State} {A : Array Value} {b : Nat → Nat} {ad : Nat → Nat × Nat} (hts : ∀ w ∈ lw_tbl, w.before A s = true) (hs : ∀ c ∈ flatC (Jvm.Cond.and given_1 narrow_1), c.before A s = true) (bt : ∀ i, i < 32 → b (i + 1) = (ad i).1) (had : ∀ i, i < 32 → tx_P (tx_t i) i A s (ad i)) : ∀ q, iv_sx[22]? = some q → vk_R q.1 q.2.1 q.2.2.1 (b (q.2.2.2 + 1)) s := fun q hq => by
  cases hq
  show vk_R _ _ _ (b (22 + 1)) s
  rw [bt 22 (by decide)]
  exact tc_22 hts hs (had 22 (by decide)).1
theorem td_23 {s : State} {A : Array Value} {b : Nat → Nat} {ad : Nat → Nat × Nat} (hts : ∀ w ∈ lw_tbl, w.before A s = true) (hs : ∀ c ∈ flatC (Jvm.Cond.and given_1 narrow_1), c.before A s = true) (bt : ∀ i, i < 32 → b (i + 1) = (ad i).1) (had : ∀ i, i < 32 → tx_P (tx_t i) i A s (ad i)) : ∀ q, iv_sx[23]? = some q → vk_R q.1 q.2.1 q.2.2.1 (b (q.2.2.2 + 1)) s := fun q hq => by
  cases hq
  show vk_R _ _ _ (b (23 + 1)) s
  rw [bt 23 (by decide)]
  exact tc_23 hts hs (had 23 (by decide)).1
theorem td_24 {s : State} {A : Array Value} {b : Nat → Nat} {ad : Nat → Nat × Nat} (hts : ∀ w ∈ lw_tbl, w.before A s = true) (hs : ∀ c ∈ flatC (Jvm.Cond.and given_1 narrow_1), c.before A s = true) (bt : ∀ i, i < 32 → b (i + 1) = (ad i).1) (had : ∀ i, i < 32 → tx_P (tx_t i) i A s (ad i)) : ∀ q, iv_sx[24]? = some q → vk_R q.1 q.2.1 q.2.2.1 (b (q.2.2.2 + 1)) s := fun q hq => by
  cases hq
  show vk_R _ _ _ (b (24 + 1)) s
  rw [bt 24 (by decide)]
  exact tc_24 hts hs (had 24 (by decide)).1
theorem td_25 {s : State} {A : Array Value} {b : Nat → Nat} {ad : Nat → Nat × Nat} (hts : ∀ w ∈ lw_tbl, w.before A s = true) (hs : ∀ c ∈ flatC (Jvm.Cond.and given_1 narrow_1), c.before A s = true) (bt : ∀ i, i < 32 → b (i + 1) = (ad i).1) (had : ∀ i, i < 32 → tx_P (tx_t i) i A s (ad i)) : ∀ q, iv_sx[25]? = some q → vk_R q.1 q.2.1 q.2.2.1 (b (q.2.2.2 + 1)) s := fun q hq => by
  cases hq
  show vk_R _ _ _ (b (25 + 1)) s
  rw [bt 25 (by decide)]
  exact tc_25 hts hs (had 25 (by decide)).1
theorem td_26 {s : State} {A : Array Value} {b : Nat → Nat} {ad : Nat → Nat × Nat} (hts : ∀ w ∈ lw_tbl, w.before A s = true) (hs : ∀ c ∈ flatC (Jvm.Cond.and given_1 narrow_1), c.before A s = true) (bt : ∀ i, i < 32 → b (i + 1) = (ad i).1) (had : ∀ i, i < 32 → tx_P (tx_t i) i A s (ad i)) : ∀ q, iv_sx[26]? = some q → vk_R q.1 q.2.1 q.2.2.1 (b (q.2.2.2 + 1)) s := fun q hq => by
  cases hq
  show vk_R _ _ _ (b (26 + 1)) s
  rw [bt 26 (by decide)]
  exact tc_26 hts hs (had 26 (by decide)).1
theorem td_27 {s : State} {A : Array Value} {b : Nat → Nat} {ad : Nat → Nat × Nat} (hts : ∀ w ∈ lw_tbl, w.before A s = true) (hs : ∀ c ∈ flatC (Jvm.Cond.and given_1 narrow_1), c.before A s = true) (bt : ∀ i, i < 32 → b (i + 1) = (ad i).1) (had : ∀ i, i < 32 → tx_P (tx_t i) i A s (ad i)) : ∀ q, iv_sx[27]? = some q → vk_R q.1 q.2.1 q.2.2.1 (b (q.2.2.2 + 1)) s := fun q hq => by
  cases hq
  show vk_R _ _ _ (b (2 + 1)) s
  rw [bt 2 (by decide)]
  exact tc_27 hts hs (had 2 (by decide)).1
theorem td_28 {s : State} {A : Array Value} {b : Nat → Nat} {ad : Nat → Nat × Nat} (hts : ∀ w ∈ lw_tbl, w.before A s = true) (hs : ∀ c ∈ flatC (Jvm.Cond.and given_1 narrow_1), c.before A s = true) (bt : ∀ i, i < 32 → b (i + 1) = (ad i).1) (had : ∀ i, i < 32 → tx_P (tx_t i) i A s (ad i)) : ∀ q, iv_sx[28]? = some q → vk_R q.1 q.2.1 q.2.2.1 (b (q.2.2.2 + 1)) s := fun q hq => by
  cases hq
  show vk_R _ _ _ (b (27 + 1)) s
  rw [bt 27 (by decide)]
  exact tc_28 hts hs (had 27 (by decide)).1
theorem td_29 {s : State} {A : Array Value} {b : Nat → Nat} {ad : Nat → Nat × Nat} (hts : ∀ w ∈ lw_tbl, w.before A s = true) (hs : ∀ c ∈ flatC (Jvm.Cond.and given_1 narrow_1), c.before A s = true) (bt : ∀ i, i < 32 → b (i + 1) = (ad i).1) (had : ∀ i, i < 32 → tx_P (tx_t i) i A s (ad i)) : ∀ q, iv_sx[29]? = some q → vk_R q.1 q.2.1 q.2.2.1 (b (q.2.2.2 + 1)) s := fun q hq => by
  cases hq
  show vk_R _ _ _ (b (5 + 1)) s
  rw [bt 5 (by decide)]
  exact tc_29 hts hs (had 5 (by decide)).1
theorem td_30 {s : State} {A : Array Value} {b : Nat → Nat} {ad : Nat → Nat × Nat} (hts : ∀ w ∈ lw_tbl, w.before A s = true) (hs : ∀ c ∈ flatC (Jvm.Cond.and given_1 narrow_1), c.before A s = true) (bt : ∀ i, i < 32 → b (i + 1) = (ad i).1) (had : ∀ i, i < 32 → tx_P (tx_t i) i A s (ad i)) : ∀ q, iv_sx[30]? = some q → vk_R q.1 q.2.1 q.2.2.1 (b (q.2.2.2 + 1)) s := fun q hq => by
  cases hq
  show vk_R _ _ _ (b (28 + 1)) s
  rw [bt 28 (by decide)]
  exact tc_30 hts hs (had 28 (by decide)).1
theorem td_31 {s : State} {A : Array Value} {b : Nat → Nat} {ad : Nat → Nat × Nat} (hts : ∀ w ∈ lw_tbl, w.before A s = true) (hs : ∀ c ∈ flatC (Jvm.Cond.and given_1 narrow_1), c.before A s = true) (bt : ∀ i, i < 32 → b (i + 1) = (ad i).1) (had : ∀ i, i < 32 → tx_P (tx_t i) i A s (ad i)) : ∀ q, iv_sx[31]? = some q → vk_R q.1 q.2.1 q.2.2.1 (b (q.2.2.2 + 1)) s := fun q hq => by
  cases hq
  show vk_R _ _ _ (b (29 + 1)) s
  rw [bt 29 (by decide)]
  exact tc_31 hts hs (had 29 (by decide)).1
theorem td_32 {s : State} {A : Array Value} {b : Nat → Nat} {ad : Nat → Nat × Nat} (hts : ∀ w ∈ lw_tbl, w.before A s = true) (hs : ∀ c ∈ flatC (Jvm.Cond.and given_1 narrow_1), c.before A s = true) (bt : ∀ i, i < 32 → b (i + 1) = (ad i).1) (had : ∀ i, i < 32 → tx_P (tx_t i) i A s (ad i)) : ∀ q, iv_sx[32]? = some q → vk_R q.1 q.2.1 q.2.2.1 (b (q.2.2.2 + 1)) s := fun q hq => by
  cases hq
  show vk_R _ _ _ (b (30 + 1)) s
  rw [bt 30 (by decide)]
  exact tc_32 hts hs (had 30 (by decide)).1
theorem td_33 {s : State} {A : Array Value} {b : Nat → Nat} {ad : Nat → Nat × Nat} (hts : ∀ w ∈ lw_tbl, w.before A s = true) (hs : ∀ c ∈ flatC (Jvm.Cond.and given_1 narrow_1), c.before A s = true) (bt : ∀ i, i < 32 → b (i + 1) = (ad i).1) (had : ∀ i, i < 32 → tx_P (tx_t i) i A s (ad i)) : ∀ q, iv_sx[33]? = some q → vk_R q.1 q.2.1 q.2.2.1 (b (q.2.2.2 + 1)) s := fun q hq => by
  cases hq
  show vk_R _ _ _ (b (31 + 1)) s
  rw [bt 31 (by decide)]
  exact tc_33 hts hs (had 31 (by decide)).1
theorem td_34 {s : State} {A : Array Value} {b : Nat → Nat} {ad : Nat → Nat × Nat} (hts : ∀ w ∈ lw_tbl, w.before A s = true) (hs : ∀ c ∈ flatC (Jvm.Cond.and given_1 narrow_1), c.before A s = true) (bt : ∀ i, i < 32 → b (i + 1) = (ad i).1) (had : ∀ i, i < 32 → tx_P (tx_t i) i A s (ad i)) : ∀ q, iv_sx[34]? = some q → vk_R q.1 q.2.1 q.2.2.1 (b (q.2.2.2 + 1)) s := fun q hq => by
  cases hq
  show vk_R _ _ _ (b (15 + 1)) s
  rw [bt 15 (by decide)]
  exact tc_34 hts hs (had 15 (by decide)).1
theorem td_35 {s : State} {A : Array Value} {b : Nat → Nat} {ad : Nat → Nat × Nat} (hts : ∀ w ∈ lw_tbl, w.before A s = true) (hs : ∀ c ∈ flatC (Jvm.Cond.and given_1 narrow_1), c.before A s = true) (bt : ∀ i, i < 32 → b (i + 1) = (ad i).1) (had : ∀ i, i < 32 → tx_P (tx_t i) i A s (ad i)) : ∀ q, iv_sx[35]? = some q → vk_R q.1 q.2.1 q.2.2.1 (b (q.2.2.2 + 1)) s := fun q hq => by
  cases hq
  show vk_R _ _ _ (b (0 + 1)) s
  rw [bt 0 (by decide)]
  exact tc_35 hts hs (had 0 (by decide)).1
theorem td_36 {s : State} {A : Array Value} {b : Nat → Nat} {ad : Nat → Nat × Nat} (hts : ∀ w ∈ lw_tbl, w.before A s = true) (hs : ∀ c ∈ flatC (Jvm.Cond.and given_1 narrow_1), c.before A s = true) (bt : ∀ i, i < 32 → b (i + 1) = (ad i).1) (had : ∀ i, i < 32 → tx_P (tx_t i) i A s (ad i)) : ∀ q, iv_sx[36]? = some q → vk_R q.1 q.2.1 q.2.2.1 (b (q.2.2.2 + 1)) s := fun q hq => by
  cases hq
  show vk_R _ _ _ (b (1 + 1)) s
  rw [bt 1 (by decide)]
  exact tc_36 hts hs (had 1 (by decide)).1
theorem td_37 {s : State} {A : Array Value} {b : Nat → Nat} {ad : Nat → Nat × Nat} (hts : ∀ w ∈ lw_tbl, w.before A s = true) (hs : ∀ c ∈ flatC (Jvm.Cond.and given_1 narrow_1), c.before A s = true) (bt : ∀ i, i < 32 → b (i + 1) = (ad i).1) (had : ∀ i, i < 32 → tx_P (tx_t i) i A s (ad i)) : ∀ q, iv_sx[37]? = some q → vk_R q.1 q.2.1 q.2.2.1 (b (q.2.2.2 + 1)) s := fun q hq => by
  cases hq
  show vk_R _ _ _ (b (2 + 1)) s
  rw [bt 2 (by decide)]
  exact tc_37 hts hs (had 2 (by decide)).1
theorem td_38 {s : State} {A : Array Value} {b : Nat → Nat} {ad : Nat → Nat × Nat} (hts : ∀ w ∈ lw_tbl, w.before A s = true) (hs : ∀ c ∈ flatC (Jvm.Cond.and given_1 narrow_1), c.before A s = true) (bt : ∀ i, i < 32 → b (i + 1) = (ad i).1) (had : ∀ i, i < 32 → tx_P (tx_t i) i A s (ad i)) : ∀ q, iv_sx[38]? = some q → vk_R q.1 q.2.1 q.2.2.1 (b (q.2.2.2 + 1)) s := fun q hq => by
  cases hq
  show vk_R _ _ _ (b (3 + 1)) s
  rw [bt 3 (by decide)]
  exact tc_38 hts hs (had 3 (by decide)).1
theorem td_39 {s : State} {A : Array Value} {b : Nat → Nat} {ad : Nat → Nat × Nat} (hts : ∀ w ∈ lw_tbl, w.before A s = true) (hs : ∀ c ∈ flatC (Jvm.Cond.and given_1 narrow_1), c.before A s = true) (bt : ∀ i, i < 32 → b (i + 1) = (ad i).1) (had : ∀ i, i < 32 → tx_P (tx_t i) i A s (ad i)) : ∀ q, iv_sx[39]? = some q → vk_R q.1 q.2.1 q.2.2.1 (b (q.2.2.2 + 1)) s := fun q hq => by
  cases hq
  show vk_R _ _ _ (b (4 + 1)) s
  rw [bt 4 (by decide)]
  exact tc_39 hts hs (had 4 (by decide)).1
theorem td_40 {s : State} {A : Array Value} {b : Nat → Nat} {ad : Nat → Nat × Nat} (hts : ∀ w ∈ lw_tbl, w.before A s = true) (hs : ∀ c ∈ flatC (Jvm.Cond.and given_1 narrow_1), c.before A s = true) (bt : ∀ i, i < 32 → b (i + 1) = (ad i).1) (had : ∀ i, i < 32 → tx_P (tx_t i) i A s (ad i)) : ∀ q, iv_sx[40]? = some q → vk_R q.1 q.2.1 q.2.2.1 (b (q.2.2.2 + 1)) s := fun q hq => by
  cases hq
  show vk_R _ _ _ (b (5 + 1)) s
  rw [bt 5 (by decide)]
  exact tc_40 hts hs (had 5 (by decide)).1
theorem td_41 {s : State} {A : Array Value} {b : Nat → Nat} {ad : Nat → Nat × Nat} (hts : ∀ w ∈ lw_tbl, w.before A s = true) (hs : ∀ c ∈ flatC (Jvm.Cond.and given_1 narrow_1), c.before A s = true) (bt : ∀ i, i < 32 → b (i + 1) = (ad i).1) (had : ∀ i, i < 32 → tx_P (tx_t i) i A s (ad i)) : ∀ q, iv_sx[41]? = some q → vk_R q.1 q.2.1 q.2.2.1 (b (q.2.2.2 + 1)) s := fun q hq => by
  cases hq
  show vk_R _ _ _ (b (17 + 1)) s
  rw [bt 17 (by decide)]
  exact tc_41 hts hs (had 17 (by decide)).1
theorem td_42 {s : State} {A : Array Value} {b : Nat → Nat} {ad : Nat → Nat × Nat} (hts : ∀ w ∈ lw_tbl, w.before A s = true) (hs : ∀ c ∈ flatC (Jvm.Cond.and given_1 narrow_1), c.before A s = true) (bt : ∀ i, i < 32 → b (i + 1) = (ad i).1) (had : ∀ i, i < 32 → tx_P (tx_t i) i A s (ad i)) : ∀ q, iv_sx[42]? = some q → vk_R q.1 q.2.1 q.2.2.1 (b (q.2.2.2 + 1)) s := fun q hq => by
  cases hq
  show vk_R _ _ _ (b (18 + 1)) s
  rw [bt 18 (by decide)]
  exact tc_42 hts hs (had 18 (by decide)).1
theorem td_43 {s : State} {A : Array Value} {b : Nat → Nat} {ad : Nat → Nat × Nat} (hts : ∀ w ∈ lw_tbl, w.before A s = true) (hs : ∀ c ∈ flatC (Jvm.Cond.and given_1 narrow_1), c.before A s = true) (bt : ∀ i, i < 32 → b (i + 1) = (ad i).1) (had : ∀ i, i < 32 → tx_P (tx_t i) i A s (ad i)) : ∀ q, iv_sx[43]? = some q → vk_R q.1 q.2.1 q.2.2.1 (b (q.2.2.2 + 1)) s := fun q hq => by
  cases hq
  show vk_R _ _ _ (b (19 + 1)) s
  rw [bt 19 (by decide)]
  exact tc_43 hts hs (had 19 (by decide)).1
theorem td_44 {s : State} {A : Array Value} {b : Nat → Nat} {ad : Nat → Nat × Nat} (hts : ∀ w ∈ lw_tbl, w.before A s = true) (hs : ∀ c ∈ flatC (Jvm.Cond.and given_1 narrow_1), c.before A s = true) (bt : ∀ i, i < 32 → b (i + 1) = (ad i).1) (had : ∀ i, i < 32 → tx_P (tx_t i) i A s (ad i)) : ∀ q, iv_sx[44]? = some q → vk_R q.1 q.2.1 q.2.2.1 (b (q.2.2.2 + 1)) s := fun q hq => by
  cases hq
  show vk_R _ _ _ (b (20 + 1)) s
  rw [bt 20 (by decide)]
  exact tc_44 hts hs (had 20 (by decide)).1
theorem td_45 {s : State} {A : Array Value} {b : Nat → Nat} {ad : Nat → Nat × Nat} (hts : ∀ w ∈ lw_tbl, w.before A s = true) (hs : ∀ c ∈ flatC (Jvm.Cond.and given_1 narrow_1), c.before A s = true) (bt : ∀ i, i < 32 → b (i + 1) = (ad i).1) (had : ∀ i, i < 32 → tx_P (tx_t i) i A s (ad i)) : ∀ q, iv_sx[45]? = some q → vk_R q.1 q.2.1 q.2.2.1 (b (q.2.2.2 + 1)) s := fun q hq => by
  cases hq
  show vk_R _ _ _ (b (6 + 1)) s
  rw [bt 6 (by decide)]
  exact tc_45 hts hs (had 6 (by decide)).1
theorem td_46 {s : State} {A : Array Value} {b : Nat → Nat} {ad : Nat → Nat × Nat} (hts : ∀ w ∈ lw_tbl, w.before A s = true) (hs : ∀ c ∈ flatC (Jvm.Cond.and given_1 narrow_1), c.before A s = true) (bt : ∀ i, i < 32 → b (i + 1) = (ad i).1) (had : ∀ i, i < 32 → tx_P (tx_t i) i A s (ad i)) : ∀ q, iv_sx[46]? = some q → vk_R q.1 q.2.1 q.2.2.1 (b (q.2.2.2 + 1)) s := fun q hq => by
  cases hq
  show vk_R _ _ _ (b (7 + 1)) s
  rw [bt 7 (by decide)]
  exact tc_46 hts hs (had 7 (by decide)).1
theorem td_47 {s : State} {A : Array Value} {b : Nat → Nat} {ad : Nat → Nat × Nat} (hts : ∀ w ∈ lw_tbl, w.before A s = true) (hs : ∀ c ∈ flatC (Jvm.Cond.and given_1 narrow_1), c.before A s = true) (bt : ∀ i, i < 32 → b (i + 1) = (ad i).1) (had : ∀ i, i < 32 → tx_P (tx_t i) i A s (ad i)) : ∀ q, iv_sx[47]? = some q → vk_R q.1 q.2.1 q.2.2.1 (b (q.2.2.2 + 1)) s := fun q hq => by
  cases hq
  show vk_R _ _ _ (b (8 + 1)) s
  rw [bt 8 (by decide)]
  exact tc_47 hts hs (had 8 (by decide)).1
theorem td_48 {s : State} {A : Array Value} {b : Nat → Nat} {ad : Nat → Nat × Nat} (hts : ∀ w ∈ lw_tbl, w.before A s = true) (hs : ∀ c ∈ flatC (Jvm.Cond.and given_1 narrow_1), c.before A s = true) (bt : ∀ i, i < 32 → b (i + 1) = (ad i).1) (had : ∀ i, i < 32 → tx_P (tx_t i) i A s (ad i)) : ∀ q, iv_sx[48]? = some q → vk_R q.1 q.2.1 q.2.2.1 (b (q.2.2.2 + 1)) s := fun q hq => by
  cases hq
  show vk_R _ _ _ (b (10 + 1)) s
  rw [bt 10 (by decide)]
  exact tc_48 hts hs (had 10 (by decide)).1
theorem td_49 {s : State} {A : Array Value} {b : Nat → Nat} {ad : Nat → Nat × Nat} (hts : ∀ w ∈ lw_tbl, w.before A s = true) (hs : ∀ c ∈ flatC (Jvm.Cond.and given_1 narrow_1), c.before A s = true) (bt : ∀ i, i < 32 → b (i + 1) = (ad i).1) (had : ∀ i, i < 32 → tx_P (tx_t i) i A s (ad i)) : ∀ q, iv_sx[49]? = some q → vk_R q.1 q.2.1 q.2.2.1 (b (q.2.2.2 + 1)) s := fun q hq => by
  cases hq
  show vk_R _ _ _ (b (9 + 1)) s
  rw [bt 9 (by decide)]
  exact tc_49 hts hs (had 9 (by decide)).1
theorem td_50 {s : State} {A : Array Value} {b : Nat → Nat} {ad : Nat → Nat × Nat} (hts : ∀ w ∈ lw_tbl, w.before A s = true) (hs : ∀ c ∈ flatC (Jvm.Cond.and given_1 narrow_1), c.before A s = true) (bt : ∀ i, i < 32 → b (i + 1) = (ad i).1) (had : ∀ i, i < 32 → tx_P (tx_t i) i A s (ad i)) : ∀ q, iv_sx[50]? = some q → vk_R q.1 q.2.1 q.2.2.1 (b (q.2.2.2 + 1)) s := fun q hq => by
  cases hq
  show vk_R _ _ _ (b (11 + 1)) s
  rw [bt 11 (by decide)]
  exact tc_50 hts hs (had 11 (by decide)).1
theorem td_51 {s : State} {A : Array Value} {b : Nat → Nat} {ad : Nat → Nat × Nat} (hts : ∀ w ∈ lw_tbl, w.before A s = true) (hs : ∀ c ∈ flatC (Jvm.Cond.and given_1 narrow_1), c.before A s = true) (bt : ∀ i, i < 32 → b (i + 1) = (ad i).1) (had : ∀ i, i < 32 → tx_P (tx_t i) i A s (ad i)) : ∀ q, iv_sx[51]? = some q → vk_R q.1 q.2.1 q.2.2.1 (b (q.2.2.2 + 1)) s := fun q hq => by
  cases hq
  show vk_R _ _ _ (b (12 + 1)) s
  rw [bt 12 (by decide)]
  exact tc_51 hts hs (had 12 (by decide)).1
theorem td_52 {s : State} {A : Array Value} {b : Nat → Nat} {ad : Nat → Nat × Nat} (hts : ∀ w ∈ lw_tbl, w.before A s = true) (hs : ∀ c ∈ flatC (Jvm.Cond.and given_1 narrow_1), c.before A s = true) (bt : ∀ i, i < 32 → b (i + 1) = (ad i).1) (had : ∀ i, i < 32 → tx_P (tx_t i) i A s (ad i)) : ∀ q, iv_sx[52]? = some q → vk_R q.1 q.2.1 q.2.2.1 (b (q.2.2.2 + 1)) s := fun q hq => by
  cases hq
  show vk_R _ _ _ (b (13 + 1)) s
  rw [bt 13 (by decide)]
  exact tc_52 hts hs (had 13 (by decide)).1
theorem td_53 {s : State} {A : Array Value} {b : Nat → Nat} {ad : Nat → Nat × Nat} (hts : ∀ w ∈ lw_tbl, w.before A s = true) (hs : ∀ c ∈ flatC (Jvm.Cond.and given_1 narrow_1), c.before A s = true) (bt : ∀ i, i < 32 → b (i + 1) = (ad i).1) (had : ∀ i, i < 32 → tx_P (tx_t i) i A s (ad i)) : ∀ q, iv_sx[53]? = some q → vk_R q.1 q.2.1 q.2.2.1 (b (q.2.2.2 + 1)) s := fun q hq => by
  cases hq
  show vk_R _ _ _ (b (14 + 1)) s
  rw [bt 14 (by decide)]
  exact tc_53 hts hs (had 14 (by decide)).1
theorem td_54 {s : State} {A : Array Value} {b : Nat → Nat} {ad : Nat → Nat × Nat} (hts : ∀ w ∈ lw_tbl, w.before A s = true) (hs : ∀ c ∈ flatC (Jvm.Cond.and given_1 narrow_1), c.before A s = true) (bt : ∀ i, i < 32 → b (i + 1) = (ad i).1) (had : ∀ i, i < 32 → tx_P (tx_t i) i A s (ad i)) : ∀ q, iv_sx[54]? = some q → vk_R q.1 q.2.1 q.2.2.1 (b (q.2.2.2 + 1)) s := fun q hq => by
  cases hq
  show vk_R _ _ _ (b (15 + 1)) s
  rw [bt 15 (by decide)]
  exact tc_54 hts hs (had 15 (by decide)).1
theorem td_55 {s : State} {A : Array Value} {b : Nat → Nat} {ad : Nat → Nat × Nat} (hts : ∀ w ∈ lw_tbl, w.before A s = true) (hs : ∀ c ∈ flatC (Jvm.Cond.and given_1 narrow_1), c.before A s = true) (bt : ∀ i, i < 32 → b (i + 1) = (ad i).1) (had : ∀ i, i < 32 → tx_P (tx_t i) i A s (ad i)) : ∀ q, iv_sx[55]? = some q → vk_R q.1 q.2.1 q.2.2.1 (b (q.2.2.2 + 1)) s := fun q hq => by
  cases hq
  show vk_R _ _ _ (b (16 + 1)) s
  rw [bt 16 (by decide)]
  exact tc_55 hts hs (had 16 (by decide)).1
theorem td_56 {s : State} {A : Array Value} {b : Nat → Nat} {ad : Nat → Nat × Nat} (hts : ∀ w ∈ lw_tbl, w.before A s = true) (hs : ∀ c ∈ flatC (Jvm.Cond.and given_1 narrow_1), c.before A s = true) (bt : ∀ i, i < 32 → b (i + 1) = (ad i).1) (had : ∀ i, i < 32 → tx_P (tx_t i) i A s (ad i)) : ∀ q, iv_sx[56]? = some q → vk_R q.1 q.2.1 q.2.2.1 (b (q.2.2.2 + 1)) s := fun q hq => by
  cases hq
  show vk_R _ _ _ (b (22 + 1)) s
  rw [bt 22 (by decide)]
  exact tc_56 hts hs (had 22 (by decide)).1
theorem td_57 {s : State} {A : Array Value} {b : Nat → Nat} {ad : Nat → Nat × Nat} (hts : ∀ w ∈ lw_tbl, w.before A s = true) (hs : ∀ c ∈ flatC (Jvm.Cond.and given_1 narrow_1), c.before A s = true) (bt : ∀ i, i < 32 → b (i + 1) = (ad i).1) (had : ∀ i, i < 32 → tx_P (tx_t i) i A s (ad i)) : ∀ q, iv_sx[57]? = some q → vk_R q.1 q.2.1 q.2.2.1 (b (q.2.2.2 + 1)) s := fun q hq => by
  cases hq
  show vk_R _ _ _ (b (21 + 1)) s
  rw [bt 21 (by decide)]
  exact tc_57 hts hs (had 21 (by decide)).1
theorem td_58 {s : State} {A : Array Value} {b : Nat → Nat} {ad : Nat → Nat × Nat} (hts : ∀ w ∈ lw_tbl, w.before A s = true) (hs : ∀ c ∈ flatC (Jvm.Cond.and given_1 narrow_1), c.before A s = true) (bt : ∀ i, i < 32 → b (i + 1) = (ad i).1) (had : ∀ i, i < 32 → tx_P (tx_t i) i A s (ad i)) : ∀ q, iv_sx[58]? = some q → vk_R q.1 q.2.1 q.2.2.1 (b (q.2.2.2 + 1)) s := fun q hq => by
  cases hq
  show vk_R _ _ _ (b (23 + 1)) s
  rw [bt 23 (by decide)]
  exact tc_58 hts hs (had 23 (by decide)).1
theorem td_59 {s : State} {A : Array Value} {b : Nat → Nat} {ad : Nat → Nat × Nat} (hts : ∀ w ∈ lw_tbl, w.before A s = true) (hs : ∀ c ∈ flatC (Jvm.Cond.and given_1 narrow_1), c.before A s = true) (bt : ∀ i, i < 32 → b (i + 1) = (ad i).1) (had : ∀ i, i < 32 → tx_P (tx_t i) i A s (ad i)) : ∀ q, iv_sx[59]? = some q → vk_R q.1 q.2.1 q.2.2.1 (b (q.2.2.2 + 1)) s := fun q hq => by
  cases hq
  show vk_R _ _ _ (b (24 + 1)) s
  rw [bt 24 (by decide)]
  exact tc_59 hts hs (had 24 (by decide)).1
theorem td_60 {s : State} {A : Array Value} {b : Nat → Nat} {ad : Nat → Nat × Nat} (hts : ∀ w ∈ lw_tbl, w.before A s = true) (hs : ∀ c ∈ flatC (Jvm.Cond.and given_1 narrow_1), c.before A s = true) (bt : ∀ i, i < 32 → b (i + 1) = (ad i).1) (had : ∀ i, i < 32 → tx_P (tx_t i) i A s (ad i)) : ∀ q, iv_sx[60]? = some q → vk_R q.1 q.2.1 q.2.2.1 (b (q.2.2.2 + 1)) s := fun q hq => by
  cases hq
  show vk_R _ _ _ (b (25 + 1)) s
  rw [bt 25 (by decide)]
  exact tc_60 hts hs (had 25 (by decide)).1
theorem td_61 {s : State} {A : Array Value} {b : Nat → Nat} {ad : Nat → Nat × Nat} (hts : ∀ w ∈ lw_tbl, w.before A s = true) (hs : ∀ c ∈ flatC (Jvm.Cond.and given_1 narrow_1), c.before A s = true) (bt : ∀ i, i < 32 → b (i + 1) = (ad i).1) (had : ∀ i, i < 32 → tx_P (tx_t i) i A s (ad i)) : ∀ q, iv_sx[61]? = some q → vk_R q.1 q.2.1 q.2.2.1 (b (q.2.2.2 + 1)) s := fun q hq => by
  cases hq
  show vk_R _ _ _ (b (26 + 1)) s
  rw [bt 26 (by decide)]
  exact tc_61 hts hs (had 26 (by decide)).1
theorem td_62 {s : State} {A : Array Value} {b : Nat → Nat} {ad : Nat → Nat × Nat} (hts : ∀ w ∈ lw_tbl, w.before A s = true) (hs : ∀ c ∈ flatC (Jvm.Cond.and given_1 narrow_1), c.before A s = true) (bt : ∀ i, i < 32 → b (i + 1) = (ad i).1) (had : ∀ i, i < 32 → tx_P (tx_t i) i A s (ad i)) : ∀ q, iv_sx[62]? = some q → vk_R q.1 q.2.1 q.2.2.1 (b (q.2.2.2 + 1)) s := fun q hq => by
  cases hq
  show vk_R _ _ _ (b (27 + 1)) s
  rw [bt 27 (by decide)]
  exact tc_62 hts hs (had 27 (by decide)).1
theorem td_63 {s : State} {A : Array Value} {b : Nat → Nat} {ad : Nat → Nat × Nat} (hts : ∀ w ∈ lw_tbl, w.before A s = true) (hs : ∀ c ∈ flatC (Jvm.Cond.and given_1 narrow_1), c.before A s = true) (bt : ∀ i, i < 32 → b (i + 1) = (ad i).1) (had : ∀ i, i < 32 → tx_P (tx_t i) i A s (ad i)) : ∀ q, iv_sx[63]? = some q → vk_R q.1 q.2.1 q.2.2.1 (b (q.2.2.2 + 1)) s := fun q hq => by
  cases hq
  show vk_R _ _ _ (b (28 + 1)) s
  rw [bt 28 (by decide)]
  exact tc_63 hts hs (had 28 (by decide)).1
theorem td_64 {s : State} {A : Array Value} {b : Nat → Nat} {ad : Nat → Nat × Nat} (hts : ∀ w ∈ lw_tbl, w.before A s = true) (hs : ∀ c ∈ flatC (Jvm.Cond.and given_1 narrow_1), c.before A s = true) (bt : ∀ i, i < 32 → b (i + 1) = (ad i).1) (had : ∀ i, i < 32 → tx_P (tx_t i) i A s (ad i)) : ∀ q, iv_sx[64]? = some q → vk_R q.1 q.2.1 q.2.2.1 (b (q.2.2.2 + 1)) s := fun q hq => by
  cases hq
  show vk_R _ _ _ (b (29 + 1)) s
  rw [bt 29 (by decide)]
  exact tc_64 hts hs (had 29 (by decide)).1
theorem td_65 {s : State} {A : Array Value} {b : Nat → Nat} {ad : Nat → Nat × Nat} (hts : ∀ w ∈ lw_tbl, w.before A s = true) (hs : ∀ c ∈ flatC (Jvm.Cond.and given_1 narrow_1), c.before A s = true) (bt : ∀ i, i < 32 → b (i + 1) = (ad i).1) (had : ∀ i, i < 32 → tx_P (tx_t i) i A s (ad i)) : ∀ q, iv_sx[65]? = some q → vk_R q.1 q.2.1 q.2.2.1 (b (q.2.2.2 + 1)) s := fun q hq => by
  cases hq
  show vk_R _ _ _ (b (30 + 1)) s
  rw [bt 30 (by decide)]
  exact tc_65 hts hs (had 30 (by decide)).1
theorem td_66 {s : State} {A : Array Value} {b : Nat → Nat} {ad : Nat → Nat × Nat} (hts : ∀ w ∈ lw_tbl, w.before A s = true) (hs : ∀ c ∈ flatC (Jvm.Cond.and given_1 narrow_1), c.before A s = true) (bt : ∀ i, i < 32 → b (i + 1) = (ad i).1) (had : ∀ i, i < 32 → tx_P (tx_t i) i A s (ad i)) : ∀ q, iv_sx[66]? = some q → vk_R q.1 q.2.1 q.2.2.1 (b (q.2.2.2 + 1)) s := fun q hq => by
  cases hq
  show vk_R _ _ _ (b (31 + 1)) s
  rw [bt 31 (by decide)]
  exact tc_66 hts hs (had 31 (by decide)).1
theorem te_0 {s : State} {A : Array Value} {b : Nat → Nat} {ad : Nat → Nat × Nat} (hts : ∀ w ∈ lw_tbl, w.before A s = true) (hs : ∀ c ∈ flatC (Jvm.Cond.and given_1 narrow_1), c.before A s = true) (bt : ∀ i, i < 32 → b (i + 1) = (ad i).1) (had : ∀ i, i < 32 → tx_P (tx_t i) i A s (ad i)) : ∀ k, k < 12 → ∀ q, iv_sx[k]? = some q → vk_R q.1 q.2.1 q.2.2.1 (b (q.2.2.2 + 1)) s := iv_lt (iv_lt (iv_lt (iv_lt (iv_lt (iv_lt (iv_lt (iv_lt (iv_lt (iv_lt (iv_lt (iv_lt (iv_lt0) (td_0 hts hs bt had)) (td_1 hts hs bt had)) (td_2 hts hs bt had)) (td_3 hts hs bt had)) (td_4 hts hs bt had)) (td_5 hts hs bt had)) (td_6 hts hs bt had)) (td_7 hts hs bt had)) (td_8 hts hs bt had)) (td_9 hts hs bt had)) (td_10 hts hs bt had)) (td_11 hts hs bt had)
theorem te_1 {s : State} {A : Array Value} {b : Nat → Nat} {ad : Nat → Nat × Nat} (hts : ∀ w ∈ lw_tbl, w.before A s = true) (hs : ∀ c ∈ flatC (Jvm.Cond.and given_1 narrow_1), c.before A s = true) (bt : ∀ i, i < 32 → b (i + 1) = (ad i).1) (had : ∀ i, i < 32 → tx_P (tx_t i) i A s (ad i)) : ∀ k, k < 24 → ∀ q, iv_sx[k]? = some q → vk_R q.1 q.2.1 q.2.2.1 (b (q.2.2.2 + 1)) s := iv_lt (iv_lt (iv_lt (iv_lt (iv_lt (iv_lt (iv_lt (iv_lt (iv_lt (iv_lt (iv_lt (iv_lt (te_0 hts hs bt had) (td_12 hts hs bt had)) (td_13 hts hs bt had)) (td_14 hts hs bt had)) (td_15 hts hs bt had)) (td_16 hts hs bt had)) (td_17 hts hs bt had)) (td_18 hts hs bt had)) (td_19 hts hs bt had)) (td_20 hts hs bt had)) (td_21 hts hs bt had)) (td_22 hts hs bt had)) (td_23 hts hs bt had)
theorem te_2 {s : State} {A : Array Value} {b : Nat → Nat} {ad : Nat → Nat × Nat} (hts : ∀ w ∈ lw_tbl, w.before A s = true) (hs : ∀ c ∈ flatC (Jvm.Cond.and given_1 narrow_1), c.before A s = true) (bt : ∀ i, i < 32 → b (i + 1) = (ad i).1) (had : ∀ i, i < 32 → tx_P (tx_t i) i A s (ad i)) : ∀ k, k < 36 → ∀ q, iv_sx[k]? = some q → vk_R q.1 q.2.1 q.2.2.1 (b (q.2.2.2 + 1)) s := iv_lt (iv_lt (iv_lt (iv_lt (iv_lt (iv_lt (iv_lt (iv_lt (iv_lt (iv_lt (iv_lt (iv_lt (te_1 hts hs bt had) (td_24 hts hs bt had)) (td_25 hts hs bt had)) (td_26 hts hs bt had)) (td_27 hts hs bt had)) (td_28 hts hs bt had)) (td_29 hts hs bt had)) (td_30 hts hs bt had)) (td_31 hts hs bt had)) (td_32 hts hs bt had)) (td_33 hts hs bt had)) (td_34 hts hs bt had)) (td_35 hts hs bt had)
theorem te_3 {s : State} {A : Array Value} {b : Nat → Nat} {ad : Nat → Nat × Nat} (hts : ∀ w ∈ lw_tbl, w.before A s = true) (hs : ∀ c ∈ flatC (Jvm.Cond.and given_1 narrow_1), c.before A s = true) (bt : ∀ i, i < 32 → b (i + 1) = (ad i).1) (had : ∀ i, i < 32 → tx_P (tx_t i) i A s (ad i)) : ∀ k, k < 48 → ∀ q, iv_sx[k]? = some q → vk_R q.1 q.2.1 q.2.2.1 (b (q.2.2.2 + 1)) s := iv_lt (iv_lt (iv_lt (iv_lt (iv_lt (iv_lt (iv_lt (iv_lt (iv_lt (iv_lt (iv_lt (iv_lt (te_2 hts hs bt had) (td_36 hts hs bt had)) (td_37 hts hs bt had)) (td_38 hts hs bt had)) (td_39 hts hs bt had)) (td_40 hts hs bt had)) (td_41 hts hs bt had)) (td_42 hts hs bt had)) (td_43 hts hs bt had)) (td_44 hts hs bt had)) (td_45 hts hs bt had)) (td_46 hts hs bt had)) (td_47 hts hs bt had)
theorem te_4 {s : State} {A : Array Value} {b : Nat → Nat} {ad : Nat → Nat × Nat} (hts : ∀ w ∈ lw_tbl, w.before A s = true) (hs : ∀ c ∈ flatC (Jvm.Cond.and given_1 narrow_1), c.before A s = true) (bt : ∀ i, i < 32 → b (i + 1) = (ad i).1) (had : ∀ i, i < 32 → tx_P (tx_t i) i A s (ad i)) : ∀ k, k < 60 → ∀ q, iv_sx[k]? = some q → vk_R q.1 q.2.1 q.2.2.1 (b (q.2.2.2 + 1)) s := iv_lt (iv_lt (iv_lt (iv_lt (iv_lt (iv_lt (iv_lt (iv_lt (iv_lt (iv_lt (iv_lt (iv_lt (te_3 hts hs bt had) (td_48 hts hs bt had)) (td_49 hts hs bt had)) (td_50 hts hs bt had)) (td_51 hts hs bt had)) (td_52 hts hs bt had)) (td_53 hts hs bt had)) (td_54 hts hs bt had)) (td_55 hts hs bt had)) (td_56 hts hs bt had)) (td_57 hts hs bt had)) (td_58 hts hs bt had)) (td_59 hts hs bt had)
theorem te_5 {s : State} {A : Array Value} {b : Nat → Nat} {ad : Nat → Nat × Nat} (hts : ∀ w ∈ lw_tbl, w.before A s = true) (hs : ∀ c ∈ flatC (Jvm.Cond.and given_1 narrow_1), c.before A s = true) (bt : ∀ i, i < 32 → b (i + 1) = (ad i).1) (had : ∀ i, i < 32 → tx_P (tx_t i) i A s (ad i)) : ∀ k, k < 67 → ∀ q, iv_sx[k]? = some q → vk_R q.1 q.2.1 q.2.2.1 (b (q.2.2.2 + 1)) s := iv_lt (iv_lt (iv_lt (iv_lt (iv_lt (iv_lt (iv_lt (te_4 hts hs bt had) (td_60 hts hs bt had)) (td_61 hts hs bt had)) (td_62 hts hs bt had)) (td_63 hts hs bt had)) (td_64 hts hs bt had)) (td_65 hts hs bt had)) (td_66 hts hs bt had)
theorem lw_E {s : State} {bs L : Nat} {xs : Nat → Int32} {sc : Nat × Nat} (hts : ∀ w ∈ lw_tbl, w.before #[Value.ref bs] s = true) (hgv : (Jvm.Cond.and given_1 narrow_1).before #[Value.ref bs] s = true) (hX : va_X bs L xs s s.heap) (hb : bs < s.heap.size) (hsc : sc.1 = L) (hrel : ∀ b j, j < L → iv_rel b (fun _ => none) (iv_gt sc.2 j) (.int (xs j))) : ∃ (b : Nat → Nat) (D : va_G) (cI cB cJ : ClassId), b 0 = bs ∧ iv_E D cI cB cJ sc b (va_A [] s.heap.size) s := by
  have hs := flat_of_before _ hgv
  have hk := lw_known hts
  obtain ⟨cI, kI, pI, i1, i2, i3⟩ := Cond.arrayClass_spec (hts (Cond.arrayClass .int) (tb_1 (List.mem_of_getElem? (i := 55) rfl)))
  obtain ⟨cB, kB, pB, b1, b2, b3⟩ := Cond.arrayClass_spec (hts (Cond.arrayClass .byte) (tb_4 (List.mem_of_getElem? (i := 202) rfl)))
  obtain ⟨cJ, kJ, pJ, j1, j2, j3⟩ := Cond.arrayClass_spec (hts (Cond.arrayClass .long) (tb_9 (List.mem_of_getElem? (i := 104) rfl)))
  have hA : ∀ a : Nat, a < s.heap.size → ¬ va_A [] s.heap.size a := fun a ha z => by
    rcases z with ⟨k, e, z⟩ | z
    · cases z
    · omega
  have hch : ∀ i : Nat, ∃ q : Nat × Nat, i < 32 → tx_P (tx_t i) i #[Value.ref bs] s q := fun i => by
    by_cases hi : i < 32
    · obtain ⟨q, hq⟩ := tx_all hs hA i hi
      exact ⟨q, fun _ => hq⟩
    · exact ⟨(0, 0), fun h => absurd h hi⟩
  obtain ⟨ad, had⟩ : ∃ ad : Nat → Nat × Nat, ∀ i, i < 32 → tx_P (tx_t i) i #[Value.ref bs] s (ad i) := ⟨fun i => (hch i).choose, fun i => (hch i).choose_spec⟩
  obtain ⟨z, hz⟩ : ∃ z : Nat, va_Z "jdk/internal/util/Preconditions" "SIOOBE_FORMATTER" "Ljava/util/function/BiFunction;" .null (va_A [] s.heap.size) s s.heap ∨ va_Z "jdk/internal/util/Preconditions" "SIOOBE_FORMATTER" "Ljava/util/function/BiFunction;" (.ref z) (va_A [] s.heap.size) s s.heap := by
    rcases va_Zqof (A := va_A [] s.heap.size) (hts _ (tb_4 (List.mem_of_getElem? (i := 10) rfl))) (hts _ (tb_1 (List.mem_of_getElem? (i := 18) rfl))) (hs (.isRef (.static "jdk/internal/util/Preconditions" "SIOOBE_FORMATTER" "Ljava/util/function/BiFunction;")) (by decide +kernel)) hA with h | ⟨t, h⟩
    · exact ⟨0, Or.inl h⟩
    · exact ⟨t, Or.inr h⟩
  obtain ⟨b, eb⟩ : ∃ b : Nat → Nat, b = fun k => if k = 0 then bs else if k ≤ 32 then (ad (k - 1)).1 else if k = 127 then z else (ad (k - 64)).2 := ⟨_, rfl⟩
  have b0 : b 0 = bs := by rw [eb]; rfl
  have bt : ∀ i, i < 32 → b (i + 1) = (ad i).1 := fun i hi => by
    rw [eb]
    show (if i + 1 = 0 then bs else if i + 1 ≤ 32 then (ad (i + 1 - 1)).1 else _) = _
    rw [if_neg (by omega), if_pos (by omega), Nat.add_sub_cancel]
  have bv : ∀ i, i < 32 → b (64 + i) = (ad i).2 := fun i hi => by
    rw [eb]
    show (if 64 + i = 0 then bs else if 64 + i ≤ 32 then (ad (64 + i - 1)).1 else if 64 + i = 127 then z else (ad (64 + i - 64)).2) = _
    rw [if_neg (by omega), if_neg (by omega), if_neg (by omega), Nat.add_sub_cancel_left]
  have bz : b 127 = z := by rw [eb]; rfl
  have hST : iv_ST b (va_A [] s.heap.size) s := by
    refine ⟨(fun q hq => by
      obtain ⟨k, hk⟩ := List.getElem?_of_mem hq
      have h9 := (List.getElem?_eq_some_iff.mp hk).1
      rw [show iv_sx.length = 67 by decide] at h9
      exact te_5 hts hs bt had k h9 q hk), fun i hi => ?_, va_Zof (hts _ (tb_3 (List.mem_of_getElem? (i := 234) rfl))) (hts _ (tb_1 (List.mem_of_getElem? (i := 16) rfl))) (va_eqi (hs (.eq (.static "java/lang/String" "COMPACT_STRINGS" "Z") (.int 1)) (by decide +kernel))) hA, by rw [bz]; exact hz⟩
    have hi : i < 32 := hi
    obtain ⟨-, g1, g2, g3, g4⟩ := had i hi
    rw [bt i hi, bv i hi]
    exact ⟨g1, g2, g3, g4⟩
  refine ⟨b, (fun c => (hk c).choose, fun c => (hk c).choose_spec.choose), cI, cB, cJ, b0, ⟨fun c q hq => (hk c).choose_spec.choose_spec q hq, fun k q hq => ?_⟩, fun w hw hn => ls_nk hn (hts w hw), ls_str hts hs, ls_nc hs, vx_Zqof (hts _ (tb_4 (List.mem_of_getElem? (i := 160) rfl))) (hts _ (tb_1 (List.mem_of_getElem? (i := 20) rfl))) (hs _ (by decide +kernel)) hA, vx_Zqof (hts _ (tb_4 (List.mem_of_getElem? (i := 162) rfl))) (hts _ (tb_1 (List.mem_of_getElem? (i := 20) rfl))) (hs _ (by decide +kernel)) hA, Or.inr ⟨xs, by rw [hsc, b0]; exact hX, by rw [b0]; exact hb, by rw [b0]; exact hA bs hb, by rw [hsc]; exact hrel b⟩, hST⟩
  match k, hq with
  | 0, hq => cases hq; exact ⟨fun n z => ⟨fun k h => (by cases h), kI, i2, pI, i3⟩, i1⟩
  | 1, hq => cases hq; exact ⟨fun n z => ⟨fun k h => (by cases h), kB, b2, pB, b3⟩, b1⟩
  | 2, hq => cases hq; exact ⟨fun n z => ⟨fun k h => (by cases h), kJ, j2, pJ, j3⟩, j1⟩
  | n + 3, hq => cases hq
