/-! ===== the law's entry ===== -/
theorem lw_known {s : State} {A : Array Value} (hts : ∀ w ∈ lw_tbl, w.before A s = true) : ∀ (c : Nat), ∃ (cC : ClassId) (iS : Nat → Nat), ∀ (q : vw_C), vwCl[c]? = some q → u_Kn s q.1 q.2.1 q.2.2 cC iS
  | 0 => by
    obtain ⟨cC, iS, h⟩ := u_known (ws := iv_T) (fun w hw => hts w (List.mem_filter.mp hw).1) cw_0 (n := 2) (hts _ (tb_1 (List.mem_of_getElem? (i := 229) rfl)))
    exact ⟨cC, iS, fun q hq => by cases hq; exact h⟩
  | 1 => by
    obtain ⟨cC, iS, h⟩ := u_known (ws := iv_T) (fun w hw => hts w (List.mem_filter.mp hw).1) cw_1 (n := 14) (hts _ (tb_1 (List.mem_of_getElem? (i := 171) rfl)))
    exact ⟨cC, iS, fun q hq => by cases hq; exact h⟩
  | 2 => by
    obtain ⟨cC, iS, h⟩ := u_known (ws := iv_T) (fun w hw => hts w (List.mem_filter.mp hw).1) cw_2 (n := 5) (hts _ (tb_1 (List.mem_of_getElem? (i := 86) rfl)))
    exact ⟨cC, iS, fun q hq => by cases hq; exact h⟩
  | 3 => by
    obtain ⟨cC, iS, h⟩ := u_known (ws := iv_T) (fun w hw => hts w (List.mem_filter.mp hw).1) cw_3 (n := 2) (hts _ (tb_2 (List.mem_of_getElem? (i := 17) rfl)))
    exact ⟨cC, iS, fun q hq => by cases hq; exact h⟩
  | 4 => by
    obtain ⟨cC, iS, h⟩ := u_known (ws := iv_T) (fun w hw => hts w (List.mem_filter.mp hw).1) cw_4 (n := 18) (hts _ (tb_2 (List.mem_of_getElem? (i := 30) rfl)))
    exact ⟨cC, iS, fun q hq => by cases hq; exact h⟩
  | 5 => by
    obtain ⟨cC, iS, h⟩ := u_known (ws := iv_T) (fun w hw => hts w (List.mem_filter.mp hw).1) cw_5 (n := 19) (hts _ (tb_2 (List.mem_of_getElem? (i := 118) rfl)))
    exact ⟨cC, iS, fun q hq => by cases hq; exact h⟩
  | 6 => by
    obtain ⟨cC, iS, h⟩ := u_known (ws := iv_T) (fun w hw => hts w (List.mem_filter.mp hw).1) cw_6 (n := 3) (hts _ (tb_1 (List.mem_of_getElem? (i := 63) rfl)))
    exact ⟨cC, iS, fun q hq => by cases hq; exact h⟩
  | 7 => by
    obtain ⟨cC, iS, h⟩ := u_known (ws := iv_T) (fun w hw => hts w (List.mem_filter.mp hw).1) cw_7 (n := 3) (hts _ (tb_1 (List.mem_of_getElem? (i := 38) rfl)))
    exact ⟨cC, iS, fun q hq => by cases hq; exact h⟩
  | 8 => by
    obtain ⟨cC, iS, h⟩ := u_known (ws := iv_T) (fun w hw => hts w (List.mem_filter.mp hw).1) cw_8 (n := 10) (hts _ (tb_1 (List.mem_of_getElem? (i := 57) rfl)))
    exact ⟨cC, iS, fun q hq => by cases hq; exact h⟩
  | 9 => by
    obtain ⟨cC, iS, h⟩ := u_known (ws := iv_T) (fun w hw => hts w (List.mem_filter.mp hw).1) cw_9 (n := 2) (hts _ (tb_2 (List.mem_of_getElem? (i := 4) rfl)))
    exact ⟨cC, iS, fun q hq => by cases hq; exact h⟩
  | 10 => by
    obtain ⟨cC, iS, h⟩ := u_known (ws := iv_T) (fun w hw => hts w (List.mem_filter.mp hw).1) cw_10 (n := 12) (hts _ (tb_1 (List.mem_of_getElem? (i := 30) rfl)))
    exact ⟨cC, iS, fun q hq => by cases hq; exact h⟩
  | 11 => by
    obtain ⟨cC, iS, h⟩ := u_known (ws := iv_T) (fun w hw => hts w (List.mem_filter.mp hw).1) cw_11 (n := 36) (hts _ (tb_6 (List.mem_of_getElem? (i := 220) rfl)))
    exact ⟨cC, iS, fun q hq => by cases hq; exact h⟩
  | n + 12 => ⟨0, fun _ => 0, fun q hq => by
    have e : vwCl[n + 12]? = none := rfl
    rw [e] at hq
    cases hq⟩
theorem ls_s114 {s : State} {A : Array Value} (hts : ∀ w ∈ lw_tbl, w.before A s = true) (hs : ∀ c ∈ flatC (Jvm.Cond.and given_1 narrow_1), c.before A s = true) : ∃ a, vk_R "LentNames" 114 "the text of the town is wrong" a s := by
  obtain ⟨a, _, _, _, ev, -⟩ := Cond.exactly_spec (hs (Cond.exactly (Term.string "LentNames" 114) "java/lang/String") (by decide +kernel))
  exact ⟨a, vk_R.of (hts _ (tb_4 (List.mem_of_getElem? (i := 176) rfl))) ev⟩
theorem ls_s124 {s : State} {A : Array Value} (hts : ∀ w ∈ lw_tbl, w.before A s = true) (hs : ∀ c ∈ flatC (Jvm.Cond.and given_1 narrow_1), c.before A s = true) : ∃ a, vk_R "LentNames" 124 "there are ten texts" a s := by
  obtain ⟨a, _, _, _, ev, -⟩ := Cond.exactly_spec (hs (Cond.exactly (Term.string "LentNames" 124) "java/lang/String") (by decide +kernel))
  exact ⟨a, vk_R.of (hts _ (tb_4 (List.mem_of_getElem? (i := 212) rfl))) ev⟩
theorem ls_s140 {s : State} {A : Array Value} (hts : ∀ w ∈ lw_tbl, w.before A s = true) (hs : ∀ c ∈ flatC (Jvm.Cond.and given_1 narrow_1), c.before A s = true) : ∃ a, vk_R "LentNames" 140 "there cannot be so many bodies" a s := by
  obtain ⟨a, _, _, _, ev, -⟩ := Cond.exactly_spec (hs (Cond.exactly (Term.string "LentNames" 140) "java/lang/String") (by decide +kernel))
  exact ⟨a, vk_R.of (hts _ (tb_4 (List.mem_of_getElem? (i := 231) rfl))) ev⟩
theorem ls_s144 {s : State} {A : Array Value} (hts : ∀ w ∈ lw_tbl, w.before A s = true) (hs : ∀ c ∈ flatC (Jvm.Cond.and given_1 narrow_1), c.before A s = true) : ∃ a, vk_R "LentNames" 144 "texts were told" a s := by
  obtain ⟨a, _, _, _, ev, -⟩ := Cond.exactly_spec (hs (Cond.exactly (Term.string "LentNames" 144) "java/lang/String") (by decide +kernel))
  exact ⟨a, vk_R.of (hts _ (tb_5 (List.mem_of_getElem? (i := 1) rfl))) ev⟩
theorem ls_s330 {s : State} {A : Array Value} (hts : ∀ w ∈ lw_tbl, w.before A s = true) (hs : ∀ c ∈ flatC (Jvm.Cond.and given_1 narrow_1), c.before A s = true) : ∃ a, vk_R "LentNames" 330 "there is no such name" a s := by
  obtain ⟨a, _, _, _, ev, -⟩ := Cond.exactly_spec (hs (Cond.exactly (Term.string "LentNames" 330) "java/lang/String") (by decide +kernel))
  exact ⟨a, vk_R.of (hts _ (tb_5 (List.mem_of_getElem? (i := 29) rfl))) ev⟩
theorem ls_s335 {s : State} {A : Array Value} (hts : ∀ w ∈ lw_tbl, w.before A s = true) (hs : ∀ c ∈ flatC (Jvm.Cond.and given_1 narrow_1), c.before A s = true) : ∃ a, vk_R "LentNames" 335 "there is no such day" a s := by
  obtain ⟨a, _, _, _, ev, -⟩ := Cond.exactly_spec (hs (Cond.exactly (Term.string "LentNames" 335) "java/lang/String") (by decide +kernel))
  exact ⟨a, vk_R.of (hts _ (tb_5 (List.mem_of_getElem? (i := 39) rfl))) ev⟩
theorem ls_s333 {s : State} {A : Array Value} (hts : ∀ w ∈ lw_tbl, w.before A s = true) (hs : ∀ c ∈ flatC (Jvm.Cond.and given_1 narrow_1), c.before A s = true) : ∃ a, vk_R "LentNames" 333 "there is no such body" a s := by
  obtain ⟨a, _, _, _, ev, -⟩ := Cond.exactly_spec (hs (Cond.exactly (Term.string "LentNames" 333) "java/lang/String") (by decide +kernel))
  exact ⟨a, vk_R.of (hts _ (tb_5 (List.mem_of_getElem? (i := 51) rfl))) ev⟩
theorem ls_s337 {s : State} {A : Array Value} (hts : ∀ w ∈ lw_tbl, w.before A s = true) (hs : ∀ c ∈ flatC (Jvm.Cond.and given_1 narrow_1), c.before A s = true) : ∃ a, vk_R "LentNames" 337 "nothing of that number was told" a s := by
  obtain ⟨a, _, _, _, ev, -⟩ := Cond.exactly_spec (hs (Cond.exactly (Term.string "LentNames" 337) "java/lang/String") (by decide +kernel))
  exact ⟨a, vk_R.of (hts _ (tb_5 (List.mem_of_getElem? (i := 118) rfl))) ev⟩
theorem ls_s229 {s : State} {A : Array Value} (hts : ∀ w ∈ lw_tbl, w.before A s = true) (hs : ∀ c ∈ flatC (Jvm.Cond.and given_1 narrow_1), c.before A s = true) : ∃ a, vk_R "LentNames" 229 "a loan has no such number" a s := by
  obtain ⟨a, _, _, _, ev, -⟩ := Cond.exactly_spec (hs (Cond.exactly (Term.string "LentNames" 229) "java/lang/String") (by decide +kernel))
  exact ⟨a, vk_R.of (hts _ (tb_5 (List.mem_of_getElem? (i := 129) rfl))) ev⟩
theorem ls_s238 {s : State} {A : Array Value} (hts : ∀ w ∈ lw_tbl, w.before A s = true) (hs : ∀ c ∈ flatC (Jvm.Cond.and given_1 narrow_1), c.before A s = true) : ∃ a, vk_R "LentNames" 238 "a letter has no such number" a s := by
  obtain ⟨a, _, _, _, ev, -⟩ := Cond.exactly_spec (hs (Cond.exactly (Term.string "LentNames" 238) "java/lang/String") (by decide +kernel))
  exact ⟨a, vk_R.of (hts _ (tb_5 (List.mem_of_getElem? (i := 150) rfl))) ev⟩
theorem ls_s133 {s : State} {A : Array Value} (hts : ∀ w ∈ lw_tbl, w.before A s = true) (hs : ∀ c ∈ flatC (Jvm.Cond.and given_1 narrow_1), c.before A s = true) : ∃ a, vk_R "LentNames" 133 "the text of the custom is wrong" a s := by
  obtain ⟨a, _, _, _, ev, -⟩ := Cond.exactly_spec (hs (Cond.exactly (Term.string "LentNames" 133) "java/lang/String") (by decide +kernel))
  exact ⟨a, vk_R.of (hts _ (tb_6 (List.mem_of_getElem? (i := 0) rfl))) ev⟩
theorem ls_s269 {s : State} {A : Array Value} (hts : ∀ w ∈ lw_tbl, w.before A s = true) (hs : ∀ c ∈ flatC (Jvm.Cond.and given_1 narrow_1), c.before A s = true) : ∃ a, vk_R "LentNames" 269 "no purse holds that" a s := by
  obtain ⟨a, _, _, _, ev, -⟩ := Cond.exactly_spec (hs (Cond.exactly (Term.string "LentNames" 269) "java/lang/String") (by decide +kernel))
  exact ⟨a, vk_R.of (hts _ (tb_6 (List.mem_of_getElem? (i := 8) rfl))) ev⟩
theorem ls_s250 {s : State} {A : Array Value} (hts : ∀ w ∈ lw_tbl, w.before A s = true) (hs : ∀ c ∈ flatC (Jvm.Cond.and given_1 narrow_1), c.before A s = true) : ∃ a, vk_R "LentNames" 250 "the bound is none" a s := by
  obtain ⟨a, _, _, _, ev, -⟩ := Cond.exactly_spec (hs (Cond.exactly (Term.string "LentNames" 250) "java/lang/String") (by decide +kernel))
  exact ⟨a, vk_R.of (hts _ (tb_6 (List.mem_of_getElem? (i := 46) rfl))) ev⟩
theorem ls_s252 {s : State} {A : Array Value} (hts : ∀ w ∈ lw_tbl, w.before A s = true) (hs : ∀ c ∈ flatC (Jvm.Cond.and given_1 narrow_1), c.before A s = true) : ∃ a, vk_R "LentNames" 252 "k is below NONE" a s := by
  obtain ⟨a, _, _, _, ev, -⟩ := Cond.exactly_spec (hs (Cond.exactly (Term.string "LentNames" 252) "java/lang/String") (by decide +kernel))
  exact ⟨a, vk_R.of (hts _ (tb_6 (List.mem_of_getElem? (i := 47) rfl))) ev⟩
theorem ls_s291 {s : State} {A : Array Value} (hts : ∀ w ∈ lw_tbl, w.before A s = true) (hs : ∀ c ∈ flatC (Jvm.Cond.and given_1 narrow_1), c.before A s = true) : ∃ a, vk_R "LentNames" 291 "what is below -2" a s := by
  obtain ⟨a, _, _, _, ev, -⟩ := Cond.exactly_spec (hs (Cond.exactly (Term.string "LentNames" 291) "java/lang/String") (by decide +kernel))
  exact ⟨a, vk_R.of (hts _ (tb_6 (List.mem_of_getElem? (i := 178) rfl))) ev⟩
theorem ls_str {s : State} {A : Array Value} (hts : ∀ w ∈ lw_tbl, w.before A s = true) (hs : ∀ c ∈ flatC (Jvm.Cond.and given_1 narrow_1), c.before A s = true) : ∀ q ∈ iv_str, ∃ a, vk_R q.1 q.2.1 q.2.2 a s := List.forall_mem_cons.mpr ⟨ls_s114 hts hs, List.forall_mem_cons.mpr ⟨ls_s124 hts hs, List.forall_mem_cons.mpr ⟨ls_s140 hts hs, List.forall_mem_cons.mpr ⟨ls_s144 hts hs, List.forall_mem_cons.mpr ⟨ls_s330 hts hs, List.forall_mem_cons.mpr ⟨ls_s335 hts hs, List.forall_mem_cons.mpr ⟨ls_s333 hts hs, List.forall_mem_cons.mpr ⟨ls_s337 hts hs, List.forall_mem_cons.mpr ⟨ls_s229 hts hs, List.forall_mem_cons.mpr ⟨ls_s238 hts hs, List.forall_mem_cons.mpr ⟨ls_s133 hts hs, List.forall_mem_cons.mpr ⟨ls_s269 hts hs, List.forall_mem_cons.mpr ⟨ls_s250 hts hs, List.forall_mem_cons.mpr ⟨ls_s252 hts hs, List.forall_mem_cons.mpr ⟨ls_s291 hts hs, fun q hq => nomatch hq⟩⟩⟩⟩⟩⟩⟩⟩⟩⟩⟩⟩⟩⟩⟩
theorem ls_nc {s : State} {A : Array Value} (hs : ∀ c ∈ flatC (Jvm.Cond.and given_1 narrow_1), c.before A s = true) : ∀ q ∈ iv_nc, va_Nc q.1 q.2 s := List.forall_mem_cons.mpr ⟨va_Nc.of (hs (Cond.not (.castable "java/lang/IllegalArgumentException" "java/lang/IndexOutOfBoundsException")) (by decide +kernel)), List.forall_mem_cons.mpr ⟨va_Nc.of (hs (Cond.not (.castable "java/lang/IllegalStateException" "java/lang/IllegalArgumentException")) (by decide +kernel)), List.forall_mem_cons.mpr ⟨va_Nc.of (hs (Cond.not (.castable "java/lang/UnsupportedOperationException" "java/lang/IllegalArgumentException")) (by decide +kernel)), List.forall_mem_cons.mpr ⟨va_Nc.of (hs (Cond.not (.castable "java/util/NoSuchElementException" "java/lang/IndexOutOfBoundsException")) (by decide +kernel)), fun q hq => nomatch hq⟩⟩⟩⟩
theorem ls_nk {s : State} {A : Array Value} {w : Cond} (hk : iv_nk w = true) (h : w.before A s = true) : va_Nw w s := by
  cases w with
  | methodLinkNest a i x h' => exact va_tabs rfl rfl h
  | declares x => exact va_tabs rfl rfl h
  | castable C T => exact va_tabs rfl rfl h
  | privateMethod x => exact va_tabs rfl rfl h
  | _ => cases hk
theorem lw_E {s : State} {b L : Nat} {xs : Nat → Int32} {sc : Nat × Nat} (hts : ∀ w ∈ lw_tbl, w.before #[Value.ref b] s = true) (hgv : (Jvm.Cond.and given_1 narrow_1).before #[Value.ref b] s = true) (hX : va_X b L xs s s.heap) (hb : b < s.heap.size) (hsc : sc.1 = L) (hrel : ∀ j, j < L → iv_rel b (fun _ => none) (iv_gt sc.2 j) (.int (xs j))) : ∃ (D : va_G) (cI cB cJ : ClassId), iv_E D cI cB cJ sc b (va_A [] s.heap.size) s := by
  have hs := flat_of_before _ hgv
  have hk := lw_known hts
  obtain ⟨cI, kI, pI, i1, i2, i3⟩ := Cond.arrayClass_spec (hts (Cond.arrayClass .int) (tb_1 (List.mem_of_getElem? (i := 55) rfl)))
  obtain ⟨cB, kB, pB, b1, b2, b3⟩ := Cond.arrayClass_spec (hts (Cond.arrayClass .byte) (tb_4 (List.mem_of_getElem? (i := 202) rfl)))
  obtain ⟨cJ, kJ, pJ, j1, j2, j3⟩ := Cond.arrayClass_spec (hts (Cond.arrayClass .long) (tb_9 (List.mem_of_getElem? (i := 108) rfl)))
  have hA : ∀ a : Nat, a < s.heap.size → ¬ va_A [] s.heap.size a := fun a ha z => by
    rcases z with ⟨k, e, z⟩ | z
    · cases z
    · omega
  refine ⟨(fun c => (hk c).choose, fun c => (hk c).choose_spec.choose), cI, cB, cJ, ⟨fun c q hq => (hk c).choose_spec.choose_spec q hq, fun k q hq => ?_⟩, fun w hw hn => ls_nk hn (hts w hw), ls_str hts hs, ls_nc hs, vx_Zqof (hts _ (tb_4 (List.mem_of_getElem? (i := 160) rfl))) (hts _ (tb_1 (List.mem_of_getElem? (i := 20) rfl))) (hs _ (by decide +kernel)) hA, vx_Zqof (hts _ (tb_4 (List.mem_of_getElem? (i := 162) rfl))) (hts _ (tb_1 (List.mem_of_getElem? (i := 20) rfl))) (hs _ (by decide +kernel)) hA, Or.inr ⟨xs, by rw [hsc]; exact hX, hb, hA b hb, by rw [hsc]; exact hrel⟩⟩
  match k, hq with
  | 0, hq => cases hq; exact ⟨fun n z => ⟨fun k h => (by cases h), kI, i2, pI, i3⟩, i1⟩
  | 1, hq => cases hq; exact ⟨fun n z => ⟨fun k h => (by cases h), kB, b2, pB, b3⟩, b1⟩
  | 2, hq => cases hq; exact ⟨fun n z => ⟨fun k h => (by cases h), kJ, j2, pJ, j3⟩, j1⟩
  | n + 3, hq => cases hq
