/-! ===== contracts in the interpreter's words ===== -/
/-- what a method may rest on beside its words: the tables, texts, statics; the script, where there is one -/
def iv_E (D : va_G) (cI cB cJ : ClassId) (sc : Nat × Nat) (b : Nat → Nat) (A : Nat → Prop) (U : State) : Prop :=
  va_K D vwCl [(cI, .int), (cB, .byte), (cJ, .long)] U ∧ (∀ w ∈ lw_tbl, iv_nk w = true → va_Nw w U) ∧ (∀ q ∈ iv_str, ∃ a, vk_R q.1 q.2.1 q.2.2 a U) ∧ (∀ q ∈ iv_nc, va_Nc q.1 q.2 U) ∧
  vx_Zq Bundle.tN "UNASSIGNED_STACK" Bundle.steD A U U.heap ∧ vx_Zq Bundle.tN "SUPPRESSED_SENTINEL" Bundle.listD A U U.heap ∧
  ((sc.1 + sc.2 = 0 ∨ ∃ xs : Nat → Int32, va_X (b 0) sc.1 xs U U.heap ∧ b 0 < U.heap.size ∧ ¬ A (b 0) ∧ ∀ j, j < sc.1 → iv_rel b (fun _ => none) (iv_gt sc.2 j) (.int (xs j))) ∧ iv_ST b A U)
theorem iv_nk_warm {w : Cond} {s U : State} (hk : iv_nk w = true) (hW : s.WarmedH U.vm) (h : va_Nw w s) : va_Nw w U := by
  cases w with
  | methodLinkNest a i x h' => exact va_Nw.warmM hW h
  | declares x => exact va_Nw.warmD hW h
  | castable C T => exact va_Nw.warmC hW h
  | privateMethod x => exact va_tabs rfl (rfl : (s.setVm U.vm).vm = U.vm) (by rw [Cond.privateMethod_setVm hW.alike]; exact h)
  | _ => cases hk
theorem iv_E_moved {D : va_G} {cI cB cJ : ClassId} {sc : Nat × Nat} {b : Nat → Nat} {A A' : Nat → Prop} {s U : State} (h : iv_E D cI cB cJ sc b A s) (hW : s.WarmedH U.vm) (hz : s.heap.size ≤ U.heap.size) (hq : ∀ a : Nat, a < s.heap.size → ¬ A a → U.heap[a]? = s.heap[a]?) (hA : ∀ q, A' q → A q) : iv_E D cI cB cJ sc b A' U := by
  obtain ⟨h1, h2, h3, h4, h5, h6, h7, h8⟩ := h
  refine ⟨va_K.moved hW.alike h1, fun w hw hk => iv_nk_warm hk hW (h2 w hw hk), fun q hm => ?_, fun q hm => va_Nc.moved hW.alike (h4 q hm), (vx_Zq.moved hW.alike (h5.kept hq)).narrow hA, (vx_Zq.moved hW.alike (h6.kept hq)).narrow hA, ?_, iv_ST_moved h8 hW hq hA⟩
  · obtain ⟨a, ha⟩ := h3 q hm
    exact ⟨a, ha.warm hW⟩
  · rcases h7 with h7 | ⟨xs, g1, g2, g3, g4⟩
    · exact Or.inl h7
    · exact Or.inr ⟨xs, va_X.moved hW.alike (g1.kept (hq (b 0) g2 g3)), Nat.lt_of_lt_of_le g2 hz, fun z => g3 (hA _ z), g4⟩
/-- an answer -/
def iv_ret (b : Nat → Nat) (ws : va_W) (r : Nat) (v : Option Value) : Prop := (r < 147573952589676412928 ∧ ∃ V, v = some V ∧ iv_rel b (iv_al ws) r V) ∨ (r = 147573952589676412928 ∧ v = none)
/-- the world at a method's end -/
def iv_Z (D : va_G) (cI cB cJ : ClassId) (b : Nat → Nat) (ws0 : va_W) (L : iv_H) (ws : va_W) (st t : State) : Prop := iv_W b cI cB cJ L ws ∧ iv_ext ws0 ws ∧ va_P D vwCl ws t.heap ∧ va_D (va_A ws0 st.heap.size) ws ∧ va_F (va_A ws0 st.heap.size) st t
def iv_Qc (D : va_G) (cI cB cJ : ClassId) (b : Nat → Nat) (ws0 : va_W) (out : Nat × iv_H) : Array Value → State → Outcome → State → Prop := fun _ st o t =>
  ∃ (v : Option Value) (ws : va_W), o = .returned v ∧ iv_ret b ws out.1 v ∧ iv_Z D cI cB cJ b ws0 out.2 ws st t
def iv_XC (D : va_G) (cI cB cJ : ClassId) (b : Nat → Nat) (ws0 : va_W) (out : Nat × iv_H) : String → State → State → Prop := fun E st t =>
  147573952589676412928 < out.1 ∧ E = pm_e (out.1 - 166020696663385964544) ∧ ∃ ws : va_W, iv_Z D cI cB cJ b ws0 out.2 ws st t
/-- the fixed things of a method's body -/
def iv_Cx (sc : Nat × Nat) (mi d : Nat) (p : Program) (l : Launch) (R : Room) (s : State) (m : MethodId) (args : Array Value) (meth : Method) (c : Code) (D : va_G) (cI cB cJ : ClassId) (b : Nat → Nat) (ws0 : va_W) : Prop :=
  p.tables.exec = Jvm.exec ∧ c.code = pm_b mi ∧ c.maxLocals = (pg_i mi).1 ∧ s.vm.findClass (pm_y mi).cls = some m.cls ∧ (∀ w ∈ iv_T, w.before args s = true) ∧ iv_E D cI cB cJ sc b (va_A ws0 s.heap.size) s ∧
  (d + 10 ≤ R.frames ∧ 100 * d + 500 ≤ R.locals ∧ (pg_i mi).2.2.1 ≤ R.cells ∧ (pg_i mi).2.2.2 ≤ R.slots) ∧ l.stackTraces = false ∧ meth.locks = false ∧ meth.name = (pm_y mi).name ∧ meth.sig.returnType = pm_r mi ∧ c.exceptionTable.toList = tableOf (pm_h mi)
/-- a frame's state -/
def iv_St (D : va_G) (cI cB cJ : ClassId) (b : Nat → Nat) (ws0 : va_W) (s : State) (nL : Nat) (lo st : List Nat) (L : iv_H) (ws : va_W) (H : Heap) (locs : List Loc) (ls : Array Slot) (sv : List Value) : Prop :=
  iv_W b cI cB cJ L ws ∧ iv_loc b (iv_al ws) lo ls nL ∧ iv_stk b (iv_al ws) st sv ∧ va_P D vwCl ws H ∧ va_D (va_A ws0 s.heap.size) ws ∧ va_S (va_A ws0 s.heap.size) s.heap H locs ∧ iv_ext ws0 ws
/-- from here the method comes to its end as the interpreter says -/
def iv_G (mi : Nat) (out : Nat × iv_H) (p : Program) (l : Launch) (e : Env) (R : Room) (s : State) (m : MethodId) (args : Array Value) (below : List Frame) (meth : Method) (c : Code) (D : va_G) (cI cB cJ : ClassId) (b : Nat → Nat) (ws0 : va_W) (c0 s0 pc : Nat) (lo st : List Nat) (L : iv_H) : Prop :=
  ∀ (ws : va_W) (H : Heap) (locs : List Loc) (ls : Array Slot) (sv : List Value), iv_St D cI cB cJ b ws0 s (pg_i mi).1 lo st L ws H locs ls sv → c0 ≤ (pg_i mi).2.2.1 → s0 ≤ (pg_i mi).2.2.2 →
    W p l e R s m args below meth c H locs c0 s0 (vx_MQ below (iv_Qc D cI cB cJ b ws0 out) (iv_XC D cI cB cJ b ws0 out) args s (pg_i mi).2.2.1 (pg_i mi).2.2.2 (va_A ws0 s.heap.size)) (F0 m pc ls sv)
/-- a method's words: its code, and all good words of the tables -/
def pm_w (mi : Nat) : List Cond := (match pm_h mi with
  | [] => Cond.code (pm_y mi) (pm_b mi) (pg_i mi).1 (pm_r mi)
  | h => Cond.codeWith (pm_y mi) (pm_b mi) (pg_i mi).1 (pm_r mi) h) :: iv_T
def iv_rm (d mi : Nat) : Room := { frames := d + 10, cells := (pg_i mi).2.2.1, slots := (pg_i mi).2.2.2, locals := 100 * d + 500 }
def iv_vals (b : Nat → Nat) (al : Nat → Option Nat) : List Nat → List Value → Prop := iv_stk b al
def iv_Pc (sc : Nat × Nat) (D : va_G) (cI cB cJ : ClassId) (b : Nat → Nat) (ws0 : va_W) (sz : Nat) (vs : List Value) : Array Value → State → Prop := fun a U =>
  a = vs.toArray ∧ U.heap.size = sz ∧ va_P D vwCl ws0 U.heap ∧ va_D (fun _ => True) ws0 ∧ iv_E D cI cB cJ sc b (va_A ws0 sz) U
/-- a method's contract: called at these values in this heap it comes to this end -/
def iv_Tri (sc : Nat × Nat) (d mj : Nat) (as : List Nat) (L : iv_H) (out : Nat × iv_H) : Prop :=
  ∀ (l : Launch) (D : va_G) (cI cB cJ : ClassId) (b : Nat → Nat) (ws0 : va_W) (sz : Nat) (vs : List Value), l.stackTraces = false → iv_W b cI cB cJ L ws0 → iv_stk b (iv_al ws0) as vs →
    vx_Met l (pm_y mj) (pm_w mj) (iv_rm d mj) (iv_Pc sc D cI cB cJ b ws0 sz vs) (iv_Qc D cI cB cJ b ws0 out) (iv_XC D cI cB cJ b ws0 out) (pg_i mj).2.2.1 (pg_i mj).2.2.2 (va_A ws0 sz)
theorem iv_Pc_blind {sc : Nat × Nat} {D : va_G} {cI cB cJ : ClassId} {b : Nat → Nat} {ws0 : va_W} {sz : Nat} {vs : List Value} : FrameBlind (iv_Pc sc D cI cB cJ b ws0 sz vs) := by
  intro a U g mk h
  obtain ⟨h1, h2, h3, h4, h5⟩ := h
  exact ⟨h1, h2, h3, h4, iv_E_moved (U := U.calling g mk a) h5 (State.WarmedH.refl U) (Nat.le_refl _) (fun _ _ _ => rfl) (fun _ h => h)⟩
