/-! ===== the kinds of calls ===== -/
section KINDS
variable {sc : Nat × Nat} {mi d : Nat} {out : Nat × iv_H} {p : Program} {l : Launch} {e : Env} {R : Room} {s : State} {m : MethodId} {args : Array Value} {below : List Frame} {meth : Method} {c : Code} {D : va_G} {cI cB cJ : ClassId} {b : Nat → Nat} {ws0 : va_W} {ih : iv_I} {c0 s0 pc np x : Nat} {lo st : List Nat} {L : iv_H}
theorem iv_T_good {w : Cond} (h : w ∈ iv_T) : (w.onTables && w.keeps) = true ∨ ∃ ty, w = .arrayClass ty := good_of_word (List.mem_filter.mp h).2
theorem iv_good {ws : List Cond} (h : ∀ w ∈ ws, w ∈ iv_T) : GoodIn iv_T ws := fun w hw => ⟨h w hw, iv_T_good (h w hw)⟩
/-- what the tables say of a method -/
def iv_MW (mj : Nat) : Cond := match pm_h mj with
  | [] => Cond.code (pm_y mj) (pm_b mj) (pg_i mj).1 (pm_r mj)
  | h => Cond.codeWith (pm_y mj) (pm_b mj) (pg_i mj).1 (pm_r mj) h
theorem pm_w_eq (mj : Nat) : pm_w mj = iv_MW mj :: iv_T := rfl
def iv_MOK (mj : Nat) : Prop := iv_MW mj ∈ iv_T ∧ Cond.initialized (pm_y mj).cls ∈ iv_T ∧ (pm_y mj).cls ≠ "java/lang/invoke/MethodHandle" ∧ (pm_y mj).cls ≠ "java/lang/invoke/VarHandle" ∧ (pg_i mj).1 ≤ 70 ∧ plainName (pm_y mj).cls = true
theorem iv_MW0 {mj : Nat} (h : pm_h mj = []) : iv_MW mj = Cond.code (pm_y mj) (pm_b mj) (pg_i mj).1 (pm_r mj) := by unfold iv_MW; rw [h]
theorem iv_MW1 {mj : Nat} (h : pm_h mj ≠ []) : iv_MW mj = Cond.codeWith (pm_y mj) (pm_b mj) (pg_i mj).1 (pm_r mj) (pm_h mj) := by
  unfold iv_MW
  cases hh : pm_h mj with
  | nil => exact absurd hh h
  | cons a t => rfl
theorem iv_wgood {mj : Nat} (h : iv_MOK mj) : GoodIn iv_T (pm_w mj) := iv_good (fun w hw => by
  rw [pm_w_eq] at hw
  rcases List.mem_cons.mp hw with rfl | hw
  · exact h.1
  · exact hw)
theorem iv_fix (X : iv_Cx sc mi d p l R s m args meth c D cI cB cJ b ws0) : CallFix p m c (pm_b mi) (pg_i mi).1 s args iv_T (pm_y mi).cls := ⟨X.1, X.2.1, X.2.2.1, X.2.2.2.1, X.2.2.2.2.1⟩
theorem iv_room {mj d' : Nat} (X : iv_Cx sc mi d p l R s m args meth c D cI cB cJ b ws0) (hM : iv_MOK mj) (hd : d' + 1 ≤ d) : (iv_rm d' mj).frames + 1 ≤ R.frames ∧ 8 + ((pg_i mj).1 + 11) + (iv_rm d' mj).locals ≤ R.locals := by
  have h1 := X.2.2.2.2.2.2.1
  have h2 := hM.2.2.2.2.1
  have e1 : (iv_rm d' mj).frames = d' + 10 := rfl
  have e2 : (iv_rm d' mj).locals = 100 * d' + 500 := rfl
  rw [e1, e2]
  omega
theorem iv_preS {ws : va_W} {H : Heap} {locs : List Loc} {As : List Value} (X : iv_Cx sc mi d p l R s m args meth c D cI cB cJ b ws0) (hP : va_P D vwCl ws H) (hD : va_D (va_A ws0 s.heap.size) ws) (hA : va_S (va_A ws0 s.heap.size) s.heap H locs) : PreS s H (iv_Pc sc D cI cB cJ b ws H.size As) As := by
  refine ⟨iv_Pc_blind, fun U hU hW => ⟨rfl, by rw [hU], by rw [hU]; exact hP, ⟨hD.1, fun _ _ _ => trivial⟩, ?_⟩⟩
  exact iv_E_moved X.2.2.2.2.2.1 hW (by rw [hU]; exact hA.1) (fun a h1 h2 => by rw [hU]; exact hA.2.1 a h1 h2) (iv_A_sub hD hA (fun q hq => Or.inr hq))
theorem iv_noX {mc ms : Nat} {y : MethodName} {ws : List Cond} {rm : Room} {Pc : Array Value → State → Prop} {Qc : Array Value → State → Outcome → State → Prop} {XC : String → State → State → Prop} {free : Addr → Prop} (h : vx_Met l y ws rm Pc Qc XC mc ms free) (hx : ∀ E st t, ¬ XC E st t) : Met l y ws rm Pc Qc mc ms free := by
  intro p e h1 h2 h3 s m args below h4 h5 h6 h7
  obtain ⟨n, o, g1, g2, g3, g4⟩ := h p e h1 h2 h3 s m args below h4 h5 h6 h7
  rcases g4 with g4 | ⟨q, -, E, ce, L, g5, -⟩
  · exact ⟨n, o, g1, g2, g3, g4⟩
  · exact absurd g5 (hx _ _ _)
theorem iv_XC_no {ws : va_W} {oj : Nat × iv_H} (h : oj.1 ≤ 147573952589676412928) (E : String) (st t : State) : ¬ iv_XC D cI cB cJ b ws oj E st t := fun z => by
  have := z.1
  omega
theorem iv_run {H : Heap} {locs : List Loc} {cells slots mc ms : Nat} {g : JFrame} {rest : List Value} {Qa : State → Outcome → State → Prop} {XC : String → State → State → Prop} {free : Addr → Prop} (h : va_Run p l e R s m args below meth c H locs cells slots mc ms g rest Qa free) : vx_Run p l e R s m args below meth c H locs cells slots mc ms g rest Qa XC free := by
  intro T hT X
  exact Or.inl (h T hT X)
/-- a static method of a link -/
def iv_LS (own : String) (idx mj n : Nat) : Prop := Cond.methodLink own idx (pm_y mj) ∈ iv_T ∧ Cond.static (pm_y mj) ∈ iv_T ∧ (parseMethodDescriptor (pm_y mj).desc).map (fun d => d.parameters.length) = some n
theorem iv_wsS {own : String} {idx mj n : Nat} (hM : iv_MOK mj) (hL : iv_LS own idx mj n) : GoodIn iv_T (va_wsS own idx (pm_y mj) (pm_w mj)) := by
  unfold va_wsS
  refine goodIn_app (iv_good (fun w hw => ?_)) (iv_wgood hM)
  rcases List.mem_cons.mp hw with rfl | hw
  · exact hL.1
  · rcases List.mem_cons.mp hw with rfl | hw
    · exact hL.2.1
    · rcases List.mem_cons.mp hw with rfl | hw
      · exact hM.2.1
      · cases hw
theorem cr_S {idx mj n rc nt : Nat} (X : iv_Cx sc mi d p l R s m args meth c D cI cB cJ b ws0) (hM : iv_MOK mj) (hL : iv_LS (pm_y mi).cls idx mj n) (hd : decode (pm_b mi) pc = .ok (.invokestatic idx, 3)) : iv_CR sc d p l e R s m args below meth c D cI cB cJ b ws0 c0 s0 pc (pg_i mi).1 nt rc mj n := by
  intro d' as L oj ws H locs ls As rest hd' hn hTri hnt hrc hW hK hP hD hA hsz hw hc hs
  have hMet := hTri l D cI cB cJ b ws H.size As X.2.2.2.2.2.2.2.1 hW hK
  have hAs : As.length = n := (iv_stk_len hK).trans hn
  by_cases hh : pm_h mj = []
  · exact vx_runS (iv_fix X) hMet (va_cwS n X.2.2.2.2.1 (iv_wsS hM hL) (by rw [pm_w_eq, iv_MW0 hh]) rfl rfl ⟨hM.2.2.1, hM.2.2.2.1, hL.2.2⟩ (iv_room X hM hd')) (iv_preS X hP hD hA) rfl hAs hsz rfl (by show 2 * 0 + _ ≤ 8; omega) hd ⟨hc, hs⟩
  · exact vx_runSX (iv_fix X) hMet (vx_cwSW n X.2.2.2.2.1 (iv_wsS hM hL) (by rw [pm_w_eq, iv_MW1 hh]) rfl rfl ⟨hM.2.2.1, hM.2.2.2.1, hL.2.2⟩ (iv_room X hM hd')) (iv_preS X hP hD hA) rfl hAs hsz rfl (by show 2 * 0 + _ ≤ 8; omega) hd ⟨hc, hs⟩
/-- a static method of the nest -/
def iv_LN (own : String) (idx mj n : Nat) : Prop := (∃ host, Cond.methodLinkNest own idx (pm_y mj) host ∈ lw_tbl) ∧ Cond.static (pm_y mj) ∈ iv_T ∧ pm_h mj = [] ∧ (parseMethodDescriptor (pm_y mj).desc).map (fun d => d.parameters.length) = some n
theorem cr_N {idx mj n rc nt : Nat} (hnt1 : nt = 1) (X : iv_Cx sc mi d p l R s m args meth c D cI cB cJ b ws0) (hM : iv_MOK mj) (hL : iv_LN (pm_y mi).cls idx mj n) (hd : decode (pm_b mi) pc = .ok (.invokestatic idx, 3)) : iv_CR sc d p l e R s m args below meth c D cI cB cJ b ws0 c0 s0 pc (pg_i mi).1 nt rc mj n := by
  intro d' as L oj ws H locs ls As rest hd' hn hTri hnt hrc hW hK hP hD hA hsz hw hc hs
  have hMet := hTri l D cI cB cJ b ws H.size As X.2.2.2.2.2.2.2.1 hW hK
  have hAs : As.length = n := (iv_stk_len hK).trans hn
  have ho : oj.1 ≤ 147573952589676412928 := by rcases hnt with h | h <;> first | omega | exact h
  obtain ⟨⟨host, l1⟩, l2, l3, l4⟩ := hL
  exact iv_run (va_runSN (iv_fix X) (iv_noX hMet (fun E st t => iv_XC_no ho E st t)) ⟨va_cnB n X.2.2.2.2.1 (iv_wgood hM) (by rw [pm_w_eq, iv_MW0 l3]) rfl rfl (X.2.2.2.2.2.1.2.1 _ l1 rfl) (X.2.2.2.2.1 _ hM.2.1) ⟨hM.2.2.1, hM.2.2.2.1, l4⟩ (iv_room X hM hd'), X.2.2.2.2.1 _ l2, trivial⟩ (iv_preS X hP hD hA) rfl hAs hsz rfl (by show 2 * 0 + _ ≤ 8; omega) hd ⟨hc, hs⟩)
/-- a constructor -/
def iv_LI (own : String) (idx mj n : Nat) : Prop := (Cond.methodLink own idx (pm_y mj) ∈ iv_T ∨ ∃ host, Cond.methodLinkNest own idx (pm_y mj) host ∈ lw_tbl) ∧ Cond.instanceMethod (pm_y mj) ∈ iv_T ∧ pm_h mj = [] ∧ (pm_y mj).name = "<init>" ∧ pm_r mj = none ∧ 1 ≤ n ∧ (parseMethodDescriptor (pm_y mj).desc).map (fun d => d.parameters.length) = some (n - 1)
theorem cr_I {idx mj n nt rc : Nat} (hnt1 : nt = 1) (hrc1 : rc ≠ 0) (X : iv_Cx sc mi d p l R s m args meth c D cI cB cJ b ws0) (hM : iv_MOK mj) (hL : iv_LI (pm_y mi).cls idx mj n) (hd : decode (pm_b mi) pc = .ok (.invokespecial idx, 3)) : iv_CR sc d p l e R s m args below meth c D cI cB cJ b ws0 c0 s0 pc (pg_i mi).1 nt rc mj n := by
  intro d' as L oj ws H locs ls As rest hd' hn hTri hnt hrc hW hK hP hD hA hsz hw hc hs
  have hMet := hTri l D cI cB cJ b ws H.size As X.2.2.2.2.2.2.2.1 hW hK
  have hAs : As.length = n := (iv_stk_len hK).trans hn
  have ho : oj.1 ≤ 147573952589676412928 := by rcases hnt with h | h <;> first | omega | exact h
  obtain ⟨l1, l2, l3, l4, l5, l6, l7⟩ := hL
  rcases hrc with h | ⟨r, t, q, rfl, r1, r2, r3, r4, r5⟩
  · exact absurd h hrc1
  obtain ⟨V, As', rfl, k1, k2⟩ := iv_stk_cons hK
  obtain ⟨a, -, rfl⟩ := iv_rel_ref r1 r2 k1
  have hlen : As'.length = n - 1 := by rw [List.length_cons] at hAs; omega
  have hst : (F0 m pc ls ((Value.ref a :: As').reverse ++ rest)).stack = As'.reverse ++ .ref a :: rest := by
    show (Value.ref a :: As').reverse ++ rest = _
    rw [List.reverse_cons, List.append_assoc]
    rfl
  have hcode : pm_w mj = Cond.code (pm_y mj) (pm_b mj) (pg_i mj).1 none :: iv_T := by rw [pm_w_eq, iv_MW0 l3, l5]
  rcases l1 with l1 | ⟨host, l1⟩
  · exact iv_run (va_runI (iv_fix X) (iv_noX hMet (fun E st t => iv_XC_no ho E st t)) (cwI (n - 1) X.2.2.2.2.1 (iv_wgood hM) hcode rfl rfl (X.2.2.2.2.1 _ hM.2.1) (X.2.2.2.2.1 _ l1) (X.2.2.2.2.1 _ l2) l4 ⟨hM.2.2.1, hM.2.2.2.1, l7⟩ (iv_room X hM hd')) (iv_preS X hP hD hA) rfl hlen hsz hst (by show 2 * 0 + _ ≤ 8; omega) hd ⟨hc, hs⟩)
  · exact iv_run (va_runIN (iv_fix X) (iv_noX hMet (fun E st t => iv_XC_no ho E st t)) ⟨va_cnB (n - 1) X.2.2.2.2.1 (iv_wgood hM) hcode rfl rfl (X.2.2.2.2.2.1.2.1 _ l1 rfl) (X.2.2.2.2.1 _ hM.2.1) ⟨hM.2.2.1, hM.2.2.2.1, l7⟩ (iv_room X hM hd'), l4, X.2.2.2.2.1 _ l2⟩ (iv_preS X hP hD hA) rfl hlen hsz hst (by show 2 * 0 + _ ≤ 8; omega) hd ⟨hc, hs⟩)
/-- the receiver's cell -/
theorem iv_recv {ws : va_W} {H : Heap} {r ci : Nat} {q : iv_C} {a : Nat} (X : iv_Cx sc mi d p l R s m args meth c D cI cB cJ b ws0) (hW : iv_W b cI cB cJ L ws) (hP : va_P D vwCl ws H) (h1 : iv_hk L (r - 18446744073709551616) = some q) (h2 : q.1 % 4 = 0) (ha : iv_al ws (r - 18446744073709551616) = some a) {C : String} {T : u_T} {N : Nat} (hci : q.1 / 4 = ci) (hv : vwCl[ci]? = some (C, T, N)) : ∃ cellB : Cell, H[a]? = some cellB ∧ cellB.vm.isStatics = false ∧ s.vm.findClass C = some cellB.cls := by
  obtain ⟨e1, g1, g2⟩ := iv_W_at hW h1 ha
  rcases g2 with ⟨-, fs, rfl, -, -⟩ | ⟨t, -⟩ | ⟨t, -⟩ | ⟨t, -⟩
  · obtain ⟨rr, h3, cell, h4, h5, h6, -⟩ := hP _ _ g1
    have h3 : vwCl[q.1 / 4]? = some rr := h3
    rw [hci, hv] at h3
    cases h3
    refine ⟨cell, h4, by rw [h6]; rfl, ?_⟩
    rw [h5]
    have h7 := (X.2.2.2.2.2.1.1.1 ci _ hv).2.1
    show s.vm.findClass C = some (D.1 (q.1 / 4))
    rw [hci]
    exact h7
  · omega
  · omega
  · omega
/-- a method of the receiver's own class -/
def iv_LV (own : String) (idx mj n rc : Nat) : Prop := Cond.methodLink own idx (pm_y mj) ∈ iv_T ∧ Cond.instanceMethod (pm_y mj) ∈ iv_T ∧ Cond.selects (pm_y mj).cls (pm_y mj) (pm_y mj) ∈ iv_T ∧ pm_h mj = [] ∧ 1 ≤ n ∧ rc ≠ 0 ∧ rc ≠ 13 ∧ (∃ T N, vwCl[rc - 1]? = some ((pm_y mj).cls, T, N)) ∧ (parseMethodDescriptor (pm_y mj).desc).map (fun d => d.parameters.length) = some (n - 1)
theorem iv_sub2_b {c t f : Bool} (h : @Bool.rec (fun _ => Bool) f t c = true) : (c = true ∧ t = true) ∨ (c = false ∧ f = true) := by cases c <;> first | exact Or.inl ⟨rfl, h⟩ | exact Or.inr ⟨rfl, h⟩
theorem iv_sub2_eq {ci b : Nat} (h : iv_sub2 ci b = true) (hb : b ≠ 12) : ci = b := by
  rcases iv_sub2_b h with ⟨h1, -⟩ | ⟨-, h⟩
  · rw [iv_n8] at h1
    exact absurd h1 hb
  · rw [iv_n8] at h
    exact h
theorem iv_sub2_12 {ci : Nat} (h : iv_sub2 ci 12 = true) : ci = 4 ∨ ci = 5 := by
  have h : @Bool.rec (fun _ => Bool) (@Bool.rec (fun _ => Bool) false true (Nat.beq ci 5)) true (Nat.beq ci 4) = true := h
  rcases iv_sub2_b h with ⟨h, -⟩ | ⟨-, h⟩
  · rw [iv_n8] at h
    exact Or.inl h
  · rcases iv_sub2_b h with ⟨h, -⟩ | ⟨-, h⟩
    · rw [iv_n8] at h
      exact Or.inr h
    · cases h
theorem cr_V {idx mj n nt rc : Nat} (X : iv_Cx sc mi d p l R s m args meth c D cI cB cJ b ws0) (hM : iv_MOK mj) (hL : iv_LV (pm_y mi).cls idx mj n rc) (hd : decode (pm_b mi) pc = .ok (.invokevirtual idx, 3)) : iv_CR sc d p l e R s m args below meth c D cI cB cJ b ws0 c0 s0 pc (pg_i mi).1 nt rc mj n := by
  intro d' as L oj ws H locs ls As rest hd' hn hTri hnt hrc hW hK hP hD hA hsz hw hc hs
  have hMet := hTri l D cI cB cJ b ws H.size As X.2.2.2.2.2.2.2.1 hW hK
  have hAs : As.length = n := (iv_stk_len hK).trans hn
  obtain ⟨l1, l2, l3, l4, l5, l6, l7, ⟨T, N, l8⟩, l9⟩ := hL
  rcases hrc with h | ⟨r, t, q, rfl, r1, r2, r3, r4, r5⟩
  · exact absurd h l6
  have hci := iv_sub2_eq r5 (by omega)
  obtain ⟨V, As', rfl, k1, k2⟩ := iv_stk_cons hK
  obtain ⟨a, k3, rfl⟩ := iv_rel_ref r1 r2 k1
  have hlen : As'.length = n - 1 := by rw [List.length_cons] at hAs; omega
  have hst : (F0 m pc ls ((Value.ref a :: As').reverse ++ rest)).stack = As'.reverse ++ .ref a :: rest := by
    show (Value.ref a :: As').reverse ++ rest = _
    rw [List.reverse_cons, List.append_assoc]
    rfl
  have hG : GoodIn iv_T (wsV (pm_y mi).cls idx (pm_y mj).cls (pm_y mj) (pm_w mj)) := by
    unfold wsV
    refine goodIn_app (iv_good (fun w hw => ?_)) (iv_wgood hM)
    rcases List.mem_cons.mp hw with rfl | hw
    · exact l1
    · rcases List.mem_cons.mp hw with rfl | hw
      · exact l2
      · rcases List.mem_cons.mp hw with rfl | hw
        · exact l3
        · rcases List.mem_cons.mp hw with rfl | hw
          · exact hM.2.1
          · cases hw
  have hpre := iv_preS (As := Value.ref a :: As') X hP hD hA
  exact vx_runV (iv_fix X) hMet (cwV (n - 1) X.2.2.2.2.1 hG (by rw [pm_w_eq, iv_MW0 l4]) rfl rfl ⟨rfl, hM.2.2.1, hM.2.2.2.1, l9⟩ (iv_room X hM hd')) ⟨hpre.1, iv_recv X hW hP r3 r4 k3 hci l8, hpre.2⟩ rfl hlen hsz hst (by show 2 * 0 + _ ≤ 8; omega) hd ⟨hc, hs⟩
/-- a private method, called on an object of a class below its own -/
theorem iv_selp {C : String} {x0 y0 y : MethodName} {s : State} {args : Array Value} (hy : y.cls ≠ "java/lang/invoke/MethodHandle" ∧ y.cls ≠ "java/lang/invoke/VarHandle") (hsel0 : (Cond.selects C x0 y0).before args s = true) (h0 : y0.cls = y.cls) (hpriv : (Cond.privateMethod y).before args s = true) (hinst : (Cond.instanceMethod y).before args s = true) : (Cond.selects C y y).before args s = true := by
  obtain ⟨c2, r2, m2, q1, q2, q3, q4, kP, hkP, hkPi⟩ := Cond.selects_spec hsel0
  obtain ⟨mk, methM, hnamed, hmethM, -, -⟩ := Cond.instanceMethod_spec hinst
  have hfound : s.methodFound? y.cls y.name y.desc = some mk := State.methodFound?_of_named hnamed hy
  have e1 := findClass_of_methodNamed q3
  have e2 := findClass_of_methodNamed hnamed
  rw [h0] at e1
  have hcls : m2.cls = mk.cls := Option.some.inj (e1.symm.trans e2)
  rw [hcls] at hkP
  have hs : selectMethod {} s.vm c2 mk = .method mk := selectMethod_private hmethM (Cond.privateMethod_at hpriv mk methM hnamed hmethM)
  simp only [Cond.before, Cond.holds, Cond.value, q1, hfound, hnamed, hs, hkP]
  simp [hkPi]
/-- a method of the classes below Search: by the name x, found as y for the receiver's class -/
def iv_LU (own : String) (idx mj n rc : Nat) : Prop := pm_h mj = [] ∧ 1 ≤ n ∧ rc ≠ 0 ∧ ∃ (x : MethodName) (owner : String), Cond.methodLink own idx x ∈ iv_T ∧ Cond.sameMethod x.cls owner x.name x.desc ∈ iv_T ∧ Cond.instanceMethod (pm_y mj) ∈ iv_T ∧ owner ≠ "java/lang/invoke/MethodHandle" ∧ owner ≠ "java/lang/invoke/VarHandle" ∧ (parseMethodDescriptor x.desc).map (fun d => d.parameters.length) = some (n - 1) ∧
  (Cond.declares ⟨owner, x.name, x.desc⟩ ∈ lw_tbl ∨ pm_y mj = ⟨owner, x.name, x.desc⟩) ∧ ∀ ci, iv_sub2 ci (rc - 1) = true → ∃ C T N, vwCl[ci]? = some (C, T, N) ∧ (Cond.selects C x (pm_y mj) ∈ iv_T ∨ (x = pm_y mj ∧ Cond.privateMethod (pm_y mj) ∈ lw_tbl ∧ ∃ x0 y0 : MethodName, y0.cls = (pm_y mj).cls ∧ Cond.selects C x0 y0 ∈ iv_T))
theorem cr_U {idx mj n nt rc : Nat} (hnt1 : nt = 1) (X : iv_Cx sc mi d p l R s m args meth c D cI cB cJ b ws0) (hM : iv_MOK mj) (hL : iv_LU (pm_y mi).cls idx mj n rc) (hd : decode (pm_b mi) pc = .ok (.invokevirtual idx, 3)) : iv_CR sc d p l e R s m args below meth c D cI cB cJ b ws0 c0 s0 pc (pg_i mi).1 nt rc mj n := by
  intro d' as L oj ws H locs ls As rest hd' hn hTri hnt hrc hW hK hP hD hA hsz hw hc hs
  have hMet := hTri l D cI cB cJ b ws H.size As X.2.2.2.2.2.2.2.1 hW hK
  have hAs : As.length = n := (iv_stk_len hK).trans hn
  have ho : oj.1 ≤ 147573952589676412928 := by rcases hnt with h | h <;> first | omega | exact h
  obtain ⟨l4, l5, l6, x, owner, l1, l2, l3, o1, o2, o3, o4, o5⟩ := hL
  rcases hrc with h | ⟨r, t, q, rfl, r1, r2, r3, r4, r5⟩
  · exact absurd h l6
  obtain ⟨C, T, N, v1, v2⟩ := o5 _ r5
  obtain ⟨V, As', rfl, k1, k2⟩ := iv_stk_cons hK
  obtain ⟨a, k3, rfl⟩ := iv_rel_ref r1 r2 k1
  have hlen : As'.length = n - 1 := by rw [List.length_cons] at hAs; omega
  have hst : (F0 m pc ls ((Value.ref a :: As').reverse ++ rest)).stack = As'.reverse ++ .ref a :: rest := by
    show (Value.ref a :: As').reverse ++ rest = _
    rw [List.reverse_cons, List.append_assoc]
    rfl
  have ht := X.2.2.2.2.1
  have hG := iv_wgood hM
  have hw0 : pm_w mj = Cond.code (pm_y mj) (pm_b mj) (pg_i mj).1 (pm_r mj) :: iv_T := by rw [pm_w_eq, iv_MW0 l4]
  have hcd : Cond.code (pm_y mj) (pm_b mj) (pg_i mj).1 (pm_r mj) ∈ pm_w mj := by rw [hw0]; exact List.mem_cons_self
  have hsel : (Cond.selects C x (pm_y mj)).before args s = true := by
    rcases v2 with v2 | ⟨v2, v3, x0, y0, v4, v5⟩
    · exact ht _ v2
    · rw [v2]
      exact iv_selp ⟨hM.2.2.1, hM.2.2.2.1⟩ (ht _ v5) v4 (va_Nw.use rfl (X.2.2.2.2.2.1.2.1 _ v3 rfl)) (ht _ l3)
  have hdl : va_Decl s ⟨owner, x.name, x.desc⟩ := by
    rcases o4 with o4 | o4
    · exact va_Decl.abs (X.2.2.2.2.2.1.2.1 _ o4 rfl)
    · rw [← o4]
      exact va_Decl.of (ht _ l3) (ht _ (hG _ hcd).1)
  have hroom := iv_room X hM hd'
  have hpre := iv_preS (As := Value.ref a :: As') X hP hD hA
  have hcu : va_CU R s args (pm_y mi).cls C owner idx x (pm_y mj) (pm_b mj) (pg_i mj).1 (pm_r mj) (pm_w mj) (iv_rm d' mj) (pg_i mj).2.2.1 (pg_i mj).2.2.2 (n - 1) := by
    refine ⟨⟨rfl, rfl, hroom.1, hroom.2, pay_in ht hG, hcd⟩, ht _ (hG _ hcd).1, ht _ hM.2.1, ⟨o1, o2⟩, fun sig h => ?_, ht _ l1, ht _ l2, hdl, hsel, ht _ l3⟩
    rw [h] at o3
    exact (Option.some.inj o3).symm
  exact iv_run (va_runU (iv_fix X) (iv_noX hMet (fun E st t => iv_XC_no ho E st t)) hcu ⟨hpre.1, iv_recv X hW hP r3 r4 k3 rfl v1, hpre.2⟩ rfl hlen hsz hst (by show 2 * 0 + _ ≤ 8; omega) hd ⟨hc, hs⟩)
end KINDS
