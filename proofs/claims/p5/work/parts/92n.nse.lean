/-! ===== NoSuchElementException: its constructor calls its super by an entry of its own ===== -/
section NSE
variable {p : Program} {l : Launch} {e : Env} {R : Room} {s : State} {m₀ : MethodId} {args : Array Value} {below : List Frame} {meth : Method} {c : Code} {W : State} {locs : List Loc} {cells slots : Nat}
def nse : String := "java/util/NoSuchElementException"
def nt_R : String := "java/lang/RuntimeException"
def nt_E : List String := ["java/lang/Exception"]
def nt_tl (own : String) (ic : Nat) : List Cond := [.methodLink own ic (Bundle.initS nse), .instantiable nse 6, .selects nse Bundle.tFill0 Bundle.tFill0, .selects nse Bundle.tFill Bundle.tFill,
   .lays nse Bundle.tN "cause" "Ljava/lang/Throwable;", .lays nse Bundle.tN "stackTrace" Bundle.steD, .lays nse Bundle.tN "suppressedExceptions" Bundle.listD, .lays nse Bundle.tN "detailMessage" "Ljava/lang/String;",
   .isRef (.static Bundle.tN "UNASSIGNED_STACK" Bundle.steD), .isRef (.static Bundle.tN "SUPPRESSED_SENTINEL" Bundle.listD),
   .fieldLink Bundle.tN 198 Bundle.tN "backtrace" "Ljava/lang/Object;", .lays Bundle.tN Bundle.tN "backtrace" "Ljava/lang/Object;", .lays nse Bundle.tN "backtrace" "Ljava/lang/Object;"]
def nt_at (own : String) (ic : Nat) : List Cond := Bundle.throwableAtoms ++ (Bundle.throwableSAtoms ++ (Bundle.passSAtoms nse nt_R 13 prog_33_method_4_code ++ (Bundle.chainSAtoms nt_R nt_E ++ nt_tl own ic)))
theorem nt_d : decode prog_33_method_4_code 0 = .ok (.aload_n 0, 1) ∧ decode prog_33_method_4_code 1 = .ok (.aload_n 1, 1) ∧ decode prog_33_method_4_code 2 = .ok (.invokespecial 13, 3) ∧ decode prog_33_method_4_code 5 = .ok (.return_, 1) := by decide +kernel
set_option maxHeartbeats 1000000 in
theorem nt_ctor (X : Stand p l e R s m₀ args below meth c W locs cells slots) (hexec : p.tables.exec = Jvm.exec) (htr : e.platform.stackTraces = false) {own : String} {ic : Nat}
    (hown : s.vm.findClass own = some m₀.cls) (h : ∀ a ∈ nt_at own ic, a.before args s = true)
    (hlocs : ∀ x ∈ locs, ∀ cell, s.heap[x.base]? = some cell → cell.vm.isStatics = false)
    {a : Addr} {cX : ClassId} {kX : Class} (hfoundX : s.vm.findClass nse = some cX) (hkX : s.vm.classes[cX]? = some kX) (hcell : W.heap[a]? = some (freshCell cX kX)) (hnew : s.heap.size ≤ a)
    {msg : Value} (hmsg : msg.isRef = true) {g : JFrame} (hg : g.method = m₀) (hsize : g.locals.size = c.maxLocals) (hlocked : g.locked = none) (hentered : g.entered = []) {rest : List Value} (hstack : g.stack = msg :: .ref a :: .ref a :: rest)
    (hd6 : decode c.code g.pc = .ok (.invokespecial ic, 3)) (hd9 : decode c.code (g.pc + 3) = .ok (.athrow, 1)) (hout : ∀ x ∈ c.exceptionTable.toList, covers x (g.pc + 3) = false)
    (hRf : 5 < R.frames) (hRl : 2 * g.monitorRoom + ((Value.ref a :: rest).map fun v => v.category).sum + 81 ≤ R.locals) (hlocks : meth.locks = false) :
    ∃ U : State, Steps p.tables e below (W.setTop g) U ∧ U.status = .running ∧ Ended U below (.threw a) ∧ s.WarmedH U.vm ∧ s.sameButNew ({ U with vm := s.vm } : State) locs cells slots ∧
      ∃ ce, U.heap[a]? = some ce ∧ ce.vm = .none ∧ s.vm.findClass nse = some ce.cls := by
  have hpl : e.platform.magicAccessors = ({} : Platform).magicAccessors := by rw [X.admits.platform]
  have h1 : ∀ x ∈ Bundle.throwableAtoms, x.before args s = true := fun x hx => h x (List.mem_append_left _ hx)
  have h2 : ∀ x ∈ Bundle.throwableSAtoms, x.before args s = true := fun x hx => h x (List.mem_append_right _ (List.mem_append_left _ hx))
  have h3 : ∀ x ∈ Bundle.passSAtoms nse nt_R 13 prog_33_method_4_code, x.before args s = true := fun x hx => h x (List.mem_append_right _ (List.mem_append_right _ (List.mem_append_left _ hx)))
  have h4 : ∀ x ∈ Bundle.chainSAtoms nt_R nt_E, x.before args s = true := fun x hx => h x (List.mem_append_right _ (List.mem_append_right _ (List.mem_append_right _ (List.mem_append_left _ hx))))
  have h5 : ∀ x ∈ nt_tl own ic, x.before args s = true := fun x hx => h x (List.mem_append_right _ (List.mem_append_right _ (List.mem_append_right _ (List.mem_append_right _ hx))))
  have a5 : ∀ x, x ∈ nt_tl own ic → x.holds args s none s [] = true := fun x hx => h5 x hx
  obtain ⟨T, Z0, L, -, Y⟩ := ThrowableC.of_atoms (args := args) (by rw [X.admits.platform]) (by rw [X.admits.platform]) hpl h1
  obtain ⟨Z, M, LZ, LM, hnZ⟩ := Init0T.ofS_atoms (args := args) hpl L Y h2
  obtain ⟨P1, L1, hP1m, hP1s⟩ := PassC.ofS_atoms (args := args) (s := s) hpl (X := nse) (Y := nt_R) (by decide +kernel) (by decide +kernel) nt_d.1 nt_d.2.1 nt_d.2.2.1 nt_d.2.2.2 h3
  obtain ⟨P2, Ps, hlen, L2, hL, hP2m, hsup, hpass⟩ := Bundle.chainS (args := args) hpl hnZ nt_E nt_R (by decide +kernel) (fun n hn => by
    rcases List.mem_cons.mp hn with rfl | hn
    · decide +kernel
    · cases hn) h4
  have hlink : P1.sup = P2.m := Option.some.inj (hP1s.symm.trans hP2m)
  have hfound : s.vm.findClass nse = some P1.m.cls := findClass_of_methodNamed hP1m
  cases Option.some.inj (hfoundX.symm.trans hfound)
  obtain ⟨c1, kX', hc1, hk, hord, -, -, hn6⟩ := Cond.instantiable_spec (a5 (.instantiable nse 6) (by simp [nt_tl]))
  cases Option.some.inj (hc1.symm.trans hfound)
  cases Option.some.inj (hkX.symm.trans hk)
  have sel : ∀ (y : MethodName) (mm : MethodId), Cond.selects nse y y ∈ nt_tl own ic → s.methodNamed? y = some mm → y.cls ≠ "java/lang/invoke/MethodHandle" ∧ y.cls ≠ "java/lang/invoke/VarHandle" → selectMethod e.platform s.vm P1.m.cls mm = .method mm := fun y mm hy hm hn => by
    obtain ⟨c2, r2, m2, q1, q2, q3, q4, -⟩ := Cond.selects_spec (a5 _ hy)
    cases Option.some.inj (q1.symm.trans hfound)
    cases Option.some.inj (q2.symm.trans (State.methodFound?_of_named hm hn))
    cases Option.some.inj (q3.symm.trans hm)
    rw [Launch.admits_selectMethod X.admits]
    exact q4
  have hsel0 := sel Bundle.tFill0 T.fill0 (by simp [nt_tl]) Y.fill0 (by decide)
  have hselF := sel Bundle.tFill T.fill (by simp [nt_tl]) Y.fill (by decide)
  obtain ⟨cellS0, hcS0, hiss⟩ := Y.statics
  obtain ⟨u0, hu0⟩ := Cond.staticRefV Y.unassigned L.unassignedStatic L.statics hcS0 hiss (a5 (.isRef (.static Bundle.tN "UNASSIGNED_STACK" Bundle.steD)) (by simp [nt_tl]))
  obtain ⟨sen, hsen⟩ := Cond.staticRefV Y.sentinel L.sentinelStatic L.statics hcS0 hiss (a5 (.isRef (.static Bundle.tN "SUPPRESSED_SENTINEL" Bundle.listD)) (by simp [nt_tl]))
  obtain ⟨ci198, i198, fB, hk198, hg198, ha198, hsB, -, hnB, htB, hffB⟩ := Cond.ownField (t := .object "java/lang/Object") Y.found L.cls (by decide +kernel) (a5 (.fieldLink Bundle.tN 198 Bundle.tN "backtrace" "Ljava/lang/Object;") (by simp [nt_tl])) (a5 (.lays Bundle.tN Bundle.tN "backtrace" "Ljava/lang/Object;") (by simp [nt_tl])) e.platform hpl
  obtain ⟨cellS, hcellS, heS, -, hkeep⟩ := X.same.2.2.2.2.2 T.aS cellS0 hcS0
  have hout' : ∀ i, (⟨T.aS, i⟩ : Loc) ∉ locs := fun i hm => by
    have q := hlocs _ hm cellS0 hcS0
    rw [hiss] at q
    cases q
  have hknS : cellS.vm ≠ .unknown := fun hu => by
    rw [heS] at hu
    rw [show cellS0.vm = .unknown from hu] at hiss
    cases hiss
  have hneS : T.aS ≠ a := Nat.ne_of_lt (Nat.lt_of_lt_of_le (Array.getElem?_eq_some_iff.mp hcS0).1 hnew)
  obtain ⟨iM, hffM⟩ := Y.msg
  obtain ⟨tyC, dC, hdC, hdnC⟩ := Cond.laysAt hfound hk Y.cause (a5 (.lays nse Bundle.tN "cause" "Ljava/lang/Throwable;") (by simp [nt_tl]))
  obtain ⟨tyS, dS, hdS, hdnS⟩ := Cond.laysAt hfound hk Y.stack (a5 (.lays nse Bundle.tN "stackTrace" Bundle.steD) (by simp [nt_tl]))
  obtain ⟨tyP, dP, hdP, hdnP⟩ := Cond.laysAt hfound hk Y.supp (a5 (.lays nse Bundle.tN "suppressedExceptions" Bundle.listD) (by simp [nt_tl]))
  obtain ⟨tyM, -, -, -⟩ := Cond.laysAt hfound hk hffM (a5 (.lays nse Bundle.tN "detailMessage" "Ljava/lang/String;") (by simp [nt_tl]))
  obtain ⟨tyB, dB, hdB, hdnB⟩ := Cond.laysAt hfound hk hffB (a5 (.lays nse Bundle.tN "backtrace" "Ljava/lang/Object;") (by simp [nt_tl]))
  have bC := Cond.laysApart hdB hdC hdnB hdnC (by rw [hnB, Y.causeName]; decide)
  have bS := Cond.laysApart hdB hdS hdnB hdnS (by rw [hnB, Y.stackName]; decide)
  have bP := Cond.laysApart hdB hdP hdnB hdnP (by rw [hnB, Y.suppName]; decide)
  have hskip : SkipFacts T e.platform s (fun u => u) u0 ((preparedCellV T.toThrowableT (freshCell P1.m.cls kX) a u0 sen).withEntry W.cur) :=
    ⟨{ ci198 := ci198, i198 := i198, fBack := fB }, ⟨hk198, hg198, ha198, hsB⟩, by
      have q := fresh_default (c := P1.m.cls) tyB
      rw [htB] at q
      simpa [preparedCellV, Cell.setSlot, Cell.withEntry, Array.getElem?_setIfInBounds, bC, bS, bP, bC.symm, bS.symm, bP.symm, defaultValue] using q, fun _ _ => rfl⟩
  obtain ⟨tm, methC, cdC, kC, vm₁, hnC, -, -, -, -, -, -, -, hW₁, st1⟩ := Steps.initColdS (tb := p.tables) (e := e) (below := below) (s := s) (U := W) X.here hexec X.warmed hpl hown (t := Bundle.initS nse) rfl rfl (by decide +kernel)
    (a5 (.methodLink own ic (Bundle.initS nse)) (by simp [nt_tl])) (h3 (.instanceMethod (Bundle.initS nse)) (by simp [Bundle.passSAtoms])) (bytes := prog_33_method_4_code) (maxL := 2) (h3 (.code (Bundle.initS nse) prog_33_method_4_code 2 none) (by simp [Bundle.passSAtoms]))
    (f := g) hg (a := a) (msg := msg) (rest := .ref a :: rest) hstack hd6
  cases Option.some.inj (hnC.symm.trans hP1m)
  obtain ⟨vm₂, X₂, st2⟩ := (X.noted hW₁).ctorMessageOffV hexec (g := { g with stack := .ref a :: rest }) hg hsize T L Z LZ M LM (P1 :: P2 :: Ps)
    (fun P hP => by
      rcases List.mem_cons.mp hP with rfl | hP
      · exact L1
      · rcases List.mem_cons.mp hP with rfl | hP
        · exact L2
        · exact hL P hP) ⟨hlink, hsup, hpass⟩ (u0 := u0) (sen := sen) (self := a) hmsg (cell := freshCell P1.m.cls kX) (cellS := cellS)
    hcell (fun _ => by simp) (by simp) rfl rfl hsel0 hselF hcellS hneS hknS (by rw [hkeep _ (hout' _)]; exact hu0) (by rw [hkeep _ (hout' _)]; exact hsen)
    (Takes.of_laid hk hord tyC (by rw [Y.causeType]; rfl)) (Takes.of_laid hk hord tyS (by rw [Y.stackType]; exact fits_refV_array _ u0)) (Takes.of_laid hk hord tyP (by rw [Y.suppType]; exact fits_refV_object _ sen))
    (Takes.of_laid hk hord tyM (by rw [Y.msgType]; exact fits_refV_object _ ⟨msg, hmsg⟩)) Y.objLocals hskip htr [] hd6
    (by simp only [List.length_cons, hlen, nt_E, List.length_nil]; omega) (by simp only [List.length_cons, hlen, nt_E, List.length_nil]; omega)
  obtain ⟨hwalk, hrun, hended, hWU, hsame⟩ := X₂.athrowLeaves hexec (g := { g with stack := .ref a :: rest, pc := g.pc + 3 }) hg hlocked hentered hout (a := a) (rest := rest) rfl hd9
  have hlt : a < ((W.setVm vm₁).setVm vm₂).heap.size := (Array.getElem?_eq_some_iff.mp hcell).1
  have hU := heapAt_setCell_self (s := (W.setVm vm₁).setVm vm₂) (plainBareV T.toThrowableT (freshCell P1.m.cls kX) a u0 sen msg) hlt
  refine ⟨_, st1 _ (fun acts => ?_), hrun, hended, hWU, hsame.weaken (fun y hy hlt' => ?_) (Nat.le_refl _) (Nat.le_refl _), _, hU, rfl, hfound⟩
  · rw [doInvoke_state]
    exact st2 _ hwalk
  · rcases List.mem_append.mp hy with q | q
    · exact q
    · exfalso
      have hb : y.base = a := by
        simp only [List.mem_cons, List.not_mem_nil, or_false] at q
        rcases q with rfl | rfl | rfl | rfl | rfl <;> rfl
      rw [hb] at hlt'
      exact Nat.not_lt.mpr hnew hlt'
end NSE
/-! ===== 'throw new NoSuchElementException(text)' ===== -/
section NSE2
variable {p : Program} {l : Launch} {e : Env} {R : Room} {s : State} {m : MethodId} {args : Array Value} {below : List Frame} {meth : Method} {c : Code} {H : Heap} {locs : List Loc} {cells slots : Nat} {ls : Array Slot} {rest : List Value} {Qc : Array Value → State → Outcome → State → Prop} {XC : String → State → State → Prop} {free : Addr → Prop}
theorem nt_throw {cc : ByteArray} {pc : Nat} (hexec : p.tables.exec = Jvm.exec) (hb : c.code = cc) (hl : l.stackTraces = false) {own text : String} {ik is ic mc ms sa : Nat} {A : Nat → Prop}
    (hown : s.vm.findClass own = some m.cls) (hstr : vk_R own is text sa s) (hat : ∀ w ∈ Cond.classLink own ik nse :: Cond.initialized nse :: (nt_at own ic).filter vx_no, w.before args s = true ∧ vx_ot w = true)
    (hU : vx_Zq Bundle.tN "UNASSIGNED_STACK" Bundle.steD A s s.heap) (hN : vx_Zq Bundle.tN "SUPPRESSED_SENTINEL" Bundle.listD A s s.heap) (hS : va_S A s.heap H locs) (hsize : ls.size = c.maxLocals)
    (d0 : decode cc pc = .ok (.new ik, 3)) (d3 : decode cc (pc + 3) = .ok (.dup, 1)) (d4 : decode cc (pc + 4) = .ok (.ldc is, 2)) (d6 : decode cc (pc + 6) = .ok (.invokespecial ic, 3)) (d9 : decode cc (pc + 9) = .ok (.athrow, 1))
    (hout : ∀ x ∈ c.exceptionTable.toList, covers x (pc + 9) = false)
    (hRf : 5 < R.frames) (hRl : (rest.map fun v => v.category).sum + 82 ≤ R.locals) (hRc : cells + 1 ≤ R.cells) (hRs : slots + 6 ≤ R.slots) (hlocks : meth.locks = false)
    (hx : ∀ t : State, s.vm.Alike t.vm → H.size ≤ t.heap.size → (∀ q : Nat, q < H.size → t.heap[q]? = H[q]?) → XC nse s t)
    (hf : ∀ z ∈ locs, free z.base) (hc : cells + 1 ≤ mc) (hs : slots + 6 ≤ ms) :
    W p l e R s m args below meth c H locs cells slots (vx_MQ below Qc XC args s mc ms free) (F0 m pc ls rest) := by
  intro T hT X
  have htr : e.platform.stackTraces = false := (show e.platform.stackTraces = l.stackTraces by rw [X.admits.platform]).trans hl
  have Y := vx_rebase X (R' := { frames := R.frames, locals := R.locals, cells := 1, slots := 6 }) (Nat.le_refl _) (Nat.le_refl _) hRc hRs
  obtain ⟨s', hA⟩ : ∃ z, z = (T.setVm s.vm).setFrames (.invoking m args :: below) := ⟨_, rfl⟩
  rw [← hA] at Y
  have hvm : s'.vm = s.vm := by rw [hA]; rfl
  have hhp : s'.heap = H := by rw [hA]; exact hT
  have hW0 : s.WarmedH s'.vm := by rw [hvm]; exact State.WarmedH.refl s
  have hat' : ∀ w ∈ Cond.classLink own ik nse :: Cond.initialized nse :: (nt_at own ic).filter vx_no, w.before args s' = true := fun w hw => vx_ot_at hW0 hvm.symm (hat w hw).2 (hat w hw).1
  have hU' : vx_Zq Bundle.tN "UNASSIGNED_STACK" Bundle.steD A s' s'.heap := by rw [hhp]; exact vx_Zq.moved hW0.alike (hU.kept hS.2.1)
  have hN' : vx_Zq Bundle.tN "SUPPRESSED_SENTINEL" Bundle.listD A s' s'.heap := by rw [hhp]; exact vx_Zq.moved hW0.alike (hN.kept hS.2.1)
  have h : ∀ w ∈ nt_at own ic, w.before args s' = true := vx_own (fun w hw => hat' w (List.mem_cons_of_mem _ (List.mem_cons_of_mem _ hw))) (vx_isRefq hU'.1) (vx_isRefq hN'.1) hU'.2.word hN'.2.word
  have hown' : s'.vm.findClass own = some m.cls := by rw [hvm]; exact hown
  have hins : (Cond.instantiable nse 6).before args s' = true := h _ (List.mem_append_right _ (List.mem_append_right _ (List.mem_append_right _ (List.mem_append_right _ (by simp [nt_tl])))))
  obtain ⟨vm₁, cX, kX, hfX, hkX, -, -, X₁, st1⟩ := Y.newCold hexec (own := own) (C := nse) (index := ik) (n := 6) hown' (hat' _ List.mem_cons_self) hins (hat' _ (List.mem_cons_of_mem _ List.mem_cons_self))
    (g := F0 m pc ls rest) rfl (by rw [hb]; exact d0) (Nat.le_refl _) (Nat.le_refl _)
  generalize hT1 : (T.setVm vm₁).pushCell { cls := cX, slots := kX.instanceTypes.map defaultValue, vm := .none } = T1 at X₁ st1
  have hcat : (Value.ref T.heap.size).category = 1 := rfl
  have hcellA : T1.heap[T.heap.size]? = some (freshCell cX kX) := by rw [← hT1]; exact State.heap_pushCell_size _ _
  have d3' : decode c.code (pc + 3) = .ok (.dup, 1) := by rw [hb]; exact d3
  have d4' : decode c.code (pc + 4) = .ok (.ldc is, 2) := by rw [hb]; exact d4
  have hstr' : vk_R own is text sa s' := vk_R.warm hW0 hstr
  obtain ⟨U, hsteps, hrun, hend, hW, hsame, ce, hce, hvm9, hcl9⟩ := nt_ctor X₁ hexec htr (own := own) (ic := ic) hown' h (fun x hx => nomatch hx) hfX hkX hcellA (by rw [hhp, hT]; exact Nat.le_refl _) (msg := .ref sa) rfl
    (g := { method := m, pc := pc + 6, locals := ls, stack := .ref sa :: .ref T.heap.size :: .ref T.heap.size :: rest, locked := none }) rfl hsize rfl rfl (rest := rest) rfl
    (by rw [hb]; exact d6) (by rw [hb]; exact d9) hout hRf (by simp only [List.map_cons, List.sum_cons, hcat]; show 2 * 0 + _ + 81 ≤ _; omega) hlocks
  obtain ⟨f1, f2⟩ := vx_frame hsame
  rw [hhp] at f1 f2
  have hWs : s.WarmedH U.vm := State.WarmedH.trans hW0 hW
  have hcl : s.vm.findClass nse = some ce.cls := by
    rw [hvm] at hcl9
    exact hcl9
  have hall : s.sameButNew ({ U with vm := s.vm } : State) locs mc ms := by
    subst hA
    obtain ⟨e1, e2⟩ := hsame
    rw [State.setFrames_setFrames] at e1
    have h2 : (T.setVm s.vm).sameButNew ({ U with vm := s.vm } : State) [] (0 + 1) (0 + 6) := ⟨e1, e2⟩
    have h3 := X.same.trans h2
    rw [List.append_nil] at h3
    exact h3.mono hc hs
  refine ⟨U, ?_, .threw T.heap.size, hrun, hend, Or.inr ⟨T.heap.size, rfl, nse, ce, locs, hx U hWs.alike f1 (fun q hq => f2 q hq (fun z hz => nomatch hz)), hce, hvm9, hcl, hWs, hall, hf⟩⟩
  refine st1 _ ?_
  show Steps p.tables e below (T1.setTop { method := m, pc := pc + 3, locals := ls, stack := .ref T.heap.size :: rest, locked := none }) _
  jvm_step X₁.here [X₁.here.top, hexec, d3', Value.category]
  exact X₁.ldcString hexec (own := own) (text := text) (index := is) (a := sa) hown' hstr'.1 hstr'.2
    (g := { method := m, pc := pc + 4, locals := ls, stack := .ref T.heap.size :: .ref T.heap.size :: rest, locked := none }) rfl d4' _ hsteps
end NSE2
section NSE3
variable {sc : Nat × Nat} {mi d c0 s0 pc : Nat} {lo st : List Nat} {L : iv_H}
theorem nt_pe : nse = pm_e (166020696663385964548 - 166020696663385964544) := by
  rw [show (166020696663385964548 - 166020696663385964544 : Nat) = 4 by decide]
  rfl
set_option maxRecDepth 100000 in
theorem iw_thrN {is : Nat} {text : String} (hh : pm_h mi = []) (hy : (pm_y mi).cls = "LentNames") (ht : ("LentNames", is, text) ∈ iv_str)
    (d0 : decode (pm_b mi) pc = .ok (.new 227, 3)) (d3 : decode (pm_b mi) (pc + 3) = .ok (.dup, 1)) (d4 : decode (pm_b mi) (pc + 4) = .ok (.ldc is, 2)) (d6 : decode (pm_b mi) (pc + 6) = .ok (.invokespecial 231, 3)) (d9 : decode (pm_b mi) (pc + 9) = .ok (.athrow, 1))
    (hA0 : ∀ w ∈ Cond.classLink "LentNames" 227 nse :: Cond.initialized nse :: (nt_at "LentNames" 231).filter vx_no, (w ∈ iv_T ∨ (w ∈ lw_tbl ∧ iv_nk w = true)) ∧ vx_ot w = true)
    (a1 : c0 + 1 ≤ (pg_i mi).2.2.1) (a2 : s0 + 6 ≤ (pg_i mi).2.2.2) (a3 : iv_wl st ≤ 8) : iw_all sc mi d (166020696663385964548, L) c0 s0 pc lo st L := by
  intro p l e R s m args below meth c D cI cB cJ b ws0 Y ws H locs ls sv hS hc hs
  obtain ⟨hW, hL, hK, hP, hD, hA, hX⟩ := hS
  obtain ⟨hx, hb, hml, hown, hts, hE, hRm, hl, hlk, hnm, hrt, htb⟩ := Y
  have hw := iv_stk_wl hK
  obtain ⟨sa, hsa⟩ := hE.2.2.1 _ ht
  rw [hy] at hown
  have hout : ∀ z ∈ c.exceptionTable.toList, covers z (pc + 9) = false := fun z hz => by
    rw [htb, hh] at hz
    cases hz
  have hat : ∀ w ∈ Cond.classLink "LentNames" 227 nse :: Cond.initialized nse :: (nt_at "LentNames" 231).filter vx_no, w.before args s = true ∧ vx_ot w = true := fun w hw => by
    obtain ⟨g, g2⟩ := hA0 w hw
    refine ⟨?_, g2⟩
    rcases g with g | ⟨g1, g3⟩
    · exact hts _ g
    · exact iv_nk_use g3 (hE.2.1 _ g1 g3)
  have hXC : ∀ t : State, s.vm.Alike t.vm → H.size ≤ t.heap.size → (∀ q : Nat, q < H.size → t.heap[q]? = H[q]?) → iv_XC D cI cB cJ b ws0 (166020696663385964548, L) nse s t := fun t _ h1 h2 => by
    refine ⟨by show 147573952589676412928 < 166020696663385964548; decide, nt_pe, ws, hW, hX, fun k q hk => (hP k q hk).kept (h2 _ (hP k q hk).lt), hD, Nat.le_trans hA.1 h1, fun q h3 h4 => ?_⟩
    rw [h2 q (Nat.lt_of_lt_of_le h3 hA.1)]
    exact hA.2.1 q h3 h4
  exact nt_throw hx hb hl hown hsa hat hE.2.2.2.2.1 hE.2.2.2.2.2.1 hA (by rw [hml]; exact iv_locs hL) d0 d3 d4 d6 d9 hout (by omega) (by omega) (by omega) (by omega) hlk hXC (fun z hz => hA.2.2 z hz) a1 a2
end NSE3
/-! ===== the words of NoSuchElementException ===== -/
set_option maxRecDepth 100000 in
theorem nt_w : ∀ w ∈ nt_at "LentNames" 231, vx_no w = true → iv_AQ w := List.forall_mem_cons.mpr ⟨fun _ => ⟨Or.inl (tb_g (tb_1 (List.mem_of_getElem? (i := 20) rfl)) rfl), rfl⟩, List.forall_mem_cons.mpr ⟨fun _ => ⟨Or.inl (tb_g (tb_4 (List.mem_of_getElem? (i := 155) rfl)) rfl), rfl⟩, List.forall_mem_cons.mpr ⟨fun _ => ⟨Or.inl (tb_g (tb_4 (List.mem_of_getElem? (i := 164) rfl)) rfl), rfl⟩, List.forall_mem_cons.mpr ⟨fun _ => ⟨Or.inl (tb_g (tb_4 (List.mem_of_getElem? (i := 170) rfl)) rfl), rfl⟩, List.forall_mem_cons.mpr ⟨fun _ => ⟨Or.inl (tb_g (tb_4 (List.mem_of_getElem? (i := 173) rfl)) rfl), rfl⟩, List.forall_mem_cons.mpr ⟨fun _ => ⟨Or.inl (tb_g (tb_4 (List.mem_of_getElem? (i := 175) rfl)) rfl), rfl⟩, List.forall_mem_cons.mpr ⟨fun _ => ⟨Or.inl (tb_g (tb_4 (List.mem_of_getElem? (i := 156) rfl)) rfl), rfl⟩, List.forall_mem_cons.mpr ⟨fun _ => ⟨Or.inl (tb_g (tb_4 (List.mem_of_getElem? (i := 157) rfl)) rfl), rfl⟩, List.forall_mem_cons.mpr ⟨fun _ => ⟨Or.inl (tb_g (tb_1 (List.mem_of_getElem? (i := 35) rfl)) rfl), rfl⟩, List.forall_mem_cons.mpr ⟨fun _ => ⟨Or.inl (tb_g (tb_1 (List.mem_of_getElem? (i := 36) rfl)) rfl), rfl⟩, List.forall_mem_cons.mpr ⟨fun _ => ⟨Or.inl (tb_g (tb_4 (List.mem_of_getElem? (i := 158) rfl)) rfl), rfl⟩, List.forall_mem_cons.mpr ⟨fun _ => ⟨Or.inl (tb_g (tb_4 (List.mem_of_getElem? (i := 163) rfl)) rfl), rfl⟩, List.forall_mem_cons.mpr ⟨fun _ => ⟨Or.inl (tb_g (tb_4 (List.mem_of_getElem? (i := 171) rfl)) rfl), rfl⟩, List.forall_mem_cons.mpr ⟨fun _ => ⟨Or.inl (tb_g (tb_4 (List.mem_of_getElem? (i := 191) rfl)) rfl), rfl⟩, List.forall_mem_cons.mpr ⟨fun _ => ⟨Or.inl (tb_g (tb_4 (List.mem_of_getElem? (i := 145) rfl)) rfl), rfl⟩, List.forall_mem_cons.mpr ⟨fun _ => ⟨Or.inl (tb_g (tb_4 (List.mem_of_getElem? (i := 192) rfl)) rfl), rfl⟩, List.forall_mem_cons.mpr ⟨fun _ => ⟨Or.inl (tb_g (tb_4 (List.mem_of_getElem? (i := 147) rfl)) rfl), rfl⟩, List.forall_mem_cons.mpr ⟨fun _ => ⟨Or.inl (tb_g (tb_4 (List.mem_of_getElem? (i := 193) rfl)) rfl), rfl⟩, List.forall_mem_cons.mpr ⟨fun _ => ⟨Or.inl (tb_g (tb_4 (List.mem_of_getElem? (i := 149) rfl)) rfl), rfl⟩, List.forall_mem_cons.mpr ⟨fun _ => ⟨Or.inl (tb_g (tb_4 (List.mem_of_getElem? (i := 159) rfl)) rfl), rfl⟩, List.forall_mem_cons.mpr ⟨fun h => absurd h (by decide +kernel), List.forall_mem_cons.mpr ⟨fun _ => ⟨Or.inl (tb_g (tb_4 (List.mem_of_getElem? (i := 161) rfl)) rfl), rfl⟩, List.forall_mem_cons.mpr ⟨fun h => absurd h (by decide +kernel), List.forall_mem_cons.mpr ⟨fun _ => ⟨Or.inl (tb_g (tb_4 (List.mem_of_getElem? (i := 151) rfl)) rfl), rfl⟩, List.forall_mem_cons.mpr ⟨fun _ => ⟨Or.inl (tb_g (tb_4 (List.mem_of_getElem? (i := 187) rfl)) rfl), rfl⟩, List.forall_mem_cons.mpr ⟨fun _ => ⟨Or.inl (tb_g (tb_4 (List.mem_of_getElem? (i := 188) rfl)) rfl), rfl⟩, List.forall_mem_cons.mpr ⟨fun _ => ⟨Or.inl (tb_g (tb_4 (List.mem_of_getElem? (i := 190) rfl)) rfl), rfl⟩, List.forall_mem_cons.mpr ⟨fun _ => ⟨Or.inl (tb_g (tb_4 (List.mem_of_getElem? (i := 151) rfl)) rfl), rfl⟩, List.forall_mem_cons.mpr ⟨fun _ => ⟨Or.inl (tb_g (tb_5 (List.mem_of_getElem? (i := 131) rfl)) rfl), rfl⟩, List.forall_mem_cons.mpr ⟨fun _ => ⟨Or.inl (tb_g (tb_5 (List.mem_of_getElem? (i := 132) rfl)) rfl), rfl⟩, List.forall_mem_cons.mpr ⟨fun _ => ⟨Or.inl (tb_g (tb_5 (List.mem_of_getElem? (i := 133) rfl)) rfl), rfl⟩, List.forall_mem_cons.mpr ⟨fun _ => ⟨Or.inl (tb_g (tb_4 (List.mem_of_getElem? (i := 181) rfl)) rfl), rfl⟩, List.forall_mem_cons.mpr ⟨fun _ => ⟨Or.inr ⟨tb_4 (List.mem_of_getElem? (i := 137) rfl), rfl⟩, rfl⟩, List.forall_mem_cons.mpr ⟨fun _ => ⟨Or.inl (tb_g (tb_4 (List.mem_of_getElem? (i := 181) rfl)) rfl), rfl⟩, List.forall_mem_cons.mpr ⟨fun _ => ⟨Or.inl (tb_g (tb_4 (List.mem_of_getElem? (i := 182) rfl)) rfl), rfl⟩, List.forall_mem_cons.mpr ⟨fun _ => ⟨Or.inl (tb_g (tb_4 (List.mem_of_getElem? (i := 183) rfl)) rfl), rfl⟩, List.forall_mem_cons.mpr ⟨fun _ => ⟨Or.inl (tb_g (tb_4 (List.mem_of_getElem? (i := 184) rfl)) rfl), rfl⟩, List.forall_mem_cons.mpr ⟨fun _ => ⟨Or.inr ⟨tb_4 (List.mem_of_getElem? (i := 139) rfl), rfl⟩, rfl⟩, List.forall_mem_cons.mpr ⟨fun _ => ⟨Or.inl (tb_g (tb_4 (List.mem_of_getElem? (i := 184) rfl)) rfl), rfl⟩, List.forall_mem_cons.mpr ⟨fun _ => ⟨Or.inl (tb_g (tb_4 (List.mem_of_getElem? (i := 185) rfl)) rfl), rfl⟩, List.forall_mem_cons.mpr ⟨fun _ => ⟨Or.inl (tb_g (tb_4 (List.mem_of_getElem? (i := 186) rfl)) rfl), rfl⟩, List.forall_mem_cons.mpr ⟨fun _ => ⟨Or.inl (tb_g (tb_4 (List.mem_of_getElem? (i := 187) rfl)) rfl), rfl⟩, List.forall_mem_cons.mpr ⟨fun _ => ⟨Or.inr ⟨tb_4 (List.mem_of_getElem? (i := 141) rfl), rfl⟩, rfl⟩, List.forall_mem_cons.mpr ⟨fun _ => ⟨Or.inl (tb_g (tb_5 (List.mem_of_getElem? (i := 130) rfl)) rfl), rfl⟩, List.forall_mem_cons.mpr ⟨fun _ => ⟨Or.inl (tb_g (tb_5 (List.mem_of_getElem? (i := 121) rfl)) rfl), rfl⟩, List.forall_mem_cons.mpr ⟨fun _ => ⟨Or.inl (tb_g (tb_5 (List.mem_of_getElem? (i := 123) rfl)) rfl), rfl⟩, List.forall_mem_cons.mpr ⟨fun _ => ⟨Or.inl (tb_g (tb_4 (List.mem_of_getElem? (i := 169) rfl)) rfl), rfl⟩, List.forall_mem_cons.mpr ⟨fun _ => ⟨Or.inl (tb_g (tb_5 (List.mem_of_getElem? (i := 124) rfl)) rfl), rfl⟩, List.forall_mem_cons.mpr ⟨fun _ => ⟨Or.inl (tb_g (tb_5 (List.mem_of_getElem? (i := 125) rfl)) rfl), rfl⟩, List.forall_mem_cons.mpr ⟨fun _ => ⟨Or.inl (tb_g (tb_5 (List.mem_of_getElem? (i := 126) rfl)) rfl), rfl⟩, List.forall_mem_cons.mpr ⟨fun _ => ⟨Or.inl (tb_g (tb_5 (List.mem_of_getElem? (i := 127) rfl)) rfl), rfl⟩, List.forall_mem_cons.mpr ⟨fun h => absurd h (by decide +kernel), List.forall_mem_cons.mpr ⟨fun h => absurd h (by decide +kernel), List.forall_mem_cons.mpr ⟨fun _ => ⟨Or.inl (tb_g (tb_4 (List.mem_of_getElem? (i := 154) rfl)) rfl), rfl⟩, List.forall_mem_cons.mpr ⟨fun _ => ⟨Or.inl (tb_g (tb_4 (List.mem_of_getElem? (i := 153) rfl)) rfl), rfl⟩, List.forall_mem_cons.mpr ⟨fun _ => ⟨Or.inl (tb_g (tb_5 (List.mem_of_getElem? (i := 128) rfl)) rfl), rfl⟩, fun w hw => nomatch hw⟩⟩⟩⟩⟩⟩⟩⟩⟩⟩⟩⟩⟩⟩⟩⟩⟩⟩⟩⟩⟩⟩⟩⟩⟩⟩⟩⟩⟩⟩⟩⟩⟩⟩⟩⟩⟩⟩⟩⟩⟩⟩⟩⟩⟩⟩⟩⟩⟩⟩⟩⟩⟩⟩⟩⟩
theorem nt_all : ∀ w ∈ Cond.classLink "LentNames" 227 nse :: Cond.initialized nse :: (nt_at "LentNames" 231).filter vx_no, (w ∈ iv_T ∨ (w ∈ lw_tbl ∧ iv_nk w = true)) ∧ vx_ot w = true := by
  intro w hw
  rcases List.mem_cons.mp hw with rfl | hw
  · exact ⟨Or.inl (tb_g (tb_5 (List.mem_of_getElem? (i := 120) rfl)) rfl), rfl⟩
  · rcases List.mem_cons.mp hw with rfl | hw
    · exact ⟨Or.inl (tb_g (tb_1 (List.mem_of_getElem? (i := 27) rfl)) rfl), rfl⟩
    · exact nt_w w (List.mem_filter.mp hw).1 (List.mem_filter.mp hw).2
theorem x_thrN {sc : Nat × Nat} {mi d c0 s0 pc : Nat} {lo st : List Nat} {h : xh} {Q : Nat → xh → Prop} {is : Nat} {text : String} (hh : pm_h mi = []) (hy : (pm_y mi).cls = "LentNames") (ht : ("LentNames", is, text) ∈ iv_str)
    (d0 : decode (pm_b mi) pc = .ok (.new 227, 3)) (d3 : decode (pm_b mi) (pc + 3) = .ok (.dup, 1)) (d4 : decode (pm_b mi) (pc + 4) = .ok (.ldc is, 2)) (d6 : decode (pm_b mi) (pc + 6) = .ok (.invokespecial 231, 3)) (d9 : decode (pm_b mi) (pc + 9) = .ok (.athrow, 1))
    (hb : c0 + 1 ≤ (pg_i mi).2.2.1 ∧ s0 + 6 ≤ (pg_i mi).2.2.2) (h3 : iv_wl st ≤ 8) (hq : Q (166020696663385964544 + 4) h) : X sc mi d Q c0 s0 pc lo st h := fun L hL =>
  ⟨166020696663385964544 + 4, L, h, hL, hq, iw_thrN hh hy ht d0 d3 d4 d6 d9 nt_all hb.1 hb.2 h3⟩
