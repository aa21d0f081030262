/-! ===== the interpreter is sound ===== -/
section SOUND
variable {sc : Nat × Nat} {mi d : Nat} {out : Nat × iv_H} {p : Program} {l : Launch} {e : Env} {R : Room} {s : State} {m : MethodId} {args : Array Value} {below : List Frame} {meth : Method} {c : Code} {D : va_G} {cI cB cJ : ClassId} {b : Nat → Nat} {ws0 : va_W} {ih : iv_I} {c0 s0 pc np x op : Nat} {lo st : List Nat} {L : iv_H}
theorem iv_wl_len : ∀ (as : List Nat), as.length ≤ iv_wl as
  | [] => Nat.le_refl _
  | a :: t => by
    have ih := iv_wl_len t
    have e : iv_wl (a :: t) = Nat.add (@Bool.rec (fun _ => Nat) 2 1 (Nat.ble a 73786976294838206463)) (iv_wl t) := rfl
    rw [e, iv_bN, iv_n3, List.length_cons]
    split <;> omega
theorem iv_wl_one : ∀ (as : List Nat), iv_wl as ≤ as.length → ∀ v ∈ as, v < 73786976294838206464
  | [], _, v, hv => by cases hv
  | a :: t, h, v, hv => by
    have h2 := iv_wl_len t
    have e : iv_wl (a :: t) = Nat.add (@Bool.rec (fun _ => Nat) 2 1 (Nat.ble a 73786976294838206463)) (iv_wl t) := rfl
    rw [e, iv_bN, iv_n3, List.length_cons] at h
    simp only [iv_n7] at h
    by_cases ha : a ≤ 73786976294838206463
    · rw [if_pos ha] at h
      rcases List.mem_cons.mp hv with rfl | hv
      · omega
      · exact iv_wl_one t (by omega) v hv
    · rw [if_neg ha] at h
      omega
theorem iv_one_sl : ∀ (vs : List Value), (∀ V ∈ vs, V.category = 1) → (lg_sl vs).length = vs.length
  | [], _ => rfl
  | V :: t, h => by
    have e : lg_sl (V :: t) = (if V.category = 2 then [Slot.val V, .second] else [.val V]) ++ lg_sl t := rfl
    have h1 := h V List.mem_cons_self
    rw [e, if_neg (by omega), List.length_append, iv_one_sl t (fun z hz => h z (List.mem_cons_of_mem _ hz)), List.length_cons (a := V)]
    show 1 + _ = _
    omega
theorem iv_one_args : ∀ (k : Nat) (vs : List Value), (∀ V ∈ vs, V.category = 1) → ∀ i V, vs[i]? = some V → (k + i, V) ∈ lv_args k vs
  | _, [], _, i, V, hi => by cases hi
  | k, W0 :: t, h, i, V, hi => by
    have e : lv_args k (W0 :: t) = (k, W0) :: lv_args (if W0.category = 2 then k + 2 else k + 1) t := rfl
    have h1 := h W0 List.mem_cons_self
    rw [e, if_neg (by omega)]
    cases i with
    | zero =>
      cases hi
      exact List.mem_cons_self
    | succ j =>
      have g := iv_one_args (k + 1) t (fun z hz => h z (List.mem_cons_of_mem _ hz)) j V hi
      have e2 : k + (j + 1) = k + 1 + j := by omega
      rw [e2]
      exact List.mem_cons_of_mem _ g
theorem iv_args_one : ∀ (k : Nat) (vs : List Value), (∀ V ∈ vs, V.category = 1) → ∀ q ∈ lv_args k vs, q.2.category = 1
  | _, [], _, q, hq => by cases hq
  | k, W0 :: t, h, q, hq => by
    have e : lv_args k (W0 :: t) = (k, W0) :: lv_args (if W0.category = 2 then k + 2 else k + 1) t := rfl
    rw [e] at hq
    rcases List.mem_cons.mp hq with rfl | hq
    · exact h W0 List.mem_cons_self
    · exact iv_args_one _ t (fun z hz => h z (List.mem_cons_of_mem _ hz)) q hq
theorem iv_stk_get {al : Nat → Option Nat} : ∀ {st : List Nat} {sv : List Value}, iv_stk b al st sv → ∀ (i v : Nat), st[i]? = some v → ∃ V, sv[i]? = some V ∧ iv_rel b al v V
  | [], [], _, i, v, hi => by cases hi
  | [], _ :: _, h, _, _, _ => h.elim
  | _ :: _, [], h, _, _, _ => h.elim
  | a :: t, V :: sv, h, 0, v, hi => by
    cases hi
    exact ⟨V, rfl, h.1⟩
  | a :: t, V :: sv, h, i + 1, v, hi => iv_stk_get h.2 i v hi
theorem iv_stk_cat1 {al : Nat → Option Nat} : ∀ {st : List Nat} {sv : List Value}, iv_stk b al st sv → (∀ v ∈ st, v < 73786976294838206464) → ∀ V ∈ sv, V.category = 1
  | [], [], _, _, V, hV => by cases hV
  | [], _ :: _, h, _, _, _ => h.elim
  | _ :: _, [], h, _, _, _ => h.elim
  | a :: t, V0 :: sv, h, g, V, hV => by
    rcases List.mem_cons.mp hV with rfl | hV
    · exact iv_rel_cat1 (g a List.mem_cons_self) h.1
    · exact iv_stk_cat1 h.2 (fun v hv => g v (List.mem_cons_of_mem _ hv)) V hV
theorem iv_enter {al : Nat → Option Nat} {as : List Nat} {vs : List Value} {nL : Nat} (hK : iv_stk b al as vs) (h1 : as.length ≤ nL) (h2 : iv_wl as ≤ as.length) : iv_loc b al (as ++ List.replicate (nL - as.length) 147573952589676412928) ((lg_sl vs ++ List.replicate (nL - (lg_sl vs).length) Slot.unset).toArray) nL ∧ (lg_sl vs).length ≤ nL := by
  have c1 := iv_stk_cat1 hK (iv_wl_one as h2)
  have e1 := iv_one_sl vs c1
  have e2 := iv_stk_len hK
  have hle : (lg_sl vs).length ≤ nL := by rw [e1, e2]; exact h1
  refine ⟨⟨by rw [List.length_append, List.length_replicate]; omega, lv_args 0 vs, lv_entry vs hle, iv_args_one 0 vs c1, fun i v hi hv => ?_⟩, hle⟩
  by_cases hlt : i < as.length
  · rw [List.getElem?_append_left hlt] at hi
    obtain ⟨V, g1, g2⟩ := iv_stk_get hK i v hi
    have g3 := iv_one_args 0 vs c1 i V g1
    rw [Nat.zero_add] at g3
    exact ⟨V, g3, g2⟩
  · rw [List.getElem?_append_right (by omega), List.getElem?_replicate] at hi
    split at hi
    · cases hi
      omega
    · cases hi
/-- the context at a method's begin -/
theorem iv_begin {ih : iv_I} (hMO : ∀ mj, pg_c mj ≠ 0 → plainName (pm_y mj).cls = true) (hz : ∀ d mj lo L, pg_c mj = 0 → ih (d, mj, 0, 0) (pg_c mj) 0 lo [] L = none)
    (hP : ∀ (d mi : Nat) (out : Nat × iv_H) (p : Program) (l : Launch) (e : Env) (R : Room) (s : State) (m : MethodId) (args : Array Value) (below : List Frame) (meth : Method) (c : Code) (D : va_G) (cI cB cJ : ClassId) (b : Nat → Nat) (ws0 : va_W), iv_Cx sc mi d p l R s m args meth c D cI cB cJ b ws0 → iv_IH ih d mi out p l e R s m args below meth c D cI cB cJ b ws0) : iv_TH sc ih := by
  intro d' mj as L oj h1 h2 h
  have hne : pg_c mj ≠ 0 := fun hz0 => by
    rw [hz _ _ _ _ hz0] at h
    cases h
  intro l D cI cB cJ b ws0 sz vs hl hW hK
  have body : ∀ (p : Program) (e : Env) (s : State) (m : MethodId) (args : Array Value) (below : List Frame) (meth : Method) (c : Code) (s₁ : State), BodyLoose p l (pm_y mj) (headSpec (pm_w mj) (iv_rm d' mj)) (pm_b mj) (pg_i mj).1 (pm_r mj) e s m args below meth c s₁ → c.maxLocals = (pg_i mj).1 → c.exceptionTable.toList = tableOf (pm_h mj) → iv_Pc sc D cI cB cJ b ws0 sz vs args s →
      W p l e (headSpec (pm_w mj) (iv_rm d' mj)).room s m args below meth c s.heap [] 0 0 (vx_MQ below (iv_Qc D cI cB cJ b ws0 oj) (iv_XC D cI cB cJ b ws0 oj) args s (pg_i mj).2.2.1 (pg_i mj).2.2.2 (va_A ws0 sz)) (entryFrame m args (pg_i mj).1) := by
    intro p e s m args below meth c s₁ B hml htb hPc
    obtain ⟨rfl, q2, q3, q4, q5⟩ := hPc
    have hat := atoms_spec B.pre
    have X : iv_Cx sc mj d' p l (headSpec (pm_w mj) (iv_rm d' mj)).room s m vs.toArray meth c D cI cB cJ b ws0 := by
      refine ⟨B.exec, B.bytes, hml, findClass_of_methodNamed B.named, fun w hw => hat w ?_, by rw [q2]; exact q5, ⟨Nat.le_refl _, Nat.le_refl _, Nat.le_refl _, Nat.le_refl _⟩, hl, B.notSynchronized, (name_of_methodNamed B.named B.method).1, B.returns, htb⟩
      rw [pm_w_eq]
      exact List.mem_cons_of_mem _ hw
    obtain ⟨k1, k2⟩ := iv_enter hK h1 h2
    rw [lg_entry_eq]
    have g := hP d' mj oj p l e _ s m vs.toArray below meth c D cI cB cJ b ws0 X 0 0 0 _ [] L h ws0 s.heap [] _ [] ⟨hW, k1, trivial, q3, ⟨q4.1, fun k q hk => va_A.in hk⟩, ⟨Nat.le_refl _, fun _ _ _ => rfl, fun z hz => nomatch hz⟩, iv_ext.refl _⟩ (Nat.zero_le _) (Nat.zero_le _)
    rw [q2] at g
    exact g
  by_cases hh : pm_h mj = []
  · refine vx_ofW (hMO mj hne) (by rw [pm_w_eq, iv_MW0 hh]) (fun p e s m args below meth c s₁ B hml ht hPc => body p e s m args below meth c s₁ B hml ?_ hPc)
    rw [hh]
    cases hx : c.exceptionTable.toList with
    | nil => rfl
    | cons a t => exact (ht a (by rw [hx]; exact List.mem_cons_self)).elim
  · refine vx_ofWH (hMO mj hne) (by rw [pm_w_eq, iv_MW1 hh]) (fun p e s m args below meth c s₁ B hml hPc => body p e s m args below meth c s₁ B hml ?_ hPc)
    exact vx_table (x := pm_y mj) B (atoms_spec B.pre _ (by rw [pm_w_eq, iv_MW1 hh]; exact List.mem_cons_self))
/-- the word at pc -/
def iv_wd (mi pc : Nat) : Nat := Nat.mod (Nat.shiftRight (pg_c mi) (Nat.mul 96 pc)) 79228162514264337593543950336
def iv_ck (kf km kw kt : Nat → Nat → Nat) (kq : Nat → Nat → Int32) (kb : Nat → Nat → Bool) (ki : Nat → Bool) (kz : Nat → Nat → Bool) (mi pc : Nat) : Bool := Nat.beq (Nat.mod (iv_wd mi pc) 256) 0 || (match decode (pm_b mi) pc with
  | .ok (i, len) => iv_ik kf km kw kt kq kb ki kz mi pc (Nat.div (iv_wd mi pc) 16777216) (Nat.mod (Nat.div (iv_wd mi pc) 256) 65536) (Nat.mod (iv_wd mi pc) 256) i len
  | .error _ => false)
theorem iv_op0 {SM : iv_S} {fr : Nat × Nat × Nat × Nat} {cd : Nat} : iv_op sc SM ih fr cd pc x np 0 lo st L = none := rfl
theorem iv_sound {kf km kw kt : Nat → Nat → Nat} {kq : Nat → Nat → Int32} {kb : Nat → Nat → Bool} {ki : Nat → Bool} {kz : Nat → Nat → Bool} {SM : iv_S}
    (hF : ∀ mi k, kf mi k < 65536 → iv_FOK (pm_y mi).cls k (kf mi k % 4096 % 64) (kf mi k % 4096 / 64)) (hFP : ∀ mi k, kf mi k < 65536 → (kf mi k / 16384 = 0 ∨ (kf mi k / 16384 = 1 ∧ ki mi = true)) → iv_FPK mi k (kf mi k)) (hN : ∀ mi k, kw mi k < 64 → iv_NOK mi k (kw mi k)) (hR9 : ∀ mi pc, kt mi pc ≤ 4 → iv_ROK mi pc (kt mi pc)) (hQ : ∀ mi k, kb mi k = true → Cond.constant (pm_y mi).cls k (kq mi k) ∈ iv_T) (hT9 : ∀ mi pc, kz mi pc = true → iv_TOK mi pc)
    (hM9 : ∀ mi idx k, k < 4 → km mi (4 * idx + k) < 4503599627370496 → iv_XOK mi idx (km mi (4 * idx + k)) k) (hA : Cond.arrayClass .int ∈ iv_T ∧ Cond.arrayClass .byte ∈ iv_T ∧ Cond.arrayClass .long ∈ iv_T) (hH : ∀ mi, iv_HOK mi ∧ iv_HO2 mi) (hMO : ∀ mj, pg_c mj ≠ 0 → plainName (pm_y mj).cls = true)
    (hCK : ∀ mi pc, iv_ck kf km kw kt kq kb ki kz mi pc = true) (hSM : ∀ q ∈ SM, iv_Tri sc 12 q.1 q.2.1 q.2.2.1 q.2.2.2) :
    ∀ (n d mi : Nat) (out : Nat × iv_H) (p : Program) (l : Launch) (e : Env) (R : Room) (s : State) (m : MethodId) (args : Array Value) (below : List Frame) (meth : Method) (c : Code) (D : va_G) (cI cB cJ : ClassId) (b : Nat → Nat) (ws0 : va_W), iv_Cx sc mi d p l R s m args meth c D cI cB cJ b ws0 → iv_IH (iv_ev sc SM n) d mi out p l e R s m args below meth c D cI cB cJ b ws0
  | 0 => fun d mi out p l e R s m args below meth c D cI cB cJ b ws0 X c0 s0 pc lo st L h => by cases h
  | n + 1 => fun d mi out p l e R s m args below meth c D cI cB cJ b ws0 X c0 s0 pc lo st L h => by
    have hP := iv_sound hF hFP hN hR9 hQ hT9 hM9 hA hH hMO hCK hSM n
    have hw0 : ∀ d mj lo L, pg_c mj = 0 → iv_ev sc SM n (d, mj, 0, 0) (pg_c mj) 0 lo [] L = none := fun d mj lo L hz => by
      cases n with
      | zero => rfl
      | succ k =>
        rw [hz]
        rfl
    have hTri : iv_TH sc (iv_ev sc SM n) := iv_begin hMO hw0 hP
    have h : iv_step sc SM (iv_ev sc SM n) (d, mi, c0, s0) (pg_c mi) pc lo st L = some out := h
    unfold iv_step at h
    rw [iv_f_eq] at h
    have h : iv_op sc SM (iv_ev sc SM n) (d, mi, c0, s0) (pg_c mi) pc (Nat.div (iv_wd mi pc) 16777216) (Nat.mod (Nat.div (iv_wd mi pc) 256) 65536) (Nat.mod (iv_wd mi pc) 256) lo st L = some out := h
    have hck := hCK mi pc
    unfold iv_ck at hck
    rcases (Bool.or_eq_true _ _).mp hck with g | g
    · rw [iv_n8] at g
      rw [g, iv_op0] at h
      cases h
    · cases hd : decode (pm_b mi) pc with
      | error z => rw [hd] at g; cases g
      | ok z =>
        obtain ⟨i, len⟩ := z
        rw [hd] at g
        exact ss_all X hF hFP hN hR9 hQ hT9 hM9 hA hH (hP d mi out p l e R s m args below meth c D cI cB cJ b ws0 X) hTri hSM hd g h
end SOUND
