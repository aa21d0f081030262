/-! ===== throws ===== -/
section THR
variable {sc : Nat × Nat} {mi d : Nat} {out : Nat × iv_H} {p : Program} {l : Launch} {e : Env} {R : Room} {s : State} {m : MethodId} {args : Array Value} {below : List Frame} {meth : Method} {c : Code} {D : va_G} {cI cB cJ : ClassId} {b : Nat → Nat} {ws0 : va_W} {ih : iv_I} {c0 s0 pc np x : Nat} {lo st : List Nat} {L : iv_H}
def iv_xn : List String := ["java/lang/RuntimeException", "java/lang/Exception"]
/-- 'throw new E("text")' stands at pc -/
def iv_ROK (mi pc x : Nat) : Prop := pm_h mi = [] ∧ Bundle.fit (pm_e x) = true ∧ ∃ (ik is ic : Nat) (text : String), Cond.classLink (pm_y mi).cls ik (pm_e x) ∈ iv_T ∧ Cond.initialized (pm_e x) ∈ iv_T ∧ ((pm_y mi).cls, is, text) ∈ iv_str ∧ (∀ w ∈ vx_atS (pm_y mi).cls ic (pm_e x) iv_xn, (w ∈ iv_T ∨ (w ∈ lw_tbl ∧ iv_nk w = true)) ∧ vx_ot w = true) ∧
  decode (pm_b mi) pc = .ok (.new ik, 3) ∧ decode (pm_b mi) (pc + 3) = .ok (.dup, 1) ∧ ((decode (pm_b mi) (pc + 4) = .ok (.ldc is, 2) ∧ decode (pm_b mi) (pc + 6) = .ok (.invokespecial ic, 3) ∧ decode (pm_b mi) (pc + 9) = .ok (.athrow, 1)) ∨ (decode (pm_b mi) (pc + 4) = .ok (.ldc_w is, 3) ∧ decode (pm_b mi) (pc + 7) = .ok (.invokespecial ic, 3) ∧ decode (pm_b mi) (pc + 10) = .ok (.athrow, 1)))
theorem iv_nk_use {w : Cond} (hk : iv_nk w = true) (h : va_Nw w s) : w.before args s = true := by
  cases w with
  | methodLinkNest a i x h' => exact va_Nw.use rfl h
  | declares x => exact va_Nw.use rfl h
  | castable C T => exact va_Nw.use rfl h
  | privateMethod x => exact va_Nw.use rfl h
  | _ => cases hk
theorem iv_ot {w : Cond} (h : w ∈ iv_T) : vx_ot w = true := by
  unfold vx_ot
  rw [(List.mem_filter.mp h).2, Bool.or_true]
theorem iv_xn_fit : ∀ n ∈ iv_xn, Bundle.fit n = true := by
  intro n hn
  rcases List.mem_cons.mp hn with rfl | hn
  · decide +kernel
  · rcases List.mem_cons.mp hn with rfl | hn
    · decide +kernel
    · cases hn
set_option maxRecDepth 100000 in
theorem ss_thr (X : iv_Cx sc mi d p l R s m args meth c D cI cB cJ b ws0) (hx5 : x ≤ 4) (hR : iv_ROK mi pc x) (h : iv_oThr (d, mi, c0, s0) x st L = some out) : iv_G mi out p l e R s m args below meth c D cI cB cJ b ws0 c0 s0 pc lo st L := by
  intro ws H locs ls sv hS hc hs
  obtain ⟨hW, hL, hK, hP, hD, hA, hX⟩ := hS
  obtain ⟨hx, hb, hml, hown, hts, hE, hRm, hl, hlk, hnm, hrt, htb⟩ := X
  obtain ⟨a1, h⟩ := iv_b1 h
  obtain ⟨a2, h⟩ := iv_b1 h
  obtain ⟨a3, h⟩ := iv_b1 h
  have h := Option.some.inj h
  rw [iv_n7, iv_n6] at a1
  rw [iv_n7, iv_n3] at a2
  rw [iv_n7] at a3
  have a1 : c0 + 1 ≤ (pg_i mi).2.2.1 := a1
  have a2 : s0 + 6 ≤ (pg_i mi).2.2.2 := a2
  rw [iv_n3] at h
  have o1 : out.1 = 166020696663385964544 + x := by rw [← h]
  have o2 : out.2 = L := by rw [← h]
  have hw := iv_stk_wl hK
  obtain ⟨r0, r1, ik, is, ic, text, r2, r3, r4, r5, r6, r7, r8⟩ := hR
  obtain ⟨sa, hsa⟩ := hE.2.2.1 _ r4
  have hout : ∀ z ∈ c.exceptionTable.toList, False := fun z hz => by
    rw [htb, r0] at hz
    cases hz
  have hat : ∀ w ∈ vx_atS (pm_y mi).cls ic (pm_e x) iv_xn, w.before args s = true := fun w hw => by
    rcases (r5 w hw).1 with g | ⟨g1, g2⟩
    · exact hts _ g
    · exact iv_nk_use g2 (hE.2.1 _ g1 g2)
  have hgd : ∀ w ∈ Cond.classLink (pm_y mi).cls ik (pm_e x) :: Cond.initialized (pm_e x) :: vx_atS (pm_y mi).cls ic (pm_e x) iv_xn, vx_ot w = true := fun w hw => by
    rcases List.mem_cons.mp hw with rfl | hw
    · exact iv_ot r2
    · rcases List.mem_cons.mp hw with rfl | hw
      · exact iv_ot r3
      · exact (r5 w hw).2
  have hXC : ∀ t : State, s.vm.Alike t.vm → H.size ≤ t.heap.size → (∀ q : Nat, q < H.size → t.heap[q]? = H[q]?) → iv_XC D cI cB cJ b ws0 out (pm_e x) s t := fun t _ h1 h2 => by
    refine ⟨by rw [o1]; omega, by rw [o1, Nat.add_sub_cancel_left], ws, by rw [o2]; exact hW, hX, fun k q hk => (hP k q hk).kept (h2 _ (hP k q hk).lt), hD, Nat.le_trans hA.1 h1, fun q h3 h4 => ?_⟩
    rw [h2 q (Nat.lt_of_lt_of_le h3 hA.1)]
    exact hA.2.1 q h3 h4
  have n2 : iv_xn.length = 2 := rfl
  rcases r8 with ⟨e1, e2, e3⟩ | ⟨e1, e2, e3⟩
  · exact vx_throwS hx hb hl hown r1 iv_xn_fit (hts _ r2) (hts _ r3) hsa hat hgd hE.2.2.2.2.1 hE.2.2.2.2.2.1 hA (by rw [hml]; exact iv_locs hL) r6 r7 e1 e2 e3 (fun z hz => (hout z hz).elim) (by rw [n2]; omega) (by rw [n2]; omega) (by omega) (by omega) hlk hXC (fun z hz => hA.2.2 z hz) a1 a2
  · exact vx_throwSW hx hb hl hown r1 iv_xn_fit (hts _ r2) (hts _ r3) hsa hat hgd hE.2.2.2.2.1 hE.2.2.2.2.2.1 hA (by rw [hml]; exact iv_locs hL) r6 r7 e1 e2 e3 (fun z hz => (hout z hz).elim) (by rw [n2]; omega) (by rw [n2]; omega) (by omega) (by omega) hlk hXC (fun z hz => hA.2.2 z hz) a1 a2
end THR
