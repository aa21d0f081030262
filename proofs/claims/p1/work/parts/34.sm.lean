/-! ===== known runs ===== -/
set_option maxRecDepth 100000 in
theorem sm_0 : iv_Tri (0, 0) 12 103 [18446744073709551616] hp_1 (147573952589676412928, hp_2) := iv_tri (SM := []) 100000 12 103 [18446744073709551616] hp_1 _ (fun q hq => nomatch hq) (by decide +kernel) (by decide +kernel) (iv_ok_eq (by decide +kernel))
set_option maxRecDepth 100000 in
theorem sm_1 : iv_Tri (0, 0) 12 211 [18446744073709551691] hp_3 (147573952589676412928, hp_4) := iv_tri (SM := []) 100000 12 211 [18446744073709551691] hp_3 _ (fun q hq => nomatch hq) (by decide +kernel) (by decide +kernel) (iv_ok_eq (by decide +kernel))
set_option maxRecDepth 100000 in
theorem sm_2 : iv_Tri (0, 0) 12 211 [18446744073709551691] hp_5 (147573952589676412928, hp_6) := iv_tri (SM := []) 100000 12 211 [18446744073709551691] hp_5 _ (fun q hq => nomatch hq) (by decide +kernel) (by decide +kernel) (iv_ok_eq (by decide +kernel))
set_option maxRecDepth 100000 in
theorem sm_3 : iv_Tri (0, 0) 12 211 [18446744073709551691] hp_7 (147573952589676412928, hp_8) := iv_tri (SM := []) 100000 12 211 [18446744073709551691] hp_7 _ (fun q hq => nomatch hq) (by decide +kernel) (by decide +kernel) (iv_ok_eq (by decide +kernel))
set_option maxRecDepth 100000 in
theorem sm_4 : iv_Tri (0, 0) 12 211 [18446744073709551691] hp_9 (147573952589676412928, hp_10) := iv_tri (SM := []) 100000 12 211 [18446744073709551691] hp_9 _ (fun q hq => nomatch hq) (by decide +kernel) (by decide +kernel) (iv_ok_eq (by decide +kernel))
set_option maxRecDepth 100000 in
theorem sm_5 : iv_Tri (0, 0) 12 211 [18446744073709551691] hp_11 (147573952589676412928, hp_12) := iv_tri (SM := []) 100000 12 211 [18446744073709551691] hp_11 _ (fun q hq => nomatch hq) (by decide +kernel) (by decide +kernel) (iv_ok_eq (by decide +kernel))
set_option maxRecDepth 100000 in
theorem sm_6 : iv_Tri (0, 0) 12 211 [18446744073709551691] hp_13 (147573952589676412928, hp_14) := iv_tri (SM := []) 100000 12 211 [18446744073709551691] hp_13 _ (fun q hq => nomatch hq) (by decide +kernel) (by decide +kernel) (iv_ok_eq (by decide +kernel))
set_option maxRecDepth 100000 in
theorem sm_7 : iv_Tri (0, 0) 12 211 [18446744073709551691] hp_15 (147573952589676412928, hp_16) := iv_tri (SM := []) 100000 12 211 [18446744073709551691] hp_15 _ (fun q hq => nomatch hq) (by decide +kernel) (by decide +kernel) (iv_ok_eq (by decide +kernel))
set_option maxRecDepth 100000 in
theorem sm_8 : iv_Tri (0, 0) 12 211 [18446744073709551691] hp_17 (147573952589676412928, hp_18) := iv_tri (SM := []) 100000 12 211 [18446744073709551691] hp_17 _ (fun q hq => nomatch hq) (by decide +kernel) (by decide +kernel) (iv_ok_eq (by decide +kernel))
set_option maxRecDepth 100000 in
theorem sm_9 : iv_Tri (0, 0) 12 211 [18446744073709551691] hp_19 (147573952589676412928, hp_20) := iv_tri (SM := []) 100000 12 211 [18446744073709551691] hp_19 _ (fun q hq => nomatch hq) (by decide +kernel) (by decide +kernel) (iv_ok_eq (by decide +kernel))
set_option maxRecDepth 100000 in
theorem sm_10 : iv_Tri (0, 0) 12 211 [18446744073709551691] hp_21 (147573952589676412928, hp_22) := iv_tri (SM := []) 100000 12 211 [18446744073709551691] hp_21 _ (fun q hq => nomatch hq) (by decide +kernel) (by decide +kernel) (iv_ok_eq (by decide +kernel))
set_option maxRecDepth 100000 in
theorem sm_11 : iv_Tri (0, 0) 12 211 [18446744073709551691] hp_23 (147573952589676412928, hp_24) := iv_tri (SM := []) 100000 12 211 [18446744073709551691] hp_23 _ (fun q hq => nomatch hq) (by decide +kernel) (by decide +kernel) (iv_ok_eq (by decide +kernel))
set_option maxRecDepth 100000 in
theorem sm_12 : iv_Tri (0, 0) 12 211 [18446744073709551691] hp_25 (147573952589676412928, hp_26) := iv_tri (SM := []) 100000 12 211 [18446744073709551691] hp_25 _ (fun q hq => nomatch hq) (by decide +kernel) (by decide +kernel) (iv_ok_eq (by decide +kernel))
set_option maxRecDepth 100000 in
theorem sm_13 : iv_Tri (0, 0) 12 211 [18446744073709551691] hp_27 (147573952589676412928, hp_28) := iv_tri (SM := []) 100000 12 211 [18446744073709551691] hp_27 _ (fun q hq => nomatch hq) (by decide +kernel) (by decide +kernel) (iv_ok_eq (by decide +kernel))
set_option maxRecDepth 100000 in
theorem sm_14 : iv_Tri (0, 0) 12 211 [18446744073709551691] hp_29 (147573952589676412928, hp_30) := iv_tri (SM := []) 100000 12 211 [18446744073709551691] hp_29 _ (fun q hq => nomatch hq) (by decide +kernel) (by decide +kernel) (iv_ok_eq (by decide +kernel))
set_option maxRecDepth 100000 in
theorem sm_15 : iv_Tri (0, 0) 12 211 [18446744073709551691] hp_31 (147573952589676412928, hp_32) := iv_tri (SM := []) 100000 12 211 [18446744073709551691] hp_31 _ (fun q hq => nomatch hq) (by decide +kernel) (by decide +kernel) (iv_ok_eq (by decide +kernel))
set_option maxRecDepth 100000 in
theorem sm_16 : iv_Tri (0, 0) 12 211 [18446744073709551691] hp_33 (147573952589676412928, hp_34) := iv_tri (SM := []) 100000 12 211 [18446744073709551691] hp_33 _ (fun q hq => nomatch hq) (by decide +kernel) (by decide +kernel) (iv_ok_eq (by decide +kernel))
set_option maxRecDepth 100000 in
theorem sm_17 : iv_Tri (0, 0) 12 211 [18446744073709551691] hp_35 (147573952589676412928, hp_36) := iv_tri (SM := []) 100000 12 211 [18446744073709551691] hp_35 _ (fun q hq => nomatch hq) (by decide +kernel) (by decide +kernel) (iv_ok_eq (by decide +kernel))
def sm_all : iv_S := [(103, [18446744073709551616], hp_1, 147573952589676412928, hp_2), (211, [18446744073709551691], hp_3, 147573952589676412928, hp_4), (211, [18446744073709551691], hp_5, 147573952589676412928, hp_6), (211, [18446744073709551691], hp_7, 147573952589676412928, hp_8), (211, [18446744073709551691], hp_9, 147573952589676412928, hp_10), (211, [18446744073709551691], hp_11, 147573952589676412928, hp_12), (211, [18446744073709551691], hp_13, 147573952589676412928, hp_14), (211, [18446744073709551691], hp_15, 147573952589676412928, hp_16), (211, [18446744073709551691], hp_17, 147573952589676412928, hp_18), (211, [18446744073709551691], hp_19, 147573952589676412928, hp_20), (211, [18446744073709551691], hp_21, 147573952589676412928, hp_22), (211, [18446744073709551691], hp_23, 147573952589676412928, hp_24), (211, [18446744073709551691], hp_25, 147573952589676412928, hp_26), (211, [18446744073709551691], hp_27, 147573952589676412928, hp_28), (211, [18446744073709551691], hp_29, 147573952589676412928, hp_30), (211, [18446744073709551691], hp_31, 147573952589676412928, hp_32), (211, [18446744073709551691], hp_33, 147573952589676412928, hp_34), (211, [18446744073709551691], hp_35, 147573952589676412928, hp_36)]
theorem sm_ok (sc : Nat × Nat) : ∀ q ∈ sm_all, iv_Tri sc 12 q.1 q.2.1 q.2.2.1 q.2.2.2 := List.forall_mem_cons.mpr ⟨iv_lift sm_0, List.forall_mem_cons.mpr ⟨iv_lift sm_1, List.forall_mem_cons.mpr ⟨iv_lift sm_2, List.forall_mem_cons.mpr ⟨iv_lift sm_3, List.forall_mem_cons.mpr ⟨iv_lift sm_4, List.forall_mem_cons.mpr ⟨iv_lift sm_5, List.forall_mem_cons.mpr ⟨iv_lift sm_6, List.forall_mem_cons.mpr ⟨iv_lift sm_7, List.forall_mem_cons.mpr ⟨iv_lift sm_8, List.forall_mem_cons.mpr ⟨iv_lift sm_9, List.forall_mem_cons.mpr ⟨iv_lift sm_10, List.forall_mem_cons.mpr ⟨iv_lift sm_11, List.forall_mem_cons.mpr ⟨iv_lift sm_12, List.forall_mem_cons.mpr ⟨iv_lift sm_13, List.forall_mem_cons.mpr ⟨iv_lift sm_14, List.forall_mem_cons.mpr ⟨iv_lift sm_15, List.forall_mem_cons.mpr ⟨iv_lift sm_16, List.forall_mem_cons.mpr ⟨iv_lift sm_17, fun q hq => nomatch hq⟩⟩⟩⟩⟩⟩⟩⟩⟩⟩⟩⟩⟩⟩⟩⟩⟩⟩
