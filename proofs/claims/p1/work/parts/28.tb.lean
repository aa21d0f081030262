/-! ===== throws, constants, switches, handlers ===== -/
def iv_AQ (w : Cond) : Prop := (w ∈ iv_T ∨ (w ∈ lw_tbl ∧ iv_nk w = true)) ∧ vx_ot w = true
set_option maxRecDepth 100000 in
theorem at_LentNames_116_0 : ∀ w ∈ Bundle.ownAtoms "LentNames" 116 (pm_e 0) iv_xn, vx_no w = true → iv_AQ w := List.forall_mem_cons.mpr ⟨fun _ => ⟨Or.inl (tb_g (tb_1 (List.mem_of_getElem? (i := 20) rfl)) rfl), rfl⟩, List.forall_mem_cons.mpr ⟨fun _ => ⟨Or.inl (tb_g (tb_4 (List.mem_of_getElem? (i := 155) rfl)) rfl), rfl⟩, List.forall_mem_cons.mpr ⟨fun _ => ⟨Or.inl (tb_g (tb_4 (List.mem_of_getElem? (i := 164) rfl)) rfl), rfl⟩, List.forall_mem_cons.mpr ⟨fun _ => ⟨Or.inl (tb_g (tb_4 (List.mem_of_getElem? (i := 170) rfl)) rfl), rfl⟩, List.forall_mem_cons.mpr ⟨fun _ => ⟨Or.inl (tb_g (tb_4 (List.mem_of_getElem? (i := 173) rfl)) rfl), rfl⟩, List.forall_mem_cons.mpr ⟨fun _ => ⟨Or.inl (tb_g (tb_4 (List.mem_of_getElem? (i := 175) rfl)) rfl), rfl⟩, List.forall_mem_cons.mpr ⟨fun _ => ⟨Or.inl (tb_g (tb_4 (List.mem_of_getElem? (i := 156) rfl)) rfl), rfl⟩, List.forall_mem_cons.mpr ⟨fun _ => ⟨Or.inl (tb_g (tb_4 (List.mem_of_getElem? (i := 157) rfl)) rfl), rfl⟩, List.forall_mem_cons.mpr ⟨fun _ => ⟨Or.inl (tb_g (tb_1 (List.mem_of_getElem? (i := 35) rfl)) rfl), rfl⟩, List.forall_mem_cons.mpr ⟨fun _ => ⟨Or.inl (tb_g (tb_1 (List.mem_of_getElem? (i := 36) rfl)) rfl), rfl⟩, List.forall_mem_cons.mpr ⟨fun _ => ⟨Or.inl (tb_g (tb_4 (List.mem_of_getElem? (i := 158) rfl)) rfl), rfl⟩, List.forall_mem_cons.mpr ⟨fun _ => ⟨Or.inl (tb_g (tb_4 (List.mem_of_getElem? (i := 163) rfl)) rfl), rfl⟩, List.forall_mem_cons.mpr ⟨fun _ => ⟨Or.inl (tb_g (tb_4 (List.mem_of_getElem? (i := 171) rfl)) rfl), rfl⟩, List.forall_mem_cons.mpr ⟨fun _ => ⟨Or.inl (tb_g (tb_4 (List.mem_of_getElem? (i := 191) rfl)) rfl), rfl⟩, List.forall_mem_cons.mpr ⟨fun _ => ⟨Or.inl (tb_g (tb_4 (List.mem_of_getElem? (i := 145) rfl)) rfl), rfl⟩, List.forall_mem_cons.mpr ⟨fun _ => ⟨Or.inl (tb_g (tb_4 (List.mem_of_getElem? (i := 192) rfl)) rfl), rfl⟩, List.forall_mem_cons.mpr ⟨fun _ => ⟨Or.inl (tb_g (tb_4 (List.mem_of_getElem? (i := 147) rfl)) rfl), rfl⟩, List.forall_mem_cons.mpr ⟨fun _ => ⟨Or.inl (tb_g (tb_4 (List.mem_of_getElem? (i := 193) rfl)) rfl), rfl⟩, List.forall_mem_cons.mpr ⟨fun _ => ⟨Or.inl (tb_g (tb_4 (List.mem_of_getElem? (i := 149) rfl)) rfl), rfl⟩, List.forall_mem_cons.mpr ⟨fun _ => ⟨Or.inl (tb_g (tb_4 (List.mem_of_getElem? (i := 159) rfl)) rfl), rfl⟩, List.forall_mem_cons.mpr ⟨fun h => absurd h (by decide +kernel), List.forall_mem_cons.mpr ⟨fun _ => ⟨Or.inl (tb_g (tb_4 (List.mem_of_getElem? (i := 161) rfl)) rfl), rfl⟩, List.forall_mem_cons.mpr ⟨fun h => absurd h (by decide +kernel), List.forall_mem_cons.mpr ⟨fun _ => ⟨Or.inl (tb_g (tb_4 (List.mem_of_getElem? (i := 151) rfl)) rfl), rfl⟩, List.forall_mem_cons.mpr ⟨fun _ => ⟨Or.inl (tb_g (tb_4 (List.mem_of_getElem? (i := 187) rfl)) rfl), rfl⟩, List.forall_mem_cons.mpr ⟨fun _ => ⟨Or.inl (tb_g (tb_4 (List.mem_of_getElem? (i := 188) rfl)) rfl), rfl⟩, List.forall_mem_cons.mpr ⟨fun _ => ⟨Or.inl (tb_g (tb_4 (List.mem_of_getElem? (i := 190) rfl)) rfl), rfl⟩, List.forall_mem_cons.mpr ⟨fun _ => ⟨Or.inl (tb_g (tb_4 (List.mem_of_getElem? (i := 151) rfl)) rfl), rfl⟩, List.forall_mem_cons.mpr ⟨fun _ => ⟨Or.inl (tb_g (tb_4 (List.mem_of_getElem? (i := 178) rfl)) rfl), rfl⟩, List.forall_mem_cons.mpr ⟨fun _ => ⟨Or.inl (tb_g (tb_4 (List.mem_of_getElem? (i := 179) rfl)) rfl), rfl⟩, List.forall_mem_cons.mpr ⟨fun _ => ⟨Or.inl (tb_g (tb_4 (List.mem_of_getElem? (i := 180) rfl)) rfl), rfl⟩, List.forall_mem_cons.mpr ⟨fun _ => ⟨Or.inl (tb_g (tb_4 (List.mem_of_getElem? (i := 181) rfl)) rfl), rfl⟩, List.forall_mem_cons.mpr ⟨fun _ => ⟨Or.inr ⟨tb_4 (List.mem_of_getElem? (i := 137) rfl), rfl⟩, rfl⟩, List.forall_mem_cons.mpr ⟨fun _ => ⟨Or.inl (tb_g (tb_4 (List.mem_of_getElem? (i := 181) rfl)) rfl), rfl⟩, List.forall_mem_cons.mpr ⟨fun _ => ⟨Or.inl (tb_g (tb_4 (List.mem_of_getElem? (i := 182) rfl)) rfl), rfl⟩, List.forall_mem_cons.mpr ⟨fun _ => ⟨Or.inl (tb_g (tb_4 (List.mem_of_getElem? (i := 183) rfl)) rfl), rfl⟩, List.forall_mem_cons.mpr ⟨fun _ => ⟨Or.inl (tb_g (tb_4 (List.mem_of_getElem? (i := 184) rfl)) rfl), rfl⟩, List.forall_mem_cons.mpr ⟨fun _ => ⟨Or.inr ⟨tb_4 (List.mem_of_getElem? (i := 139) rfl), rfl⟩, rfl⟩, List.forall_mem_cons.mpr ⟨fun _ => ⟨Or.inl (tb_g (tb_4 (List.mem_of_getElem? (i := 184) rfl)) rfl), rfl⟩, List.forall_mem_cons.mpr ⟨fun _ => ⟨Or.inl (tb_g (tb_4 (List.mem_of_getElem? (i := 185) rfl)) rfl), rfl⟩, List.forall_mem_cons.mpr ⟨fun _ => ⟨Or.inl (tb_g (tb_4 (List.mem_of_getElem? (i := 186) rfl)) rfl), rfl⟩, List.forall_mem_cons.mpr ⟨fun _ => ⟨Or.inl (tb_g (tb_4 (List.mem_of_getElem? (i := 187) rfl)) rfl), rfl⟩, List.forall_mem_cons.mpr ⟨fun _ => ⟨Or.inr ⟨tb_4 (List.mem_of_getElem? (i := 141) rfl), rfl⟩, rfl⟩, List.forall_mem_cons.mpr ⟨fun _ => ⟨Or.inl (tb_g (tb_4 (List.mem_of_getElem? (i := 177) rfl)) rfl), rfl⟩, List.forall_mem_cons.mpr ⟨fun _ => ⟨Or.inl (tb_g (tb_4 (List.mem_of_getElem? (i := 134) rfl)) rfl), rfl⟩, List.forall_mem_cons.mpr ⟨fun _ => ⟨Or.inr ⟨tb_4 (List.mem_of_getElem? (i := 135) rfl), rfl⟩, rfl⟩, List.forall_mem_cons.mpr ⟨fun _ => ⟨Or.inl (tb_g (tb_4 (List.mem_of_getElem? (i := 142) rfl)) rfl), rfl⟩, List.forall_mem_cons.mpr ⟨fun _ => ⟨Or.inl (tb_g (tb_4 (List.mem_of_getElem? (i := 143) rfl)) rfl), rfl⟩, List.forall_mem_cons.mpr ⟨fun _ => ⟨Or.inl (tb_g (tb_4 (List.mem_of_getElem? (i := 144) rfl)) rfl), rfl⟩, List.forall_mem_cons.mpr ⟨fun _ => ⟨Or.inl (tb_g (tb_4 (List.mem_of_getElem? (i := 146) rfl)) rfl), rfl⟩, List.forall_mem_cons.mpr ⟨fun _ => ⟨Or.inl (tb_g (tb_4 (List.mem_of_getElem? (i := 148) rfl)) rfl), rfl⟩, List.forall_mem_cons.mpr ⟨fun _ => ⟨Or.inl (tb_g (tb_4 (List.mem_of_getElem? (i := 150) rfl)) rfl), rfl⟩, List.forall_mem_cons.mpr ⟨fun h => absurd h (by decide +kernel), List.forall_mem_cons.mpr ⟨fun h => absurd h (by decide +kernel), List.forall_mem_cons.mpr ⟨fun _ => ⟨Or.inl (tb_g (tb_4 (List.mem_of_getElem? (i := 154) rfl)) rfl), rfl⟩, List.forall_mem_cons.mpr ⟨fun _ => ⟨Or.inl (tb_g (tb_4 (List.mem_of_getElem? (i := 153) rfl)) rfl), rfl⟩, List.forall_mem_cons.mpr ⟨fun _ => ⟨Or.inl (tb_g (tb_4 (List.mem_of_getElem? (i := 152) rfl)) rfl), rfl⟩, fun w hw => nomatch hw⟩⟩⟩⟩⟩⟩⟩⟩⟩⟩⟩⟩⟩⟩⟩⟩⟩⟩⟩⟩⟩⟩⟩⟩⟩⟩⟩⟩⟩⟩⟩⟩⟩⟩⟩⟩⟩⟩⟩⟩⟩⟩⟩⟩⟩⟩⟩⟩⟩⟩⟩⟩⟩⟩⟩⟩⟩
theorem rk_109_11 : iv_ROK 109 11 0 := ⟨rfl, by decide +kernel, 112, 140, 116, "there cannot be so many bodies", by rw [tb_y109]; exact tb_g (tb_4 (List.mem_of_getElem? (i := 133) rfl)) rfl, tb_g (tb_1 (List.mem_of_getElem? (i := 23) rfl)) rfl, by rw [tb_y109]; exact List.mem_of_getElem? (i := 2) rfl, fun w hw => (by rw [tb_y109] at hw; exact at_LentNames_116_0 w (List.mem_filter.mp hw).1 (List.mem_filter.mp hw).2), (by rw [tb_b109]; decide +kernel), (by rw [tb_b109]; decide +kernel), Or.inl ⟨(by rw [tb_b109]; decide +kernel), (by rw [tb_b109]; decide +kernel), (by rw [tb_b109]; decide +kernel)⟩⟩
theorem rk_127_10 : iv_ROK 127 10 0 := ⟨rfl, by decide +kernel, 112, 250, 116, "the bound is none", by rw [tb_y127]; exact tb_g (tb_4 (List.mem_of_getElem? (i := 133) rfl)) rfl, tb_g (tb_1 (List.mem_of_getElem? (i := 23) rfl)) rfl, by rw [tb_y127]; exact List.mem_of_getElem? (i := 12) rfl, fun w hw => (by rw [tb_y127] at hw; exact at_LentNames_116_0 w (List.mem_filter.mp hw).1 (List.mem_filter.mp hw).2), (by rw [tb_b127]; decide +kernel), (by rw [tb_b127]; decide +kernel), Or.inl ⟨(by rw [tb_b127]; decide +kernel), (by rw [tb_b127]; decide +kernel), (by rw [tb_b127]; decide +kernel)⟩⟩
theorem rk_127_25 : iv_ROK 127 25 0 := ⟨rfl, by decide +kernel, 112, 252, 116, "k is below NONE", by rw [tb_y127]; exact tb_g (tb_4 (List.mem_of_getElem? (i := 133) rfl)) rfl, tb_g (tb_1 (List.mem_of_getElem? (i := 23) rfl)) rfl, by rw [tb_y127]; exact List.mem_of_getElem? (i := 13) rfl, fun w hw => (by rw [tb_y127] at hw; exact at_LentNames_116_0 w (List.mem_filter.mp hw).1 (List.mem_filter.mp hw).2), (by rw [tb_b127]; decide +kernel), (by rw [tb_b127]; decide +kernel), Or.inl ⟨(by rw [tb_b127]; decide +kernel), (by rw [tb_b127]; decide +kernel), (by rw [tb_b127]; decide +kernel)⟩⟩
theorem rk_130_16 : iv_ROK 130 16 0 := ⟨rfl, by decide +kernel, 112, 269, 116, "no purse holds that", by rw [tb_y130]; exact tb_g (tb_4 (List.mem_of_getElem? (i := 133) rfl)) rfl, tb_g (tb_1 (List.mem_of_getElem? (i := 23) rfl)) rfl, by rw [tb_y130]; exact List.mem_of_getElem? (i := 11) rfl, fun w hw => (by rw [tb_y130] at hw; exact at_LentNames_116_0 w (List.mem_filter.mp hw).1 (List.mem_filter.mp hw).2), (by rw [tb_b130]; decide +kernel), (by rw [tb_b130]; decide +kernel), Or.inr ⟨(by rw [tb_b130]; decide +kernel), (by rw [tb_b130]; decide +kernel), (by rw [tb_b130]; decide +kernel)⟩⟩
theorem rk_136_10 : iv_ROK 136 10 0 := ⟨rfl, by decide +kernel, 112, 291, 116, "what is below -2", by rw [tb_y136]; exact tb_g (tb_4 (List.mem_of_getElem? (i := 133) rfl)) rfl, tb_g (tb_1 (List.mem_of_getElem? (i := 23) rfl)) rfl, by rw [tb_y136]; exact List.mem_of_getElem? (i := 14) rfl, fun w hw => (by rw [tb_y136] at hw; exact at_LentNames_116_0 w (List.mem_filter.mp hw).1 (List.mem_filter.mp hw).2), (by rw [tb_b136]; decide +kernel), (by rw [tb_b136]; decide +kernel), Or.inr ⟨(by rw [tb_b136]; decide +kernel), (by rw [tb_b136]; decide +kernel), (by rw [tb_b136]; decide +kernel)⟩⟩
set_option maxRecDepth 100000 in
theorem at_LentNames_332_2 : ∀ w ∈ Bundle.ownAtoms "LentNames" 332 (pm_e 2) iv_xn, vx_no w = true → iv_AQ w := List.forall_mem_cons.mpr ⟨fun _ => ⟨Or.inl (tb_g (tb_1 (List.mem_of_getElem? (i := 20) rfl)) rfl), rfl⟩, List.forall_mem_cons.mpr ⟨fun _ => ⟨Or.inl (tb_g (tb_4 (List.mem_of_getElem? (i := 155) rfl)) rfl), rfl⟩, List.forall_mem_cons.mpr ⟨fun _ => ⟨Or.inl (tb_g (tb_4 (List.mem_of_getElem? (i := 164) rfl)) rfl), rfl⟩, List.forall_mem_cons.mpr ⟨fun _ => ⟨Or.inl (tb_g (tb_4 (List.mem_of_getElem? (i := 170) rfl)) rfl), rfl⟩, List.forall_mem_cons.mpr ⟨fun _ => ⟨Or.inl (tb_g (tb_4 (List.mem_of_getElem? (i := 173) rfl)) rfl), rfl⟩, List.forall_mem_cons.mpr ⟨fun _ => ⟨Or.inl (tb_g (tb_4 (List.mem_of_getElem? (i := 175) rfl)) rfl), rfl⟩, List.forall_mem_cons.mpr ⟨fun _ => ⟨Or.inl (tb_g (tb_4 (List.mem_of_getElem? (i := 156) rfl)) rfl), rfl⟩, List.forall_mem_cons.mpr ⟨fun _ => ⟨Or.inl (tb_g (tb_4 (List.mem_of_getElem? (i := 157) rfl)) rfl), rfl⟩, List.forall_mem_cons.mpr ⟨fun _ => ⟨Or.inl (tb_g (tb_1 (List.mem_of_getElem? (i := 35) rfl)) rfl), rfl⟩, List.forall_mem_cons.mpr ⟨fun _ => ⟨Or.inl (tb_g (tb_1 (List.mem_of_getElem? (i := 36) rfl)) rfl), rfl⟩, List.forall_mem_cons.mpr ⟨fun _ => ⟨Or.inl (tb_g (tb_4 (List.mem_of_getElem? (i := 158) rfl)) rfl), rfl⟩, List.forall_mem_cons.mpr ⟨fun _ => ⟨Or.inl (tb_g (tb_4 (List.mem_of_getElem? (i := 163) rfl)) rfl), rfl⟩, List.forall_mem_cons.mpr ⟨fun _ => ⟨Or.inl (tb_g (tb_4 (List.mem_of_getElem? (i := 171) rfl)) rfl), rfl⟩, List.forall_mem_cons.mpr ⟨fun _ => ⟨Or.inl (tb_g (tb_4 (List.mem_of_getElem? (i := 191) rfl)) rfl), rfl⟩, List.forall_mem_cons.mpr ⟨fun _ => ⟨Or.inl (tb_g (tb_4 (List.mem_of_getElem? (i := 145) rfl)) rfl), rfl⟩, List.forall_mem_cons.mpr ⟨fun _ => ⟨Or.inl (tb_g (tb_4 (List.mem_of_getElem? (i := 192) rfl)) rfl), rfl⟩, List.forall_mem_cons.mpr ⟨fun _ => ⟨Or.inl (tb_g (tb_4 (List.mem_of_getElem? (i := 147) rfl)) rfl), rfl⟩, List.forall_mem_cons.mpr ⟨fun _ => ⟨Or.inl (tb_g (tb_4 (List.mem_of_getElem? (i := 193) rfl)) rfl), rfl⟩, List.forall_mem_cons.mpr ⟨fun _ => ⟨Or.inl (tb_g (tb_4 (List.mem_of_getElem? (i := 149) rfl)) rfl), rfl⟩, List.forall_mem_cons.mpr ⟨fun _ => ⟨Or.inl (tb_g (tb_4 (List.mem_of_getElem? (i := 159) rfl)) rfl), rfl⟩, List.forall_mem_cons.mpr ⟨fun h => absurd h (by decide +kernel), List.forall_mem_cons.mpr ⟨fun _ => ⟨Or.inl (tb_g (tb_4 (List.mem_of_getElem? (i := 161) rfl)) rfl), rfl⟩, List.forall_mem_cons.mpr ⟨fun h => absurd h (by decide +kernel), List.forall_mem_cons.mpr ⟨fun _ => ⟨Or.inl (tb_g (tb_4 (List.mem_of_getElem? (i := 151) rfl)) rfl), rfl⟩, List.forall_mem_cons.mpr ⟨fun _ => ⟨Or.inl (tb_g (tb_4 (List.mem_of_getElem? (i := 187) rfl)) rfl), rfl⟩, List.forall_mem_cons.mpr ⟨fun _ => ⟨Or.inl (tb_g (tb_4 (List.mem_of_getElem? (i := 188) rfl)) rfl), rfl⟩, List.forall_mem_cons.mpr ⟨fun _ => ⟨Or.inl (tb_g (tb_4 (List.mem_of_getElem? (i := 190) rfl)) rfl), rfl⟩, List.forall_mem_cons.mpr ⟨fun _ => ⟨Or.inl (tb_g (tb_4 (List.mem_of_getElem? (i := 151) rfl)) rfl), rfl⟩, List.forall_mem_cons.mpr ⟨fun _ => ⟨Or.inl (tb_g (tb_5 (List.mem_of_getElem? (i := 31) rfl)) rfl), rfl⟩, List.forall_mem_cons.mpr ⟨fun _ => ⟨Or.inl (tb_g (tb_5 (List.mem_of_getElem? (i := 32) rfl)) rfl), rfl⟩, List.forall_mem_cons.mpr ⟨fun _ => ⟨Or.inl (tb_g (tb_5 (List.mem_of_getElem? (i := 33) rfl)) rfl), rfl⟩, List.forall_mem_cons.mpr ⟨fun _ => ⟨Or.inl (tb_g (tb_4 (List.mem_of_getElem? (i := 181) rfl)) rfl), rfl⟩, List.forall_mem_cons.mpr ⟨fun _ => ⟨Or.inr ⟨tb_4 (List.mem_of_getElem? (i := 137) rfl), rfl⟩, rfl⟩, List.forall_mem_cons.mpr ⟨fun _ => ⟨Or.inl (tb_g (tb_4 (List.mem_of_getElem? (i := 181) rfl)) rfl), rfl⟩, List.forall_mem_cons.mpr ⟨fun _ => ⟨Or.inl (tb_g (tb_4 (List.mem_of_getElem? (i := 182) rfl)) rfl), rfl⟩, List.forall_mem_cons.mpr ⟨fun _ => ⟨Or.inl (tb_g (tb_4 (List.mem_of_getElem? (i := 183) rfl)) rfl), rfl⟩, List.forall_mem_cons.mpr ⟨fun _ => ⟨Or.inl (tb_g (tb_4 (List.mem_of_getElem? (i := 184) rfl)) rfl), rfl⟩, List.forall_mem_cons.mpr ⟨fun _ => ⟨Or.inr ⟨tb_4 (List.mem_of_getElem? (i := 139) rfl), rfl⟩, rfl⟩, List.forall_mem_cons.mpr ⟨fun _ => ⟨Or.inl (tb_g (tb_4 (List.mem_of_getElem? (i := 184) rfl)) rfl), rfl⟩, List.forall_mem_cons.mpr ⟨fun _ => ⟨Or.inl (tb_g (tb_4 (List.mem_of_getElem? (i := 185) rfl)) rfl), rfl⟩, List.forall_mem_cons.mpr ⟨fun _ => ⟨Or.inl (tb_g (tb_4 (List.mem_of_getElem? (i := 186) rfl)) rfl), rfl⟩, List.forall_mem_cons.mpr ⟨fun _ => ⟨Or.inl (tb_g (tb_4 (List.mem_of_getElem? (i := 187) rfl)) rfl), rfl⟩, List.forall_mem_cons.mpr ⟨fun _ => ⟨Or.inr ⟨tb_4 (List.mem_of_getElem? (i := 141) rfl), rfl⟩, rfl⟩, List.forall_mem_cons.mpr ⟨fun _ => ⟨Or.inl (tb_g (tb_5 (List.mem_of_getElem? (i := 30) rfl)) rfl), rfl⟩, List.forall_mem_cons.mpr ⟨fun _ => ⟨Or.inl (tb_g (tb_5 (List.mem_of_getElem? (i := 21) rfl)) rfl), rfl⟩, List.forall_mem_cons.mpr ⟨fun _ => ⟨Or.inr ⟨tb_5 (List.mem_of_getElem? (i := 22) rfl), rfl⟩, rfl⟩, List.forall_mem_cons.mpr ⟨fun _ => ⟨Or.inl (tb_g (tb_5 (List.mem_of_getElem? (i := 23) rfl)) rfl), rfl⟩, List.forall_mem_cons.mpr ⟨fun _ => ⟨Or.inl (tb_g (tb_4 (List.mem_of_getElem? (i := 167) rfl)) rfl), rfl⟩, List.forall_mem_cons.mpr ⟨fun _ => ⟨Or.inl (tb_g (tb_5 (List.mem_of_getElem? (i := 24) rfl)) rfl), rfl⟩, List.forall_mem_cons.mpr ⟨fun _ => ⟨Or.inl (tb_g (tb_5 (List.mem_of_getElem? (i := 25) rfl)) rfl), rfl⟩, List.forall_mem_cons.mpr ⟨fun _ => ⟨Or.inl (tb_g (tb_5 (List.mem_of_getElem? (i := 26) rfl)) rfl), rfl⟩, List.forall_mem_cons.mpr ⟨fun _ => ⟨Or.inl (tb_g (tb_5 (List.mem_of_getElem? (i := 27) rfl)) rfl), rfl⟩, List.forall_mem_cons.mpr ⟨fun h => absurd h (by decide +kernel), List.forall_mem_cons.mpr ⟨fun h => absurd h (by decide +kernel), List.forall_mem_cons.mpr ⟨fun _ => ⟨Or.inl (tb_g (tb_4 (List.mem_of_getElem? (i := 154) rfl)) rfl), rfl⟩, List.forall_mem_cons.mpr ⟨fun _ => ⟨Or.inl (tb_g (tb_4 (List.mem_of_getElem? (i := 153) rfl)) rfl), rfl⟩, List.forall_mem_cons.mpr ⟨fun _ => ⟨Or.inl (tb_g (tb_5 (List.mem_of_getElem? (i := 28) rfl)) rfl), rfl⟩, fun w hw => nomatch hw⟩⟩⟩⟩⟩⟩⟩⟩⟩⟩⟩⟩⟩⟩⟩⟩⟩⟩⟩⟩⟩⟩⟩⟩⟩⟩⟩⟩⟩⟩⟩⟩⟩⟩⟩⟩⟩⟩⟩⟩⟩⟩⟩⟩⟩⟩⟩⟩⟩⟩⟩⟩⟩⟩⟩⟩⟩
theorem rk_144_15 : iv_ROK 144 15 2 := ⟨rfl, by decide +kernel, 328, 330, 332, "there is no such name", by rw [tb_y144]; exact tb_g (tb_5 (List.mem_of_getElem? (i := 20) rfl)) rfl, tb_g (tb_1 (List.mem_of_getElem? (i := 26) rfl)) rfl, by rw [tb_y144]; exact List.mem_of_getElem? (i := 4) rfl, fun w hw => (by rw [tb_y144] at hw; exact at_LentNames_332_2 w (List.mem_filter.mp hw).1 (List.mem_filter.mp hw).2), (by rw [tb_b144]; decide +kernel), (by rw [tb_b144]; decide +kernel), Or.inr ⟨(by rw [tb_b144]; decide +kernel), (by rw [tb_b144]; decide +kernel), (by rw [tb_b144]; decide +kernel)⟩⟩
theorem rk_145_15 : iv_ROK 145 15 2 := ⟨rfl, by decide +kernel, 328, 333, 332, "there is no such body", by rw [tb_y145]; exact tb_g (tb_5 (List.mem_of_getElem? (i := 20) rfl)) rfl, tb_g (tb_1 (List.mem_of_getElem? (i := 26) rfl)) rfl, by rw [tb_y145]; exact List.mem_of_getElem? (i := 6) rfl, fun w hw => (by rw [tb_y145] at hw; exact at_LentNames_332_2 w (List.mem_filter.mp hw).1 (List.mem_filter.mp hw).2), (by rw [tb_b145]; decide +kernel), (by rw [tb_b145]; decide +kernel), Or.inr ⟨(by rw [tb_b145]; decide +kernel), (by rw [tb_b145]; decide +kernel), (by rw [tb_b145]; decide +kernel)⟩⟩
theorem rk_146_10 : iv_ROK 146 10 2 := ⟨rfl, by decide +kernel, 328, 335, 332, "there is no such day", by rw [tb_y146]; exact tb_g (tb_5 (List.mem_of_getElem? (i := 20) rfl)) rfl, tb_g (tb_1 (List.mem_of_getElem? (i := 26) rfl)) rfl, by rw [tb_y146]; exact List.mem_of_getElem? (i := 5) rfl, fun w hw => (by rw [tb_y146] at hw; exact at_LentNames_332_2 w (List.mem_filter.mp hw).1 (List.mem_filter.mp hw).2), (by rw [tb_b146]; decide +kernel), (by rw [tb_b146]; decide +kernel), Or.inr ⟨(by rw [tb_b146]; decide +kernel), (by rw [tb_b146]; decide +kernel), (by rw [tb_b146]; decide +kernel)⟩⟩
theorem rk_147_12 : iv_ROK 147 12 2 := ⟨rfl, by decide +kernel, 328, 337, 332, "nothing of that number was told", by rw [tb_y147]; exact tb_g (tb_5 (List.mem_of_getElem? (i := 20) rfl)) rfl, tb_g (tb_1 (List.mem_of_getElem? (i := 26) rfl)) rfl, by rw [tb_y147]; exact List.mem_of_getElem? (i := 7) rfl, fun w hw => (by rw [tb_y147] at hw; exact at_LentNames_332_2 w (List.mem_filter.mp hw).1 (List.mem_filter.mp hw).2), (by rw [tb_b147]; decide +kernel), (by rw [tb_b147]; decide +kernel), Or.inr ⟨(by rw [tb_b147]; decide +kernel), (by rw [tb_b147]; decide +kernel), (by rw [tb_b147]; decide +kernel)⟩⟩
def kt (mi pc : Nat) : Nat := (bif Nat.beq mi 109 && Nat.beq pc 11 then 0 else (bif Nat.beq mi 127 && Nat.beq pc 10 then 0 else (bif Nat.beq mi 127 && Nat.beq pc 25 then 0 else (bif Nat.beq mi 130 && Nat.beq pc 16 then 0 else (bif Nat.beq mi 136 && Nat.beq pc 10 then 0 else (bif Nat.beq mi 144 && Nat.beq pc 15 then 2 else (bif Nat.beq mi 145 && Nat.beq pc 15 then 2 else (bif Nat.beq mi 146 && Nat.beq pc 10 then 2 else (bif Nat.beq mi 147 && Nat.beq pc 12 then 2 else 99)))))))))
theorem iv_and {a b x y : Nat} (h : (Nat.beq a x && Nat.beq b y) = true) : a = x ∧ b = y := by
  rw [Bool.and_eq_true] at h
  exact ⟨Nat.eq_of_beq_eq_true h.1, Nat.eq_of_beq_eq_true h.2⟩
theorem iv_ktc {c : Bool} {x t : Nat} {P : Nat → Prop} (h1 : c = true → P x) (h2 : t ≤ 4 → P t) : (bif c then x else t) ≤ 4 → P (bif c then x else t) := by
  cases c with
  | true => exact fun _ => h1 rfl
  | false => exact h2
theorem lk_R : ∀ mi pc, kt mi pc ≤ 4 → iv_ROK mi pc (kt mi pc) := fun mi pc => iv_ktc (fun h => by obtain ⟨rfl, rfl⟩ := iv_and h; exact rk_109_11) (iv_ktc (fun h => by obtain ⟨rfl, rfl⟩ := iv_and h; exact rk_127_10) (iv_ktc (fun h => by obtain ⟨rfl, rfl⟩ := iv_and h; exact rk_127_25) (iv_ktc (fun h => by obtain ⟨rfl, rfl⟩ := iv_and h; exact rk_130_16) (iv_ktc (fun h => by obtain ⟨rfl, rfl⟩ := iv_and h; exact rk_136_10) (iv_ktc (fun h => by obtain ⟨rfl, rfl⟩ := iv_and h; exact rk_144_15) (iv_ktc (fun h => by obtain ⟨rfl, rfl⟩ := iv_and h; exact rk_145_15) (iv_ktc (fun h => by obtain ⟨rfl, rfl⟩ := iv_and h; exact rk_146_10) (iv_ktc (fun h => by obtain ⟨rfl, rfl⟩ := iv_and h; exact rk_147_12) (fun h => absurd h (by decide))))))))))
def kb (mi k : Nat) : Bool := Nat.beq mi 311 && (Nat.beq k 265 || Nat.beq k 266 || Nat.beq k 267)
def kq (_ k : Nat) : Int32 := bif Nat.beq k 265 then 1431655765 else bif Nat.beq k 266 then 858993459 else 252645135
theorem lk_Q : ∀ mi k, kb mi k = true → Cond.constant (pm_y mi).cls k (kq mi k) ∈ iv_T := by
  intro mi k h
  unfold kb at h
  rw [Bool.and_eq_true, Bool.or_eq_true, Bool.or_eq_true] at h
  obtain ⟨h1, h2⟩ := h
  have e := Nat.eq_of_beq_eq_true h1
  subst e
  rw [tb_y311]
  rcases h2 with (h2 | h2) | h2
  · have e := Nat.eq_of_beq_eq_true h2
    subst e
    exact tb_g (tb_3 (List.mem_of_getElem? (i := 180) rfl)) rfl
  · have e := Nat.eq_of_beq_eq_true h2
    subst e
    exact tb_g (tb_3 (List.mem_of_getElem? (i := 181) rfl)) rfl
  · have e := Nat.eq_of_beq_eq_true h2
    subst e
    exact tb_g (tb_3 (List.mem_of_getElem? (i := 182) rfl)) rfl
def so_140 : Array Int := #[63, 71, 79, 90, 101, 112, 123, 131, 139, 150, 158, 169]
theorem sd_140 : decode (pm_b 140) 1 = .ok (.tableswitch 177 0 11 so_140, 63) := by rw [tb_b140]; decide +kernel
theorem sf_140 : ∀ k, k < 12 → so_140[k]? = some ((((pg_t 140).2.2.2 >>> (16 * k)) % 65536 : Nat) - 1 : Int) := by decide +kernel
theorem sw_140 : iv_TOK 140 1 := ⟨177, 0, 11, so_140, 63, sd_140, rfl, rfl, rfl, fun k hk => ⟨_, sf_140 k hk, by omega⟩⟩
def so_269 : Array Int := #[64, 69, 76, 83, 90, 97, 104, 144, 184, 195, 231, 255]
theorem sd_269 : decode (pm_b 269) 8 = .ok (.tableswitch 285 0 11 so_269, 64) := by rw [tb_b269]; decide +kernel
theorem sf_269 : ∀ k, k < 12 → so_269[k]? = some ((((pg_t 269).2.2.2 >>> (16 * k)) % 65536 : Nat) - 8 : Int) := by decide +kernel
theorem sw_269 : iv_TOK 269 8 := ⟨285, 0, 11, so_269, 64, sd_269, rfl, rfl, rfl, fun k hk => ⟨_, sf_269 k hk, by omega⟩⟩
def so_310 : Array Int := #[164, 237, 262, 306, 319, 355, 423, 491, 559, 639, 695, 751, 826, 894, 978, 1046, 1102, 1158, 1202, 1270, 1326, 1339, 1395, 1479, 1492, 1560, 1573, 1641, 1654, 1710, 1778, 1834, 1890, 1958, 2026, 2037, 2050]
theorem sd_310 : decode (pm_b 310) 40 = .ok (.tableswitch 2075 0 36 so_310, 164) := by show decode code 40 = _; decide +kernel
theorem sf_310 : ∀ k, k < 37 → so_310[k]? = some ((((pg_t 310).2.2.2 >>> (16 * k)) % 65536 : Nat) - 40 : Int) := by decide +kernel
theorem sw_310 : iv_TOK 310 40 := ⟨2075, 0, 36, so_310, 164, sd_310, rfl, rfl, rfl, fun k hk => ⟨_, sf_310 k hk, by omega⟩⟩
def kz (mi pc : Nat) : Bool := (Nat.beq mi 140 && Nat.beq pc 1) || (Nat.beq mi 269 && Nat.beq pc 8) || (Nat.beq mi 310 && Nat.beq pc 40)
theorem lk_T : ∀ mi pc, kz mi pc = true → iv_TOK mi pc := by
  intro mi pc h
  unfold kz at h
  rw [Bool.or_eq_true, Bool.or_eq_true] at h
  rcases h with (h | h) | h
  · obtain ⟨rfl, rfl⟩ := iv_and h
    exact sw_140
  · obtain ⟨rfl, rfl⟩ := iv_and h
    exact sw_269
  · obtain ⟨rfl, rfl⟩ := iv_and h
    exact sw_310
theorem lk_A : Cond.arrayClass .int ∈ iv_T ∧ Cond.arrayClass .byte ∈ iv_T ∧ Cond.arrayClass .long ∈ iv_T := ⟨tb_g (tb_1 (List.mem_of_getElem? (i := 55) rfl)) rfl, tb_g (tb_4 (List.mem_of_getElem? (i := 202) rfl)) rfl, tb_g (tb_9 (List.mem_of_getElem? (i := 108) rfl)) rfl⟩
theorem hk_0 {mi : Nat} (h1 : pg_h mi = []) (h2 : pm_h mi = []) : iv_HOK mi ∧ iv_HO2 mi := by
  refine ⟨fun pre q suf h => ?_, fun z hz => ?_⟩
  · rw [h1] at h
    cases pre <;> cases h
  · rw [h2] at hz
    cases hz
theorem hk_1 {mi a b c e cp : Nat} (h1 : pg_h mi = [(a, b, c, e)]) (h2 : pm_h mi = [(a, b, c, cp)]) (h3 : cp ≠ 0) (h4 : Cond.classLink (pm_y mi).cls cp (pm_e e) ∈ iv_T) (h5 : Cond.castable (pm_e e) (pm_e e) ∈ lw_tbl) : iv_HOK mi ∧ iv_HO2 mi := by
  refine ⟨fun pre q suf h => ?_, fun z hz => ?_⟩
  · rw [h1] at h
    cases pre with
    | nil =>
      cases h
      exact ⟨[], cp, [], h2, h3, h4, h5, fun z hz => nomatch hz⟩
    | cons p t =>
      injection h with _ h
      cases t <;> cases h
  · rw [h2] at hz
    rcases List.mem_cons.mp hz with rfl | hz
    · exact ⟨(a, b, c, e), by rw [h1]; exact List.mem_cons_self, rfl, rfl⟩
    · cases hz
theorem hk_2 {mi a b c e cp a' b' c' e' cp' : Nat} (h1 : pg_h mi = [(a, b, c, e), (a', b', c', e')]) (h2 : pm_h mi = [(a, b, c, cp), (a', b', c', cp')]) (h3 : cp ≠ 0) (h4 : Cond.classLink (pm_y mi).cls cp (pm_e e) ∈ iv_T) (h5 : Cond.castable (pm_e e) (pm_e e) ∈ lw_tbl) (h6 : cp' ≠ 0) (h7 : Cond.classLink (pm_y mi).cls cp' (pm_e e') ∈ iv_T) (h8 : Cond.castable (pm_e e') (pm_e e') ∈ lw_tbl) : iv_HOK mi ∧ iv_HO2 mi := by
  refine ⟨fun pre q suf h => ?_, fun z hz => ?_⟩
  · rw [h1] at h
    cases pre with
    | nil =>
      cases h
      exact ⟨[], cp, [(a', b', c', cp')], h2, h3, h4, h5, fun z hz => nomatch hz⟩
    | cons p t =>
      injection h with hp h
      cases t with
      | nil =>
        cases h
        refine ⟨[(a, b, c, cp)], cp', [], h2, h6, h7, h8, fun z hz => ?_⟩
        rcases List.mem_cons.mp hz with rfl | hz
        · exact ⟨p, List.mem_cons_self, by rw [← hp], by rw [← hp], h3, by rw [← hp]; exact h4⟩
        · cases hz
      | cons p2 t2 =>
        injection h with _ h
        cases t2 <;> cases h
  · rw [h2] at hz
    rcases List.mem_cons.mp hz with rfl | hz
    · exact ⟨(a, b, c, e), by rw [h1]; exact List.mem_cons_self, rfl, rfl⟩
    · rcases List.mem_cons.mp hz with rfl | hz
      · exact ⟨(a', b', c', e'), by rw [h1]; exact List.mem_cons_of_mem _ List.mem_cons_self, rfl, rfl⟩
      · cases hz
theorem hh_283 : iv_HOK 283 ∧ iv_HO2 283 := hk_2 rfl rfl (by decide) (by rw [tb_y283]; exact tb_g (tb_3 (List.mem_of_getElem? (i := 194) rfl)) rfl) (tb_4 (List.mem_of_getElem? (i := 135) rfl)) (by decide) (by rw [tb_y283]; exact tb_g (tb_3 (List.mem_of_getElem? (i := 195) rfl)) rfl) (tb_4 (List.mem_of_getElem? (i := 205) rfl))
theorem hh_284 : iv_HOK 284 ∧ iv_HO2 284 := hk_2 rfl rfl (by decide) (by rw [tb_y284]; exact tb_g (tb_3 (List.mem_of_getElem? (i := 194) rfl)) rfl) (tb_4 (List.mem_of_getElem? (i := 135) rfl)) (by decide) (by rw [tb_y284]; exact tb_g (tb_4 (List.mem_of_getElem? (i := 226) rfl)) rfl) (tb_4 (List.mem_of_getElem? (i := 234) rfl))
theorem hh_285 : iv_HOK 285 ∧ iv_HO2 285 := hk_1 rfl rfl (by decide) (by rw [tb_y285]; exact tb_g (tb_5 (List.mem_of_getElem? (i := 11) rfl)) rfl) (tb_5 (List.mem_of_getElem? (i := 22) rfl))
theorem hh_286 : iv_HOK 286 ∧ iv_HO2 286 := hk_1 rfl rfl (by decide) (by rw [tb_y286]; exact tb_g (tb_5 (List.mem_of_getElem? (i := 11) rfl)) rfl) (tb_5 (List.mem_of_getElem? (i := 22) rfl))
theorem hh_287 : iv_HOK 287 ∧ iv_HO2 287 := hk_1 rfl rfl (by decide) (by rw [tb_y287]; exact tb_g (tb_5 (List.mem_of_getElem? (i := 11) rfl)) rfl) (tb_5 (List.mem_of_getElem? (i := 22) rfl))
theorem hh_288 : iv_HOK 288 ∧ iv_HO2 288 := hk_1 rfl rfl (by decide) (by rw [tb_y288]; exact tb_g (tb_5 (List.mem_of_getElem? (i := 11) rfl)) rfl) (tb_5 (List.mem_of_getElem? (i := 22) rfl))
theorem hh_289 : iv_HOK 289 ∧ iv_HO2 289 := hk_1 rfl rfl (by decide) (by rw [tb_y289]; exact tb_g (tb_5 (List.mem_of_getElem? (i := 11) rfl)) rfl) (tb_5 (List.mem_of_getElem? (i := 22) rfl))
theorem hh_290 : iv_HOK 290 ∧ iv_HO2 290 := hk_1 rfl rfl (by decide) (by rw [tb_y290]; exact tb_g (tb_5 (List.mem_of_getElem? (i := 11) rfl)) rfl) (tb_5 (List.mem_of_getElem? (i := 22) rfl))
theorem hh_291 : iv_HOK 291 ∧ iv_HO2 291 := hk_1 rfl rfl (by decide) (by rw [tb_y291]; exact tb_g (tb_5 (List.mem_of_getElem? (i := 11) rfl)) rfl) (tb_5 (List.mem_of_getElem? (i := 22) rfl))
theorem hh_292 : iv_HOK 292 ∧ iv_HO2 292 := hk_2 rfl rfl (by decide) (by rw [tb_y292]; exact tb_g (tb_5 (List.mem_of_getElem? (i := 11) rfl)) rfl) (tb_5 (List.mem_of_getElem? (i := 22) rfl)) (by decide) (by rw [tb_y292]; exact tb_g (tb_5 (List.mem_of_getElem? (i := 110) rfl)) rfl) (tb_5 (List.mem_of_getElem? (i := 122) rfl))
theorem hh_293 : iv_HOK 293 ∧ iv_HO2 293 := hk_1 rfl rfl (by decide) (by rw [tb_y293]; exact tb_g (tb_5 (List.mem_of_getElem? (i := 11) rfl)) rfl) (tb_5 (List.mem_of_getElem? (i := 22) rfl))
theorem hh_294 : iv_HOK 294 ∧ iv_HO2 294 := hk_2 rfl rfl (by decide) (by rw [tb_y294]; exact tb_g (tb_5 (List.mem_of_getElem? (i := 11) rfl)) rfl) (tb_5 (List.mem_of_getElem? (i := 22) rfl)) (by decide) (by rw [tb_y294]; exact tb_g (tb_5 (List.mem_of_getElem? (i := 110) rfl)) rfl) (tb_5 (List.mem_of_getElem? (i := 122) rfl))
theorem hh_295 : iv_HOK 295 ∧ iv_HO2 295 := hk_1 rfl rfl (by decide) (by rw [tb_y295]; exact tb_g (tb_5 (List.mem_of_getElem? (i := 11) rfl)) rfl) (tb_5 (List.mem_of_getElem? (i := 22) rfl))
theorem hh_296 : iv_HOK 296 ∧ iv_HO2 296 := hk_1 rfl rfl (by decide) (by rw [tb_y296]; exact tb_g (tb_5 (List.mem_of_getElem? (i := 11) rfl)) rfl) (tb_5 (List.mem_of_getElem? (i := 22) rfl))
theorem hh_297 : iv_HOK 297 ∧ iv_HO2 297 := hk_1 rfl rfl (by decide) (by rw [tb_y297]; exact tb_g (tb_3 (List.mem_of_getElem? (i := 194) rfl)) rfl) (tb_4 (List.mem_of_getElem? (i := 135) rfl))
theorem hh_298 : iv_HOK 298 ∧ iv_HO2 298 := hk_2 rfl rfl (by decide) (by rw [tb_y298]; exact tb_g (tb_5 (List.mem_of_getElem? (i := 11) rfl)) rfl) (tb_5 (List.mem_of_getElem? (i := 22) rfl)) (by decide) (by rw [tb_y298]; exact tb_g (tb_3 (List.mem_of_getElem? (i := 194) rfl)) rfl) (tb_4 (List.mem_of_getElem? (i := 135) rfl))
theorem hh_299 : iv_HOK 299 ∧ iv_HO2 299 := hk_1 rfl rfl (by decide) (by rw [tb_y299]; exact tb_g (tb_5 (List.mem_of_getElem? (i := 11) rfl)) rfl) (tb_5 (List.mem_of_getElem? (i := 22) rfl))
theorem hh_300 : iv_HOK 300 ∧ iv_HO2 300 := hk_1 rfl rfl (by decide) (by rw [tb_y300]; exact tb_g (tb_5 (List.mem_of_getElem? (i := 11) rfl)) rfl) (tb_5 (List.mem_of_getElem? (i := 22) rfl))
theorem hh_301 : iv_HOK 301 ∧ iv_HO2 301 := hk_1 rfl rfl (by decide) (by rw [tb_y301]; exact tb_g (tb_5 (List.mem_of_getElem? (i := 11) rfl)) rfl) (tb_5 (List.mem_of_getElem? (i := 22) rfl))
theorem hh_302 : iv_HOK 302 ∧ iv_HO2 302 := hk_1 rfl rfl (by decide) (by rw [tb_y302]; exact tb_g (tb_5 (List.mem_of_getElem? (i := 11) rfl)) rfl) (tb_5 (List.mem_of_getElem? (i := 22) rfl))
theorem hh_303 : iv_HOK 303 ∧ iv_HO2 303 := hk_1 rfl rfl (by decide) (by rw [tb_y303]; exact tb_g (tb_3 (List.mem_of_getElem? (i := 194) rfl)) rfl) (tb_4 (List.mem_of_getElem? (i := 135) rfl))
theorem hh_304 : iv_HOK 304 ∧ iv_HO2 304 := hk_1 rfl rfl (by decide) (by rw [tb_y304]; exact tb_g (tb_5 (List.mem_of_getElem? (i := 11) rfl)) rfl) (tb_5 (List.mem_of_getElem? (i := 22) rfl))
theorem hh_305 : iv_HOK 305 ∧ iv_HO2 305 := hk_2 rfl rfl (by decide) (by rw [tb_y305]; exact tb_g (tb_5 (List.mem_of_getElem? (i := 11) rfl)) rfl) (tb_5 (List.mem_of_getElem? (i := 22) rfl)) (by decide) (by rw [tb_y305]; exact tb_g (tb_3 (List.mem_of_getElem? (i := 194) rfl)) rfl) (tb_4 (List.mem_of_getElem? (i := 135) rfl))
theorem hh_306 : iv_HOK 306 ∧ iv_HO2 306 := hk_1 rfl rfl (by decide) (by rw [tb_y306]; exact tb_g (tb_5 (List.mem_of_getElem? (i := 11) rfl)) rfl) (tb_5 (List.mem_of_getElem? (i := 22) rfl))
theorem hh_307 : iv_HOK 307 ∧ iv_HO2 307 := hk_1 rfl rfl (by decide) (by rw [tb_y307]; exact tb_g (tb_5 (List.mem_of_getElem? (i := 11) rfl)) rfl) (tb_5 (List.mem_of_getElem? (i := 22) rfl))
theorem hh_308 : iv_HOK 308 ∧ iv_HO2 308 := hk_1 rfl rfl (by decide) (by rw [tb_y308]; exact tb_g (tb_5 (List.mem_of_getElem? (i := 11) rfl)) rfl) (tb_5 (List.mem_of_getElem? (i := 22) rfl))
theorem hh_309 : iv_HOK 309 ∧ iv_HO2 309 := hk_1 rfl rfl (by decide) (by rw [tb_y309]; exact tb_g (tb_5 (List.mem_of_getElem? (i := 11) rfl)) rfl) (tb_5 (List.mem_of_getElem? (i := 22) rfl))
theorem iv_ge {P : Nat → Prop} {a : Nat} (ha : P a) (h : ∀ i, a + 1 ≤ i → P i) : ∀ i, a ≤ i → P i := fun i hi => by
  rcases Nat.lt_or_ge a i with g | g
  · exact h i g
  · have e : i = a := by omega
    rw [e]
    exact ha
theorem pg_h_no {mi : Nat} (h : mi < 283 ∨ 309 < mi) : pg_h mi = [] ∧ pm_h mi = [] := by
  have e : (Nat.blt mi 283 || Nat.blt 309 mi) = true := by
    rw [Bool.or_eq_true, Nat.blt_eq, Nat.blt_eq]
    exact h
  unfold pg_h pm_h
  rw [e]
  exact ⟨rfl, rfl⟩
theorem lk_H : ∀ mi, iv_HOK mi ∧ iv_HO2 mi := by
  intro mi
  rcases Nat.lt_or_ge mi 283 with h | h
  · exact hk_0 (pg_h_no (Or.inl h)).1 (pg_h_no (Or.inl h)).2
  · exact (iv_ge hh_283 (iv_ge hh_284 (iv_ge hh_285 (iv_ge hh_286 (iv_ge hh_287 (iv_ge hh_288 (iv_ge hh_289 (iv_ge hh_290 (iv_ge hh_291 (iv_ge hh_292 (iv_ge hh_293 (iv_ge hh_294 (iv_ge hh_295 (iv_ge hh_296 (iv_ge hh_297 (iv_ge hh_298 (iv_ge hh_299 (iv_ge hh_300 (iv_ge hh_301 (iv_ge hh_302 (iv_ge hh_303 (iv_ge hh_304 (iv_ge hh_305 (iv_ge hh_306 (iv_ge hh_307 (iv_ge hh_308 (iv_ge hh_309 (fun i hi => hk_0 (pg_h_no (Or.inr hi)).1 (pg_h_no (Or.inr hi)).2))))))))))))))))))))))))))) : ∀ i, 283 ≤ i → iv_HOK i ∧ iv_HO2 i) mi h
theorem pg_c_no {mi : Nat} (h : ¬ mi < 312) : pg_c mi = 0 := by
  have e : Nat.blt mi 312 = false := by
    rw [← Bool.not_eq_true, Nat.blt_eq]
    exact h
  unfold pg_c
  rw [e]
  rfl
theorem kn_plain : ∀ c, c < 15 → plainName (kn c) = true := by decide +kernel
theorem kcl_lt : ∀ mi, mi < 312 → kcl mi < 15 := by decide +kernel
theorem lk_MO : ∀ mj, pg_c mj ≠ 0 → plainName (pm_y mj).cls = true := by
  intro mj h
  by_cases hm : mj < 312
  · rw [kcl_ok mj hm]
    exact kn_plain _ (kcl_lt mj hm)
  · exact absurd (pg_c_no hm) h
