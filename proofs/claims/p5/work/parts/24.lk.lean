/-! ===== links of methods ===== -/
theorem tb_sel {q : MethodName × Nat} (h : q ∈ lw_privs) : Cond.selects q.1.cls q.1 q.1 ∈ lw_tbl := List.mem_append_left _ (List.mem_map.mpr ⟨q, h, rfl⟩)
theorem tb_p1 {q : MethodName × Nat} (h : q ∈ lw_privs_1) : q ∈ lw_privs := List.mem_append_left _ h
theorem tb_p2 {q : MethodName × Nat} (h : q ∈ lw_privs_2) : q ∈ lw_privs := List.mem_append_right _ (List.mem_append_left _ h)
theorem tb_p3 {q : MethodName × Nat} (h : q ∈ lw_privs_3) : q ∈ lw_privs := List.mem_append_right _ (List.mem_append_right _ (List.mem_append_left _ h))
theorem tb_p4 {q : MethodName × Nat} (h : q ∈ lw_privs_4) : q ∈ lw_privs := List.mem_append_right _ (List.mem_append_right _ (List.mem_append_right _ (List.mem_append_left _ h)))
theorem tb_p5 {q : MethodName × Nat} (h : q ∈ lw_privs_5) : q ∈ lw_privs := List.mem_append_right _ (List.mem_append_right _ (List.mem_append_right _ (List.mem_append_right _ (List.mem_append_left _ h))))
theorem tb_p6 {q : MethodName × Nat} (h : q ∈ lw_privs_6) : q ∈ lw_privs := List.mem_append_right _ (List.mem_append_right _ (List.mem_append_right _ (List.mem_append_right _ (List.mem_append_right _ (List.mem_append_left _ h)))))
theorem tb_p7 {q : MethodName × Nat} (h : q ∈ lw_privs_7) : q ∈ lw_privs := List.mem_append_right _ (List.mem_append_right _ (List.mem_append_right _ (List.mem_append_right _ (List.mem_append_right _ (List.mem_append_right _ (List.mem_append_left _ h))))))
theorem tb_p8 {q : MethodName × Nat} (h : q ∈ lw_privs_8) : q ∈ lw_privs := List.mem_append_right _ (List.mem_append_right _ (List.mem_append_right _ (List.mem_append_right _ (List.mem_append_right _ (List.mem_append_right _ (List.mem_append_right _ (h)))))))
theorem tb_v143 : Cond.instanceMethod (pm_y 143) ∈ iv_T ∧ Cond.selects (pm_y 143).cls (pm_y 143) (pm_y 143) ∈ iv_T ∧ pm_h 143 = [] ∧ (parseMethodDescriptor (pm_y 143).desc).map (fun d => d.parameters.length) = some 0 := by
  rw [tb_y143]
  exact ⟨tb_g (tb_2 (List.mem_of_getElem? (i := 147) rfl)) rfl, tb_g (tb_sel (tb_p1 (List.mem_of_getElem? (a := ((⟨"LentNames", "renew", "()V"⟩ : MethodName), 12)) (i := 0) rfl))) rfl, rfl, by decide +kernel⟩
theorem tl_LentNames_91_0 : iv_LV "LentNames" 91 143 1 11 := ⟨by rw [tb_y143]; exact tb_g (tb_2 (List.mem_of_getElem? (i := 145) rfl)) rfl, tb_v143.1, tb_v143.2.1, tb_v143.2.2.1, by decide, by decide, by decide, ⟨_, _, by rw [tb_y143]; rfl⟩, tb_v143.2.2.2⟩
theorem tb_v72 : Cond.instanceMethod (pm_y 72) ∈ iv_T ∧ Cond.selects (pm_y 72).cls (pm_y 72) (pm_y 72) ∈ iv_T ∧ pm_h 72 = [] ∧ (parseMethodDescriptor (pm_y 72).desc).map (fun d => d.parameters.length) = some 1 := by
  rw [tb_y72]
  exact ⟨tb_g (tb_3 (List.mem_of_getElem? (i := 78) rfl)) rfl, tb_g (tb_3 (List.mem_of_getElem? (i := 79) rfl)) rfl, rfl, by decide +kernel⟩
theorem tl_LentNames_97_0 : iv_LV "LentNames" 97 72 2 8 := ⟨by rw [tb_y72]; exact tb_g (tb_3 (List.mem_of_getElem? (i := 77) rfl)) rfl, tb_v72.1, tb_v72.2.1, tb_v72.2.2.1, by decide, by decide, by decide, ⟨_, _, by rw [tb_y72]; rfl⟩, tb_v72.2.2.2⟩
theorem tb_v84 : Cond.instanceMethod (pm_y 84) ∈ iv_T ∧ Cond.selects (pm_y 84).cls (pm_y 84) (pm_y 84) ∈ iv_T ∧ pm_h 84 = [] ∧ (parseMethodDescriptor (pm_y 84).desc).map (fun d => d.parameters.length) = some 1 := by
  rw [tb_y84]
  exact ⟨tb_g (tb_3 (List.mem_of_getElem? (i := 144) rfl)) rfl, tb_g (tb_3 (List.mem_of_getElem? (i := 145) rfl)) rfl, rfl, by decide +kernel⟩
theorem tl_LentNames_101_0 : iv_LV "LentNames" 101 84 2 9 := ⟨by rw [tb_y84]; exact tb_g (tb_3 (List.mem_of_getElem? (i := 143) rfl)) rfl, tb_v84.1, tb_v84.2.1, tb_v84.2.2.1, by decide, by decide, by decide, ⟨_, _, by rw [tb_y84]; rfl⟩, tb_v84.2.2.2⟩
theorem tb_v92 : Cond.instanceMethod (pm_y 92) ∈ iv_T ∧ Cond.selects (pm_y 92).cls (pm_y 92) (pm_y 92) ∈ iv_T ∧ pm_h 92 = [] ∧ (parseMethodDescriptor (pm_y 92).desc).map (fun d => d.parameters.length) = some 1 := by
  rw [tb_y92]
  exact ⟨tb_g (tb_3 (List.mem_of_getElem? (i := 201) rfl)) rfl, tb_g (tb_3 (List.mem_of_getElem? (i := 202) rfl)) rfl, rfl, by decide +kernel⟩
theorem tl_LentNames_104_0 : iv_LV "LentNames" 104 92 2 10 := ⟨by rw [tb_y92]; exact tb_g (tb_3 (List.mem_of_getElem? (i := 200) rfl)) rfl, tb_v92.1, tb_v92.2.1, tb_v92.2.2.1, by decide, by decide, by decide, ⟨_, _, by rw [tb_y92]; rfl⟩, tb_v92.2.2.2⟩
theorem tb_v141 : Cond.instanceMethod (pm_y 141) ∈ iv_T ∧ Cond.selects (pm_y 141).cls (pm_y 141) (pm_y 141) ∈ iv_T ∧ pm_h 141 = [] ∧ (parseMethodDescriptor (pm_y 141).desc).map (fun d => d.parameters.length) = some 1 := by
  rw [tb_y141]
  exact ⟨tb_g (tb_4 (List.mem_of_getElem? (i := 131) rfl)) rfl, tb_g (tb_sel (tb_p3 (List.mem_of_getElem? (a := ((⟨"LentNames", "useUpTape", "(Z)V"⟩ : MethodName), 12)) (i := 4) rfl))) rfl, rfl, by decide +kernel⟩
theorem tl_LentNames_108_0 : iv_LV "LentNames" 108 141 2 11 := ⟨by rw [tb_y141]; exact tb_g (tb_4 (List.mem_of_getElem? (i := 129) rfl)) rfl, tb_v141.1, tb_v141.2.1, tb_v141.2.2.1, by decide, by decide, by decide, ⟨_, _, by rw [tb_y141]; rfl⟩, tb_v141.2.2.2⟩
theorem tb_v142 : Cond.instanceMethod (pm_y 142) ∈ iv_T ∧ Cond.selects (pm_y 142).cls (pm_y 142) (pm_y 142) ∈ iv_T ∧ pm_h 142 = [] ∧ (parseMethodDescriptor (pm_y 142).desc).map (fun d => d.parameters.length) = some 0 := by
  rw [tb_y142]
  exact ⟨tb_g (tb_4 (List.mem_of_getElem? (i := 221) rfl)) rfl, tb_g (tb_sel (tb_p3 (List.mem_of_getElem? (a := ((⟨"LentNames", "takeDraft", "()V"⟩ : MethodName), 12)) (i := 6) rfl))) rfl, rfl, by decide +kernel⟩
theorem tl_LentNames_127_0 : iv_LV "LentNames" 127 142 1 11 := ⟨by rw [tb_y142]; exact tb_g (tb_4 (List.mem_of_getElem? (i := 219) rfl)) rfl, tb_v142.1, tb_v142.2.1, tb_v142.2.2.1, by decide, by decide, by decide, ⟨_, _, by rw [tb_y142]; rfl⟩, tb_v142.2.2.2⟩
theorem tb_v44 : Cond.instanceMethod (pm_y 44) ∈ iv_T ∧ Cond.selects (pm_y 44).cls (pm_y 44) (pm_y 44) ∈ iv_T ∧ pm_h 44 = [] ∧ (parseMethodDescriptor (pm_y 44).desc).map (fun d => d.parameters.length) = some 1 := by
  rw [tb_y44]
  exact ⟨tb_g (tb_5 (List.mem_of_getElem? (i := 181) rfl)) rfl, tb_g (tb_5 (List.mem_of_getElem? (i := 182) rfl)) rfl, rfl, by decide +kernel⟩
theorem tl_LentNames_130_0 : iv_LV "LentNames" 130 44 2 4 := ⟨by rw [tb_y44]; exact tb_g (tb_5 (List.mem_of_getElem? (i := 180) rfl)) rfl, tb_v44.1, tb_v44.2.1, tb_v44.2.2.1, by decide, by decide, by decide, ⟨_, _, by rw [tb_y44]; rfl⟩, tb_v44.2.2.2⟩
theorem tb_v144 : Cond.instanceMethod (pm_y 144) ∈ iv_T ∧ Cond.selects (pm_y 144).cls (pm_y 144) (pm_y 144) ∈ iv_T ∧ pm_h 144 = [] ∧ (parseMethodDescriptor (pm_y 144).desc).map (fun d => d.parameters.length) = some 1 := by
  rw [tb_y144]
  exact ⟨tb_g (tb_5 (List.mem_of_getElem? (i := 18) rfl)) rfl, tb_g (tb_sel (tb_p3 (List.mem_of_getElem? (a := ((⟨"LentNames", "needName", "(I)V"⟩ : MethodName), 12)) (i := 7) rfl))) rfl, rfl, by decide +kernel⟩
theorem tl_LentNames_150_0 : iv_LV "LentNames" 150 144 2 11 := ⟨by rw [tb_y144]; exact tb_g (tb_5 (List.mem_of_getElem? (i := 16) rfl)) rfl, tb_v144.1, tb_v144.2.1, tb_v144.2.2.1, by decide, by decide, by decide, ⟨_, _, by rw [tb_y144]; rfl⟩, tb_v144.2.2.2⟩
theorem tl_LentNames_153_2 : iv_LS "LentNames" 153 146 1 := by
  unfold iv_LS
  rw [tb_y146]
  exact ⟨tb_g (tb_5 (List.mem_of_getElem? (i := 36) rfl)) rfl, tb_g (tb_5 (List.mem_of_getElem? (i := 37) rfl)) rfl, by decide +kernel⟩
theorem tb_v5 : Cond.instanceMethod (pm_y 5) ∈ iv_T ∧ Cond.selects (pm_y 5).cls (pm_y 5) (pm_y 5) ∈ iv_T ∧ pm_h 5 = [] ∧ (parseMethodDescriptor (pm_y 5).desc).map (fun d => d.parameters.length) = some 2 := by
  rw [tb_y5]
  exact ⟨tb_g (tb_3 (List.mem_of_getElem? (i := 98) rfl)) rfl, tb_g (tb_3 (List.mem_of_getElem? (i := 99) rfl)) rfl, rfl, by decide +kernel⟩
theorem tl_LentNames_156_0 : iv_LV "LentNames" 156 5 3 2 := ⟨by rw [tb_y5]; exact tb_g (tb_3 (List.mem_of_getElem? (i := 110) rfl)) rfl, tb_v5.1, tb_v5.2.1, tb_v5.2.2.1, by decide, by decide, by decide, ⟨_, _, by rw [tb_y5]; rfl⟩, tb_v5.2.2.2⟩
theorem tb_v145 : Cond.instanceMethod (pm_y 145) ∈ iv_T ∧ Cond.selects (pm_y 145).cls (pm_y 145) (pm_y 145) ∈ iv_T ∧ pm_h 145 = [] ∧ (parseMethodDescriptor (pm_y 145).desc).map (fun d => d.parameters.length) = some 1 := by
  rw [tb_y145]
  exact ⟨tb_g (tb_5 (List.mem_of_getElem? (i := 49) rfl)) rfl, tb_g (tb_sel (tb_p3 (List.mem_of_getElem? (a := ((⟨"LentNames", "needBody", "(I)V"⟩ : MethodName), 12)) (i := 8) rfl))) rfl, rfl, by decide +kernel⟩
theorem tl_LentNames_160_0 : iv_LV "LentNames" 160 145 2 11 := ⟨by rw [tb_y145]; exact tb_g (tb_5 (List.mem_of_getElem? (i := 47) rfl)) rfl, tb_v145.1, tb_v145.2.1, tb_v145.2.2.1, by decide, by decide, by decide, ⟨_, _, by rw [tb_y145]; rfl⟩, tb_v145.2.2.2⟩
theorem tb_v8 : Cond.instanceMethod (pm_y 8) ∈ iv_T ∧ Cond.selects (pm_y 8).cls (pm_y 8) (pm_y 8) ∈ iv_T ∧ pm_h 8 = [] ∧ (parseMethodDescriptor (pm_y 8).desc).map (fun d => d.parameters.length) = some 2 := by
  rw [tb_y8]
  exact ⟨tb_g (tb_5 (List.mem_of_getElem? (i := 53) rfl)) rfl, tb_g (tb_5 (List.mem_of_getElem? (i := 54) rfl)) rfl, rfl, by decide +kernel⟩
theorem tl_LentNames_163_0 : iv_LV "LentNames" 163 8 3 2 := ⟨by rw [tb_y8]; exact tb_g (tb_5 (List.mem_of_getElem? (i := 52) rfl)) rfl, tb_v8.1, tb_v8.2.1, tb_v8.2.2.1, by decide, by decide, by decide, ⟨_, _, by rw [tb_y8]; rfl⟩, tb_v8.2.2.2⟩
theorem tb_v6 : Cond.instanceMethod (pm_y 6) ∈ iv_T ∧ Cond.selects (pm_y 6).cls (pm_y 6) (pm_y 6) ∈ iv_T ∧ pm_h 6 = [] ∧ (parseMethodDescriptor (pm_y 6).desc).map (fun d => d.parameters.length) = some 2 := by
  rw [tb_y6]
  exact ⟨tb_g (tb_5 (List.mem_of_getElem? (i := 64) rfl)) rfl, tb_g (tb_5 (List.mem_of_getElem? (i := 65) rfl)) rfl, rfl, by decide +kernel⟩
theorem tl_LentNames_166_0 : iv_LV "LentNames" 166 6 3 2 := ⟨by rw [tb_y6]; exact tb_g (tb_5 (List.mem_of_getElem? (i := 63) rfl)) rfl, tb_v6.1, tb_v6.2.1, tb_v6.2.2.1, by decide, by decide, by decide, ⟨_, _, by rw [tb_y6]; rfl⟩, tb_v6.2.2.2⟩
theorem tb_v7 : Cond.instanceMethod (pm_y 7) ∈ iv_T ∧ Cond.selects (pm_y 7).cls (pm_y 7) (pm_y 7) ∈ iv_T ∧ pm_h 7 = [] ∧ (parseMethodDescriptor (pm_y 7).desc).map (fun d => d.parameters.length) = some 3 := by
  rw [tb_y7]
  exact ⟨tb_g (tb_5 (List.mem_of_getElem? (i := 75) rfl)) rfl, tb_g (tb_5 (List.mem_of_getElem? (i := 76) rfl)) rfl, rfl, by decide +kernel⟩
theorem tl_LentNames_169_0 : iv_LV "LentNames" 169 7 4 2 := ⟨by rw [tb_y7]; exact tb_g (tb_5 (List.mem_of_getElem? (i := 74) rfl)) rfl, tb_v7.1, tb_v7.2.1, tb_v7.2.2.1, by decide, by decide, by decide, ⟨_, _, by rw [tb_y7]; rfl⟩, tb_v7.2.2.2⟩
theorem tb_v9 : Cond.instanceMethod (pm_y 9) ∈ iv_T ∧ Cond.selects (pm_y 9).cls (pm_y 9) (pm_y 9) ∈ iv_T ∧ pm_h 9 = [] ∧ (parseMethodDescriptor (pm_y 9).desc).map (fun d => d.parameters.length) = some 1 := by
  rw [tb_y9]
  exact ⟨tb_g (tb_5 (List.mem_of_getElem? (i := 86) rfl)) rfl, tb_g (tb_5 (List.mem_of_getElem? (i := 87) rfl)) rfl, rfl, by decide +kernel⟩
theorem tl_LentNames_173_0 : iv_LV "LentNames" 173 9 2 2 := ⟨by rw [tb_y9]; exact tb_g (tb_5 (List.mem_of_getElem? (i := 85) rfl)) rfl, tb_v9.1, tb_v9.2.1, tb_v9.2.2.1, by decide, by decide, by decide, ⟨_, _, by rw [tb_y9]; rfl⟩, tb_v9.2.2.2⟩
theorem tl_LentNames_177_2 : iv_LS "LentNames" 177 151 1 := by
  unfold iv_LS
  rw [tb_y151]
  exact ⟨tb_g (tb_5 (List.mem_of_getElem? (i := 96) rfl)) rfl, tb_g (tb_5 (List.mem_of_getElem? (i := 97) rfl)) rfl, by decide +kernel⟩
theorem tl_LentNames_184_2 : iv_LS "LentNames" 184 148 2 := by
  unfold iv_LS
  rw [tb_y148]
  exact ⟨tb_g (tb_5 (List.mem_of_getElem? (i := 106) rfl)) rfl, tb_g (tb_2 (List.mem_of_getElem? (i := 183) rfl)) rfl, by decide +kernel⟩
theorem tl_LentNames_196_2 : iv_LS "LentNames" 196 149 2 := by
  unfold iv_LS
  rw [tb_y149]
  exact ⟨tb_g (tb_6 (List.mem_of_getElem? (i := 30) rfl)) rfl, tb_g (tb_3 (List.mem_of_getElem? (i := 21) rfl)) rfl, by decide +kernel⟩
theorem tb_v10 : Cond.instanceMethod (pm_y 10) ∈ iv_T ∧ Cond.selects (pm_y 10).cls (pm_y 10) (pm_y 10) ∈ iv_T ∧ pm_h 10 = [] ∧ (parseMethodDescriptor (pm_y 10).desc).map (fun d => d.parameters.length) = some 1 := by
  rw [tb_y10]
  exact ⟨tb_g (tb_3 (List.mem_of_getElem? (i := 94) rfl)) rfl, tb_g (tb_3 (List.mem_of_getElem? (i := 95) rfl)) rfl, rfl, by decide +kernel⟩
theorem tl_LentNames_199_0 : iv_LV "LentNames" 199 10 2 2 := ⟨by rw [tb_y10]; exact tb_g (tb_3 (List.mem_of_getElem? (i := 93) rfl)) rfl, tb_v10.1, tb_v10.2.1, tb_v10.2.2.1, by decide, by decide, by decide, ⟨_, _, by rw [tb_y10]; rfl⟩, tb_v10.2.2.2⟩
theorem tl_LentNames_206_2 : iv_LS "LentNames" 206 147 2 := by
  unfold iv_LS
  rw [tb_y147]
  exact ⟨tb_g (tb_5 (List.mem_of_getElem? (i := 115) rfl)) rfl, tb_g (tb_5 (List.mem_of_getElem? (i := 116) rfl)) rfl, by decide +kernel⟩
theorem tb_v68 : Cond.instanceMethod (pm_y 68) ∈ iv_T ∧ Cond.selects (pm_y 68).cls (pm_y 68) (pm_y 68) ∈ iv_T ∧ pm_h 68 = [] ∧ (parseMethodDescriptor (pm_y 68).desc).map (fun d => d.parameters.length) = some 2 := by
  rw [tb_y68]
  exact ⟨tb_g (tb_2 (List.mem_of_getElem? (i := 162) rfl)) rfl, tb_g (tb_2 (List.mem_of_getElem? (i := 163) rfl)) rfl, rfl, by decide +kernel⟩
theorem tl_LentNames_210_0 : iv_LV "LentNames" 210 68 3 7 := ⟨by rw [tb_y68]; exact tb_g (tb_3 (List.mem_of_getElem? (i := 109) rfl)) rfl, tb_v68.1, tb_v68.2.1, tb_v68.2.2.1, by decide, by decide, by decide, ⟨_, _, by rw [tb_y68]; rfl⟩, tb_v68.2.2.2⟩
theorem tb_v86 : Cond.instanceMethod (pm_y 86) ∈ iv_T ∧ Cond.selects (pm_y 86).cls (pm_y 86) (pm_y 86) ∈ iv_T ∧ pm_h 86 = [] ∧ (parseMethodDescriptor (pm_y 86).desc).map (fun d => d.parameters.length) = some 1 := by
  rw [tb_y86]
  exact ⟨tb_g (tb_2 (List.mem_of_getElem? (i := 166) rfl)) rfl, tb_g (tb_2 (List.mem_of_getElem? (i := 167) rfl)) rfl, rfl, by decide +kernel⟩
theorem tl_LentNames_215_0 : iv_LV "LentNames" 215 86 2 9 := ⟨by rw [tb_y86]; exact tb_g (tb_5 (List.mem_of_getElem? (i := 119) rfl)) rfl, tb_v86.1, tb_v86.2.1, tb_v86.2.2.1, by decide, by decide, by decide, ⟨_, _, by rw [tb_y86]; rfl⟩, tb_v86.2.2.2⟩
theorem tb_v11 : Cond.instanceMethod (pm_y 11) ∈ iv_T ∧ Cond.selects (pm_y 11).cls (pm_y 11) (pm_y 11) ∈ iv_T ∧ pm_h 11 = [] ∧ (parseMethodDescriptor (pm_y 11).desc).map (fun d => d.parameters.length) = some 2 := by
  rw [tb_y11]
  exact ⟨tb_g (tb_5 (List.mem_of_getElem? (i := 152) rfl)) rfl, tb_g (tb_5 (List.mem_of_getElem? (i := 153) rfl)) rfl, rfl, by decide +kernel⟩
theorem tl_LentNames_240_0 : iv_LV "LentNames" 240 11 3 2 := ⟨by rw [tb_y11]; exact tb_g (tb_5 (List.mem_of_getElem? (i := 151) rfl)) rfl, tb_v11.1, tb_v11.2.1, tb_v11.2.2.1, by decide, by decide, by decide, ⟨_, _, by rw [tb_y11]; rfl⟩, tb_v11.2.2.2⟩
theorem tb_v69 : Cond.instanceMethod (pm_y 69) ∈ iv_T ∧ Cond.selects (pm_y 69).cls (pm_y 69) (pm_y 69) ∈ iv_T ∧ pm_h 69 = [] ∧ (parseMethodDescriptor (pm_y 69).desc).map (fun d => d.parameters.length) = some 3 := by
  rw [tb_y69]
  exact ⟨tb_g (tb_4 (List.mem_of_getElem? (i := 52) rfl)) rfl, tb_g (tb_4 (List.mem_of_getElem? (i := 53) rfl)) rfl, rfl, by decide +kernel⟩
theorem tl_LentNames_243_0 : iv_LV "LentNames" 243 69 4 7 := ⟨by rw [tb_y69]; exact tb_g (tb_6 (List.mem_of_getElem? (i := 38) rfl)) rfl, tb_v69.1, tb_v69.2.1, tb_v69.2.2.1, by decide, by decide, by decide, ⟨_, _, by rw [tb_y69]; rfl⟩, tb_v69.2.2.2⟩
theorem tb_v12 : Cond.instanceMethod (pm_y 12) ∈ iv_T ∧ Cond.selects (pm_y 12).cls (pm_y 12) (pm_y 12) ∈ iv_T ∧ pm_h 12 = [] ∧ (parseMethodDescriptor (pm_y 12).desc).map (fun d => d.parameters.length) = some 1 := by
  rw [tb_y12]
  exact ⟨tb_g (tb_3 (List.mem_of_getElem? (i := 124) rfl)) rfl, tb_g (tb_3 (List.mem_of_getElem? (i := 125) rfl)) rfl, rfl, by decide +kernel⟩
theorem tl_LentNames_266_0 : iv_LV "LentNames" 266 12 2 2 := ⟨by rw [tb_y12]; exact tb_g (tb_5 (List.mem_of_getElem? (i := 165) rfl)) rfl, tb_v12.1, tb_v12.2.1, tb_v12.2.2.1, by decide, by decide, by decide, ⟨_, _, by rw [tb_y12]; rfl⟩, tb_v12.2.2.2⟩
theorem tb_v1 : Cond.instanceMethod (pm_y 1) ∈ iv_T ∧ Cond.selects (pm_y 1).cls (pm_y 1) (pm_y 1) ∈ iv_T ∧ pm_h 1 = [] ∧ (parseMethodDescriptor (pm_y 1).desc).map (fun d => d.parameters.length) = some 2 := by
  rw [tb_y1]
  exact ⟨tb_g (tb_3 (List.mem_of_getElem? (i := 116) rfl)) rfl, tb_g (tb_3 (List.mem_of_getElem? (i := 117) rfl)) rfl, rfl, by decide +kernel⟩
theorem tl_LentNames_274_0 : iv_LV "LentNames" 274 1 3 1 := ⟨by rw [tb_y1]; exact tb_g (tb_3 (List.mem_of_getElem? (i := 115) rfl)) rfl, tb_v1.1, tb_v1.2.1, tb_v1.2.2.1, by decide, by decide, by decide, ⟨_, _, by rw [tb_y1]; rfl⟩, tb_v1.2.2.2⟩
theorem tb_v13 : Cond.instanceMethod (pm_y 13) ∈ iv_T ∧ Cond.selects (pm_y 13).cls (pm_y 13) (pm_y 13) ∈ iv_T ∧ pm_h 13 = [] ∧ (parseMethodDescriptor (pm_y 13).desc).map (fun d => d.parameters.length) = some 1 := by
  rw [tb_y13]
  exact ⟨tb_g (tb_3 (List.mem_of_getElem? (i := 136) rfl)) rfl, tb_g (tb_3 (List.mem_of_getElem? (i := 137) rfl)) rfl, rfl, by decide +kernel⟩
theorem tl_LentNames_287_0 : iv_LV "LentNames" 287 13 2 2 := ⟨by rw [tb_y13]; exact tb_g (tb_3 (List.mem_of_getElem? (i := 135) rfl)) rfl, tb_v13.1, tb_v13.2.1, tb_v13.2.2.1, by decide, by decide, by decide, ⟨_, _, by rw [tb_y13]; rfl⟩, tb_v13.2.2.2⟩
theorem tb_v87 : Cond.instanceMethod (pm_y 87) ∈ iv_T ∧ Cond.selects (pm_y 87).cls (pm_y 87) (pm_y 87) ∈ iv_T ∧ pm_h 87 = [] ∧ (parseMethodDescriptor (pm_y 87).desc).map (fun d => d.parameters.length) = some 1 := by
  rw [tb_y87]
  exact ⟨tb_g (tb_6 (List.mem_of_getElem? (i := 65) rfl)) rfl, tb_g (tb_6 (List.mem_of_getElem? (i := 66) rfl)) rfl, rfl, by decide +kernel⟩
theorem tl_LentNames_299_0 : iv_LV "LentNames" 299 87 2 9 := ⟨by rw [tb_y87]; exact tb_g (tb_6 (List.mem_of_getElem? (i := 192) rfl)) rfl, tb_v87.1, tb_v87.2.1, tb_v87.2.2.1, by decide, by decide, by decide, ⟨_, _, by rw [tb_y87]; rfl⟩, tb_v87.2.2.2⟩
theorem tb_v134 : Cond.instanceMethod (pm_y 134) ∈ iv_T ∧ Cond.selects (pm_y 134).cls (pm_y 134) (pm_y 134) ∈ iv_T ∧ pm_h 134 = [] ∧ (parseMethodDescriptor (pm_y 134).desc).map (fun d => d.parameters.length) = some 0 := by
  rw [tb_y134]
  exact ⟨tb_g (tb_3 (List.mem_of_getElem? (i := 132) rfl)) rfl, tb_g (tb_3 (List.mem_of_getElem? (i := 133) rfl)) rfl, rfl, by decide +kernel⟩
theorem tl_LentNames_302_0 : iv_LV "LentNames" 302 134 1 11 := ⟨by rw [tb_y134]; exact tb_g (tb_6 (List.mem_of_getElem? (i := 193) rfl)) rfl, tb_v134.1, tb_v134.2.1, tb_v134.2.2.1, by decide, by decide, by decide, ⟨_, _, by rw [tb_y134]; rfl⟩, tb_v134.2.2.2⟩
theorem tb_v14 : Cond.instanceMethod (pm_y 14) ∈ iv_T ∧ Cond.selects (pm_y 14).cls (pm_y 14) (pm_y 14) ∈ iv_T ∧ pm_h 14 = [] ∧ (parseMethodDescriptor (pm_y 14).desc).map (fun d => d.parameters.length) = some 0 := by
  rw [tb_y14]
  exact ⟨tb_g (tb_3 (List.mem_of_getElem? (i := 170) rfl)) rfl, tb_g (tb_3 (List.mem_of_getElem? (i := 171) rfl)) rfl, rfl, by decide +kernel⟩
theorem tl_LentNames_306_0 : iv_LV "LentNames" 306 14 1 2 := ⟨by rw [tb_y14]; exact tb_g (tb_3 (List.mem_of_getElem? (i := 169) rfl)) rfl, tb_v14.1, tb_v14.2.1, tb_v14.2.2.1, by decide, by decide, by decide, ⟨_, _, by rw [tb_y14]; rfl⟩, tb_v14.2.2.2⟩
theorem tb_v88 : Cond.instanceMethod (pm_y 88) ∈ iv_T ∧ Cond.selects (pm_y 88).cls (pm_y 88) (pm_y 88) ∈ iv_T ∧ pm_h 88 = [] ∧ (parseMethodDescriptor (pm_y 88).desc).map (fun d => d.parameters.length) = some 0 := by
  rw [tb_y88]
  exact ⟨tb_g (tb_3 (List.mem_of_getElem? (i := 174) rfl)) rfl, tb_g (tb_3 (List.mem_of_getElem? (i := 175) rfl)) rfl, rfl, by decide +kernel⟩
theorem tl_LentNames_309_0 : iv_LV "LentNames" 309 88 1 9 := ⟨by rw [tb_y88]; exact tb_g (tb_3 (List.mem_of_getElem? (i := 173) rfl)) rfl, tb_v88.1, tb_v88.2.1, tb_v88.2.2.1, by decide, by decide, by decide, ⟨_, _, by rw [tb_y88]; rfl⟩, tb_v88.2.2.2⟩
theorem tb_v89 : Cond.instanceMethod (pm_y 89) ∈ iv_T ∧ Cond.selects (pm_y 89).cls (pm_y 89) (pm_y 89) ∈ iv_T ∧ pm_h 89 = [] ∧ (parseMethodDescriptor (pm_y 89).desc).map (fun d => d.parameters.length) = some 0 := by
  rw [tb_y89]
  exact ⟨tb_g (tb_3 (List.mem_of_getElem? (i := 184) rfl)) rfl, tb_g (tb_3 (List.mem_of_getElem? (i := 185) rfl)) rfl, rfl, by decide +kernel⟩
theorem tl_LentNames_315_0 : iv_LV "LentNames" 315 89 1 9 := ⟨by rw [tb_y89]; exact tb_g (tb_3 (List.mem_of_getElem? (i := 183) rfl)) rfl, tb_v89.1, tb_v89.2.1, tb_v89.2.2.1, by decide, by decide, by decide, ⟨_, _, by rw [tb_y89]; rfl⟩, tb_v89.2.2.2⟩
theorem tb_v90 : Cond.instanceMethod (pm_y 90) ∈ iv_T ∧ Cond.selects (pm_y 90).cls (pm_y 90) (pm_y 90) ∈ iv_T ∧ pm_h 90 = [] ∧ (parseMethodDescriptor (pm_y 90).desc).map (fun d => d.parameters.length) = some 0 := by
  rw [tb_y90]
  exact ⟨tb_g (tb_3 (List.mem_of_getElem? (i := 188) rfl)) rfl, tb_g (tb_3 (List.mem_of_getElem? (i := 189) rfl)) rfl, rfl, by decide +kernel⟩
theorem tl_LentNames_318_0 : iv_LV "LentNames" 318 90 1 9 := ⟨by rw [tb_y90]; exact tb_g (tb_3 (List.mem_of_getElem? (i := 187) rfl)) rfl, tb_v90.1, tb_v90.2.1, tb_v90.2.2.1, by decide, by decide, by decide, ⟨_, _, by rw [tb_y90]; rfl⟩, tb_v90.2.2.2⟩
theorem tb_v4 : Cond.instanceMethod (pm_y 4) ∈ iv_T ∧ Cond.selects (pm_y 4).cls (pm_y 4) (pm_y 4) ∈ iv_T ∧ pm_h 4 = [] ∧ (parseMethodDescriptor (pm_y 4).desc).map (fun d => d.parameters.length) = some 1 := by
  rw [tb_y4]
  exact ⟨tb_g (tb_2 (List.mem_of_getElem? (i := 150) rfl)) rfl, tb_g (tb_2 (List.mem_of_getElem? (i := 151) rfl)) rfl, rfl, by decide +kernel⟩
theorem tl_LentNames_324_0 : iv_LV "LentNames" 324 4 2 2 := ⟨by rw [tb_y4]; exact tb_g (tb_2 (List.mem_of_getElem? (i := 149) rfl)) rfl, tb_v4.1, tb_v4.2.1, tb_v4.2.2.1, by decide, by decide, by decide, ⟨_, _, by rw [tb_y4]; rfl⟩, tb_v4.2.2.2⟩
theorem tl_LentNames_Accounts_39_0 : iv_LV "LentNames$Accounts" 39 68 3 7 := ⟨by rw [tb_y68]; exact tb_g (tb_3 (List.mem_of_getElem? (i := 122) rfl)) rfl, tb_v68.1, tb_v68.2.1, tb_v68.2.2.1, by decide, by decide, by decide, ⟨_, _, by rw [tb_y68]; rfl⟩, tb_v68.2.2.2⟩
theorem tl_LentNames_Accounts_43_0 : iv_LV "LentNames$Accounts" 43 12 2 2 := ⟨by rw [tb_y12]; exact tb_g (tb_3 (List.mem_of_getElem? (i := 123) rfl)) rfl, tb_v12.1, tb_v12.2.1, tb_v12.2.2.1, by decide, by decide, by decide, ⟨_, _, by rw [tb_y12]; rfl⟩, tb_v12.2.2.2⟩
theorem tb_v2 : Cond.instanceMethod (pm_y 2) ∈ iv_T ∧ Cond.selects (pm_y 2).cls (pm_y 2) (pm_y 2) ∈ iv_T ∧ pm_h 2 = [] ∧ (parseMethodDescriptor (pm_y 2).desc).map (fun d => d.parameters.length) = some 3 := by
  rw [tb_y2]
  exact ⟨tb_g (tb_3 (List.mem_of_getElem? (i := 129) rfl)) rfl, tb_g (tb_sel (tb_p2 (List.mem_of_getElem? (a := ((⟨"LentNames$Accounts", "settleDebt", "(III)V"⟩ : MethodName), 2)) (i := 7) rfl))) rfl, rfl, by decide +kernel⟩
theorem tl_LentNames_Accounts_49_0 : iv_LV "LentNames$Accounts" 49 2 4 1 := ⟨by rw [tb_y2]; exact tb_g (tb_3 (List.mem_of_getElem? (i := 127) rfl)) rfl, tb_v2.1, tb_v2.2.1, tb_v2.2.2.1, by decide, by decide, by decide, ⟨_, _, by rw [tb_y2]; rfl⟩, tb_v2.2.2.2⟩
theorem tb_v16 : Cond.instanceMethod (pm_y 16) ∈ iv_T ∧ Cond.selects (pm_y 16).cls (pm_y 16) (pm_y 16) ∈ iv_T ∧ pm_h 16 = [] ∧ (parseMethodDescriptor (pm_y 16).desc).map (fun d => d.parameters.length) = some 0 := by
  rw [tb_y16]
  exact ⟨tb_g (tb_2 (List.mem_of_getElem? (i := 155) rfl)) rfl, tb_g (tb_sel (tb_p1 (List.mem_of_getElem? (a := ((⟨"LentNames$Calendar", "begin", "()V"⟩ : MethodName), 14)) (i := 1) rfl))) rfl, rfl, by decide +kernel⟩
theorem tl_LentNames_Calendar_55_0 : iv_LV "LentNames$Calendar" 55 16 1 2 := ⟨by rw [tb_y16]; exact tb_g (tb_2 (List.mem_of_getElem? (i := 153) rfl)) rfl, tb_v16.1, tb_v16.2.1, tb_v16.2.2.1, by decide, by decide, by decide, ⟨_, _, by rw [tb_y16]; rfl⟩, tb_v16.2.2.2⟩
theorem tb_v17 : Cond.instanceMethod (pm_y 17) ∈ iv_T ∧ Cond.selects (pm_y 17).cls (pm_y 17) (pm_y 17) ∈ iv_T ∧ pm_h 17 = [] ∧ (parseMethodDescriptor (pm_y 17).desc).map (fun d => d.parameters.length) = some 1 := by
  rw [tb_y17]
  exact ⟨tb_g (tb_2 (List.mem_of_getElem? (i := 172) rfl)) rfl, tb_g (tb_sel (tb_p1 (List.mem_of_getElem? (a := ((⟨"LentNames$Calendar", "endLoans", "(I)V"⟩ : MethodName), 14)) (i := 2) rfl))) rfl, rfl, by decide +kernel⟩
theorem tl_LentNames_Calendar_58_0 : iv_LV "LentNames$Calendar" 58 17 2 2 := ⟨by rw [tb_y17]; exact tb_g (tb_2 (List.mem_of_getElem? (i := 170) rfl)) rfl, tb_v17.1, tb_v17.2.1, tb_v17.2.2.1, by decide, by decide, by decide, ⟨_, _, by rw [tb_y17]; rfl⟩, tb_v17.2.2.2⟩
theorem tb_v19 : Cond.instanceMethod (pm_y 19) ∈ iv_T ∧ Cond.selects (pm_y 19).cls (pm_y 19) (pm_y 19) ∈ iv_T ∧ pm_h 19 = [] ∧ (parseMethodDescriptor (pm_y 19).desc).map (fun d => d.parameters.length) = some 1 := by
  rw [tb_y19]
  exact ⟨tb_g (tb_2 (List.mem_of_getElem? (i := 187) rfl)) rfl, tb_g (tb_sel (tb_p1 (List.mem_of_getElem? (a := ((⟨"LentNames$Calendar", "holdCourt", "(I)V"⟩ : MethodName), 14)) (i := 5) rfl))) rfl, rfl, by decide +kernel⟩
theorem tl_LentNames_Calendar_72_0 : iv_LV "LentNames$Calendar" 72 19 2 2 := ⟨by rw [tb_y19]; exact tb_g (tb_2 (List.mem_of_getElem? (i := 185) rfl)) rfl, tb_v19.1, tb_v19.2.1, tb_v19.2.2.1, by decide, by decide, by decide, ⟨_, _, by rw [tb_y19]; rfl⟩, tb_v19.2.2.2⟩
theorem tb_v20 : Cond.instanceMethod (pm_y 20) ∈ iv_T ∧ Cond.selects (pm_y 20).cls (pm_y 20) (pm_y 20) ∈ iv_T ∧ pm_h 20 = [] ∧ (parseMethodDescriptor (pm_y 20).desc).map (fun d => d.parameters.length) = some 1 := by
  rw [tb_y20]
  exact ⟨tb_g (tb_2 (List.mem_of_getElem? (i := 208) rfl)) rfl, tb_g (tb_sel (tb_p1 (List.mem_of_getElem? (a := ((⟨"LentNames$Calendar", "chargePledges", "(I)V"⟩ : MethodName), 14)) (i := 10) rfl))) rfl, rfl, by decide +kernel⟩
theorem tl_LentNames_Calendar_75_0 : iv_LV "LentNames$Calendar" 75 20 2 2 := ⟨by rw [tb_y20]; exact tb_g (tb_2 (List.mem_of_getElem? (i := 206) rfl)) rfl, tb_v20.1, tb_v20.2.1, tb_v20.2.2.1, by decide, by decide, by decide, ⟨_, _, by rw [tb_y20]; rfl⟩, tb_v20.2.2.2⟩
theorem tb_v21 : Cond.instanceMethod (pm_y 21) ∈ iv_T ∧ Cond.selects (pm_y 21).cls (pm_y 21) (pm_y 21) ∈ iv_T ∧ pm_h 21 = [] ∧ (parseMethodDescriptor (pm_y 21).desc).map (fun d => d.parameters.length) = some 1 := by
  rw [tb_y21]
  exact ⟨tb_g (tb_2 (List.mem_of_getElem? (i := 212) rfl)) rfl, tb_g (tb_sel (tb_p1 (List.mem_of_getElem? (a := ((⟨"LentNames$Calendar", "lendNames", "(I)V"⟩ : MethodName), 14)) (i := 11) rfl))) rfl, rfl, by decide +kernel⟩
theorem tl_LentNames_Calendar_78_0 : iv_LV "LentNames$Calendar" 78 21 2 2 := ⟨by rw [tb_y21]; exact tb_g (tb_2 (List.mem_of_getElem? (i := 210) rfl)) rfl, tb_v21.1, tb_v21.2.1, tb_v21.2.2.1, by decide, by decide, by decide, ⟨_, _, by rw [tb_y21]; rfl⟩, tb_v21.2.2.2⟩
theorem tb_v26 : Cond.instanceMethod (pm_y 26) ∈ iv_T ∧ Cond.selects (pm_y 26).cls (pm_y 26) (pm_y 26) ∈ iv_T ∧ pm_h 26 = [] ∧ (parseMethodDescriptor (pm_y 26).desc).map (fun d => d.parameters.length) = some 1 := by
  rw [tb_y26]
  exact ⟨tb_g (tb_3 (List.mem_of_getElem? (i := 11) rfl)) rfl, tb_g (tb_sel (tb_p2 (List.mem_of_getElem? (a := ((⟨"LentNames$Calendar", "note", "(I)V"⟩ : MethodName), 14)) (i := 3) rfl))) rfl, rfl, by decide +kernel⟩
theorem tl_LentNames_Calendar_81_0 : iv_LV "LentNames$Calendar" 81 26 2 2 := ⟨by rw [tb_y26]; exact tb_g (tb_3 (List.mem_of_getElem? (i := 9) rfl)) rfl, tb_v26.1, tb_v26.2.1, tb_v26.2.2.1, by decide, by decide, by decide, ⟨_, _, by rw [tb_y26]; rfl⟩, tb_v26.2.2.2⟩
theorem tb_v15 : Cond.instanceMethod (pm_y 15) ∈ iv_T ∧ Cond.selects (pm_y 15).cls (pm_y 15) (pm_y 15) ∈ iv_T ∧ pm_h 15 = [] ∧ (parseMethodDescriptor (pm_y 15).desc).map (fun d => d.parameters.length) = some 2 := by
  rw [tb_y15]
  exact ⟨tb_g (tb_3 (List.mem_of_getElem? (i := 103) rfl)) rfl, tb_g (tb_sel (tb_p2 (List.mem_of_getElem? (a := ((⟨"LentNames$Calendar", "isNoted", "(II)Z"⟩ : MethodName), 14)) (i := 6) rfl))) rfl, rfl, by decide +kernel⟩
theorem tl_LentNames_Calendar_84_0 : iv_LV "LentNames$Calendar" 84 15 3 2 := ⟨by rw [tb_y15]; exact tb_g (tb_3 (List.mem_of_getElem? (i := 101) rfl)) rfl, tb_v15.1, tb_v15.2.1, tb_v15.2.2.1, by decide, by decide, by decide, ⟨_, _, by rw [tb_y15]; rfl⟩, tb_v15.2.2.2⟩
theorem tl_LentNames_Calendar_94_0 : iv_LV "LentNames$Calendar" 94 5 3 2 := ⟨by rw [tb_y5]; exact tb_g (tb_3 (List.mem_of_getElem? (i := 97) rfl)) rfl, tb_v5.1, tb_v5.2.1, tb_v5.2.2.1, by decide, by decide, by decide, ⟨_, _, by rw [tb_y5]; rfl⟩, tb_v5.2.2.2⟩
theorem tl_LentNames_Calendar_109_0 : iv_LV "LentNames$Calendar" 109 68 3 7 := ⟨by rw [tb_y68]; exact tb_g (tb_2 (List.mem_of_getElem? (i := 197) rfl)) rfl, tb_v68.1, tb_v68.2.1, tb_v68.2.2.1, by decide, by decide, by decide, ⟨_, _, by rw [tb_y68]; rfl⟩, tb_v68.2.2.2⟩
theorem tb_v31 : Cond.instanceMethod (pm_y 31) ∈ iv_T ∧ Cond.selects (pm_y 31).cls (pm_y 31) (pm_y 31) ∈ iv_T ∧ pm_h 31 = [] ∧ (parseMethodDescriptor (pm_y 31).desc).map (fun d => d.parameters.length) = some 2 := by
  rw [tb_y31]
  exact ⟨tb_g (tb_2 (List.mem_of_getElem? (i := 200) rfl)) rfl, tb_g (tb_sel (tb_p1 (List.mem_of_getElem? (a := ((⟨"LentNames$Calendar", "isAlive", "(II)Z"⟩ : MethodName), 14)) (i := 8) rfl))) rfl, rfl, by decide +kernel⟩
theorem tl_LentNames_Calendar_114_0 : iv_LV "LentNames$Calendar" 114 31 3 2 := ⟨by rw [tb_y31]; exact tb_g (tb_2 (List.mem_of_getElem? (i := 198) rfl)) rfl, tb_v31.1, tb_v31.2.1, tb_v31.2.2.1, by decide, by decide, by decide, ⟨_, _, by rw [tb_y31]; rfl⟩, tb_v31.2.2.2⟩
theorem tb_v85 : Cond.instanceMethod (pm_y 85) ∈ iv_T ∧ Cond.selects (pm_y 85).cls (pm_y 85) (pm_y 85) ∈ iv_T ∧ pm_h 85 = [] ∧ (parseMethodDescriptor (pm_y 85).desc).map (fun d => d.parameters.length) = some 1 := by
  rw [tb_y85]
  exact ⟨tb_g (tb_2 (List.mem_of_getElem? (i := 158) rfl)) rfl, tb_g (tb_2 (List.mem_of_getElem? (i := 159) rfl)) rfl, rfl, by decide +kernel⟩
theorem tl_LentNames_Calendar_126_0 : iv_LV "LentNames$Calendar" 126 85 2 9 := ⟨by rw [tb_y85]; exact tb_g (tb_2 (List.mem_of_getElem? (i := 157) rfl)) rfl, tb_v85.1, tb_v85.2.1, tb_v85.2.2.1, by decide, by decide, by decide, ⟨_, _, by rw [tb_y85]; rfl⟩, tb_v85.2.2.2⟩
theorem tl_LentNames_Calendar_130_0 : iv_LV "LentNames$Calendar" 130 86 2 9 := ⟨by rw [tb_y86]; exact tb_g (tb_2 (List.mem_of_getElem? (i := 165) rfl)) rfl, tb_v86.1, tb_v86.2.1, tb_v86.2.2.1, by decide, by decide, by decide, ⟨_, _, by rw [tb_y86]; rfl⟩, tb_v86.2.2.2⟩
theorem tb_v33 : Cond.instanceMethod (pm_y 33) ∈ iv_T ∧ Cond.selects (pm_y 33).cls (pm_y 33) (pm_y 33) ∈ iv_T ∧ pm_h 33 = [] ∧ (parseMethodDescriptor (pm_y 33).desc).map (fun d => d.parameters.length) = some 2 := by
  rw [tb_y33]
  exact ⟨tb_g (tb_2 (List.mem_of_getElem? (i := 176) rfl)) rfl, tb_g (tb_sel (tb_p1 (List.mem_of_getElem? (a := ((⟨"LentNames$Calendar", "loanAt", "(II)I"⟩ : MethodName), 14)) (i := 3) rfl))) rfl, rfl, by decide +kernel⟩
theorem tl_LentNames_Calendar_136_0 : iv_LV "LentNames$Calendar" 136 33 3 2 := ⟨by rw [tb_y33]; exact tb_g (tb_2 (List.mem_of_getElem? (i := 174) rfl)) rfl, tb_v33.1, tb_v33.2.1, tb_v33.2.2.1, by decide, by decide, by decide, ⟨_, _, by rw [tb_y33]; rfl⟩, tb_v33.2.2.2⟩
theorem tb_v18 : Cond.instanceMethod (pm_y 18) ∈ iv_T ∧ Cond.selects (pm_y 18).cls (pm_y 18) (pm_y 18) ∈ iv_T ∧ pm_h 18 = [] ∧ (parseMethodDescriptor (pm_y 18).desc).map (fun d => d.parameters.length) = some 3 := by
  rw [tb_y18]
  exact ⟨tb_g (tb_2 (List.mem_of_getElem? (i := 180) rfl)) rfl, tb_g (tb_sel (tb_p1 (List.mem_of_getElem? (a := ((⟨"LentNames$Calendar", "endFrom", "(III)V"⟩ : MethodName), 14)) (i := 4) rfl))) rfl, rfl, by decide +kernel⟩
theorem tl_LentNames_Calendar_139_0 : iv_LV "LentNames$Calendar" 139 18 4 2 := ⟨by rw [tb_y18]; exact tb_g (tb_2 (List.mem_of_getElem? (i := 178) rfl)) rfl, tb_v18.1, tb_v18.2.1, tb_v18.2.2.1, by decide, by decide, by decide, ⟨_, _, by rw [tb_y18]; rfl⟩, tb_v18.2.2.2⟩
theorem tb_v29 : Cond.instanceMethod (pm_y 29) ∈ iv_T ∧ Cond.selects (pm_y 29).cls (pm_y 29) (pm_y 29) ∈ iv_T ∧ pm_h 29 = [] ∧ (parseMethodDescriptor (pm_y 29).desc).map (fun d => d.parameters.length) = some 2 := by
  rw [tb_y29]
  exact ⟨tb_g (tb_2 (List.mem_of_getElem? (i := 191) rfl)) rfl, tb_g (tb_sel (tb_p1 (List.mem_of_getElem? (a := ((⟨"LentNames$Calendar", "isBorneByRight", "(II)Z"⟩ : MethodName), 14)) (i := 6) rfl))) rfl, rfl, by decide +kernel⟩
theorem tl_LentNames_Calendar_143_0 : iv_LV "LentNames$Calendar" 143 29 3 2 := ⟨by rw [tb_y29]; exact tb_g (tb_2 (List.mem_of_getElem? (i := 189) rfl)) rfl, tb_v29.1, tb_v29.2.1, tb_v29.2.2.1, by decide, by decide, by decide, ⟨_, _, by rw [tb_y29]; rfl⟩, tb_v29.2.2.2⟩
theorem tb_v22 : Cond.instanceMethod (pm_y 22) ∈ iv_T ∧ Cond.selects (pm_y 22).cls (pm_y 22) (pm_y 22) ∈ iv_T ∧ pm_h 22 = [] ∧ (parseMethodDescriptor (pm_y 22).desc).map (fun d => d.parameters.length) = some 3 := by
  rw [tb_y22]
  exact ⟨tb_g (tb_2 (List.mem_of_getElem? (i := 216) rfl)) rfl, tb_g (tb_sel (tb_p1 (List.mem_of_getElem? (a := ((⟨"LentNames$Calendar", "mayBegin", "(III)Z"⟩ : MethodName), 14)) (i := 12) rfl))) rfl, rfl, by decide +kernel⟩
theorem tl_LentNames_Calendar_146_0 : iv_LV "LentNames$Calendar" 146 22 4 2 := ⟨by rw [tb_y22]; exact tb_g (tb_2 (List.mem_of_getElem? (i := 214) rfl)) rfl, tb_v22.1, tb_v22.2.1, tb_v22.2.2.1, by decide, by decide, by decide, ⟨_, _, by rw [tb_y22]; rfl⟩, tb_v22.2.2.2⟩
theorem tb_v24 : Cond.instanceMethod (pm_y 24) ∈ iv_T ∧ Cond.selects (pm_y 24).cls (pm_y 24) (pm_y 24) ∈ iv_T ∧ pm_h 24 = [] ∧ (parseMethodDescriptor (pm_y 24).desc).map (fun d => d.parameters.length) = some 3 := by
  rw [tb_y24]
  exact ⟨tb_g (tb_2 (List.mem_of_getElem? (i := 224) rfl)) rfl, tb_g (tb_sel (tb_p1 (List.mem_of_getElem? (a := ((⟨"LentNames$Calendar", "isGranted", "(III)Z"⟩ : MethodName), 14)) (i := 14) rfl))) rfl, rfl, by decide +kernel⟩
theorem tl_LentNames_Calendar_150_0 : iv_LV "LentNames$Calendar" 150 24 4 2 := ⟨by rw [tb_y24]; exact tb_g (tb_2 (List.mem_of_getElem? (i := 222) rfl)) rfl, tb_v24.1, tb_v24.2.1, tb_v24.2.2.1, by decide, by decide, by decide, ⟨_, _, by rw [tb_y24]; rfl⟩, tb_v24.2.2.2⟩
theorem tb_v32 : Cond.instanceMethod (pm_y 32) ∈ iv_T ∧ Cond.selects (pm_y 32).cls (pm_y 32) (pm_y 32) ∈ iv_T ∧ pm_h 32 = [] ∧ (parseMethodDescriptor (pm_y 32).desc).map (fun d => d.parameters.length) = some 1 := by
  rw [tb_y32]
  exact ⟨tb_g (tb_2 (List.mem_of_getElem? (i := 195) rfl)) rfl, tb_g (tb_sel (tb_p1 (List.mem_of_getElem? (a := ((⟨"LentNames$Calendar", "lastOf", "(I)I"⟩ : MethodName), 14)) (i := 7) rfl))) rfl, rfl, by decide +kernel⟩
theorem tl_LentNames_Calendar_153_0 : iv_LV "LentNames$Calendar" 153 32 2 2 := ⟨by rw [tb_y32]; exact tb_g (tb_2 (List.mem_of_getElem? (i := 193) rfl)) rfl, tb_v32.1, tb_v32.2.1, tb_v32.2.2.1, by decide, by decide, by decide, ⟨_, _, by rw [tb_y32]; rfl⟩, tb_v32.2.2.2⟩
theorem tb_v23 : Cond.instanceMethod (pm_y 23) ∈ iv_T ∧ Cond.selects (pm_y 23).cls (pm_y 23) (pm_y 23) ∈ iv_T ∧ pm_h 23 = [] ∧ (parseMethodDescriptor (pm_y 23).desc).map (fun d => d.parameters.length) = some 1 := by
  rw [tb_y23]
  exact ⟨tb_g (tb_2 (List.mem_of_getElem? (i := 220) rfl)) rfl, tb_g (tb_sel (tb_p1 (List.mem_of_getElem? (a := ((⟨"LentNames$Calendar", "isLentOn", "(I)Z"⟩ : MethodName), 14)) (i := 13) rfl))) rfl, rfl, by decide +kernel⟩
theorem tl_LentNames_Calendar_156_0 : iv_LV "LentNames$Calendar" 156 23 2 2 := ⟨by rw [tb_y23]; exact tb_g (tb_2 (List.mem_of_getElem? (i := 218) rfl)) rfl, tb_v23.1, tb_v23.2.1, tb_v23.2.2.1, by decide, by decide, by decide, ⟨_, _, by rw [tb_y23]; rfl⟩, tb_v23.2.2.2⟩
theorem tb_v25 : Cond.instanceMethod (pm_y 25) ∈ iv_T ∧ Cond.selects (pm_y 25).cls (pm_y 25) (pm_y 25) ∈ iv_T ∧ pm_h 25 = [] ∧ (parseMethodDescriptor (pm_y 25).desc).map (fun d => d.parameters.length) = some 1 := by
  rw [tb_y25]
  exact ⟨tb_g (tb_2 (List.mem_of_getElem? (i := 228) rfl)) rfl, tb_g (tb_sel (tb_p1 (List.mem_of_getElem? (a := ((⟨"LentNames$Calendar", "borneNow", "(I)I"⟩ : MethodName), 14)) (i := 15) rfl))) rfl, rfl, by decide +kernel⟩
theorem tl_LentNames_Calendar_160_0 : iv_LV "LentNames$Calendar" 160 25 2 2 := ⟨by rw [tb_y25]; exact tb_g (tb_2 (List.mem_of_getElem? (i := 226) rfl)) rfl, tb_v25.1, tb_v25.2.1, tb_v25.2.2.1, by decide, by decide, by decide, ⟨_, _, by rw [tb_y25]; rfl⟩, tb_v25.2.2.2⟩
theorem tb_v38 : Cond.instanceMethod (pm_y 38) ∈ iv_T ∧ Cond.selects (pm_y 38).cls (pm_y 38) (pm_y 38) ∈ iv_T ∧ pm_h 38 = [] ∧ (parseMethodDescriptor (pm_y 38).desc).map (fun d => d.parameters.length) = some 1 := by
  rw [tb_y38]
  exact ⟨tb_g (tb_2 (List.mem_of_getElem? (i := 231) rfl)) rfl, tb_g (tb_2 (List.mem_of_getElem? (i := 232) rfl)) rfl, rfl, by decide +kernel⟩
theorem tl_LentNames_Calendar_167_0 : iv_LV "LentNames$Calendar" 167 38 2 3 := ⟨by rw [tb_y38]; exact tb_g (tb_2 (List.mem_of_getElem? (i := 230) rfl)) rfl, tb_v38.1, tb_v38.2.1, tb_v38.2.2.1, by decide, by decide, by decide, ⟨_, _, by rw [tb_y38]; rfl⟩, tb_v38.2.2.2⟩
theorem tb_v28 : Cond.instanceMethod (pm_y 28) ∈ iv_T ∧ Cond.selects (pm_y 28).cls (pm_y 28) (pm_y 28) ∈ iv_T ∧ pm_h 28 = [] ∧ (parseMethodDescriptor (pm_y 28).desc).map (fun d => d.parameters.length) = some 2 := by
  rw [tb_y28]
  exact ⟨tb_g (tb_3 (List.mem_of_getElem? (i := 18) rfl)) rfl, tb_g (tb_sel (tb_p2 (List.mem_of_getElem? (a := ((⟨"LentNames$Calendar", "stateNow", "(II)I"⟩ : MethodName), 14)) (i := 4) rfl))) rfl, rfl, by decide +kernel⟩
theorem tl_LentNames_Calendar_173_0 : iv_LV "LentNames$Calendar" 173 28 3 2 := ⟨by rw [tb_y28]; exact tb_g (tb_3 (List.mem_of_getElem? (i := 16) rfl)) rfl, tb_v28.1, tb_v28.2.1, tb_v28.2.2.1, by decide, by decide, by decide, ⟨_, _, by rw [tb_y28]; rfl⟩, tb_v28.2.2.2⟩
theorem tb_v27 : Cond.instanceMethod (pm_y 27) ∈ iv_T ∧ Cond.selects (pm_y 27).cls (pm_y 27) (pm_y 27) ∈ iv_T ∧ pm_h 27 = [] ∧ (parseMethodDescriptor (pm_y 27).desc).map (fun d => d.parameters.length) = some 2 := by
  rw [tb_y27]
  exact ⟨tb_g (tb_3 (List.mem_of_getElem? (i := 25) rfl)) rfl, tb_g (tb_sel (tb_p2 (List.mem_of_getElem? (a := ((⟨"LentNames$Calendar", "noteRow", "(II)V"⟩ : MethodName), 14)) (i := 5) rfl))) rfl, rfl, by decide +kernel⟩
theorem tl_LentNames_Calendar_176_0 : iv_LV "LentNames$Calendar" 176 27 3 2 := ⟨by rw [tb_y27]; exact tb_g (tb_3 (List.mem_of_getElem? (i := 23) rfl)) rfl, tb_v27.1, tb_v27.2.1, tb_v27.2.2.1, by decide, by decide, by decide, ⟨_, _, by rw [tb_y27]; rfl⟩, tb_v27.2.2.2⟩
theorem tb_v30 : Cond.instanceMethod (pm_y 30) ∈ iv_T ∧ Cond.selects (pm_y 30).cls (pm_y 30) (pm_y 30) ∈ iv_T ∧ pm_h 30 = [] ∧ (parseMethodDescriptor (pm_y 30).desc).map (fun d => d.parameters.length) = some 2 := by
  rw [tb_y30]
  exact ⟨tb_g (tb_2 (List.mem_of_getElem? (i := 204) rfl)) rfl, tb_g (tb_sel (tb_p1 (List.mem_of_getElem? (a := ((⟨"LentNames$Calendar", "isOverdue", "(II)Z"⟩ : MethodName), 14)) (i := 9) rfl))) rfl, rfl, by decide +kernel⟩
theorem tl_LentNames_Calendar_180_0 : iv_LV "LentNames$Calendar" 180 30 3 2 := ⟨by rw [tb_y30]; exact tb_g (tb_2 (List.mem_of_getElem? (i := 202) rfl)) rfl, tb_v30.1, tb_v30.2.1, tb_v30.2.2.1, by decide, by decide, by decide, ⟨_, _, by rw [tb_y30]; rfl⟩, tb_v30.2.2.2⟩
theorem tb_v42 : Cond.instanceMethod (pm_y 42) ∈ iv_T ∧ Cond.selects (pm_y 42).cls (pm_y 42) (pm_y 42) ∈ iv_T ∧ pm_h 42 = [] ∧ (parseMethodDescriptor (pm_y 42).desc).map (fun d => d.parameters.length) = some 0 := by
  rw [tb_y42]
  exact ⟨tb_g (tb_2 (List.mem_of_getElem? (i := 236) rfl)) rfl, tb_g (tb_sel (tb_p2 (List.mem_of_getElem? (a := ((⟨"LentNames$Custom", "pop", "()I"⟩ : MethodName), 5)) (i := 0) rfl))) rfl, rfl, by decide +kernel⟩
theorem tl_LentNames_Custom_34_0 : iv_LV "LentNames$Custom" 34 42 1 3 := ⟨by rw [tb_y42]; exact tb_g (tb_2 (List.mem_of_getElem? (i := 234) rfl)) rfl, tb_v42.1, tb_v42.2.1, tb_v42.2.2.1, by decide, by decide, by decide, ⟨_, _, by rw [tb_y42]; rfl⟩, tb_v42.2.2.2⟩
theorem tb_v39 : Cond.instanceMethod (pm_y 39) ∈ iv_T ∧ Cond.selects (pm_y 39).cls (pm_y 39) (pm_y 39) ∈ iv_T ∧ pm_h 39 = [] ∧ (parseMethodDescriptor (pm_y 39).desc).map (fun d => d.parameters.length) = some 2 := by
  rw [tb_y39]
  exact ⟨tb_g (tb_3 (List.mem_of_getElem? (i := 0) rfl)) rfl, tb_g (tb_sel (tb_p2 (List.mem_of_getElem? (a := ((⟨"LentNames$Custom", "work", "(I[I)V"⟩ : MethodName), 5)) (i := 1) rfl))) rfl, rfl, by decide +kernel⟩
theorem tl_LentNames_Custom_38_0 : iv_LV "LentNames$Custom" 38 39 3 3 := ⟨by rw [tb_y39]; exact tb_g (tb_2 (List.mem_of_getElem? (i := 238) rfl)) rfl, tb_v39.1, tb_v39.2.1, tb_v39.2.2.1, by decide, by decide, by decide, ⟨_, _, by rw [tb_y39]; rfl⟩, tb_v39.2.2.2⟩
theorem tb_v41 : Cond.instanceMethod (pm_y 41) ∈ iv_T ∧ Cond.selects (pm_y 41).cls (pm_y 41) (pm_y 41) ∈ iv_T ∧ pm_h 41 = [] ∧ (parseMethodDescriptor (pm_y 41).desc).map (fun d => d.parameters.length) = some 1 := by
  rw [tb_y41]
  exact ⟨tb_g (tb_3 (List.mem_of_getElem? (i := 4) rfl)) rfl, tb_g (tb_sel (tb_p2 (List.mem_of_getElem? (a := ((⟨"LentNames$Custom", "push", "(I)V"⟩ : MethodName), 5)) (i := 2) rfl))) rfl, rfl, by decide +kernel⟩
theorem tl_LentNames_Custom_42_0 : iv_LV "LentNames$Custom" 42 41 2 3 := ⟨by rw [tb_y41]; exact tb_g (tb_3 (List.mem_of_getElem? (i := 2) rfl)) rfl, tb_v41.1, tb_v41.2.1, tb_v41.2.2.1, by decide, by decide, by decide, ⟨_, _, by rw [tb_y41]; rfl⟩, tb_v41.2.2.2⟩
theorem tl_LentNames_Custom_46_2 : iv_LS "LentNames$Custom" 46 40 3 := by
  unfold iv_LS
  rw [tb_y40]
  exact ⟨tb_g (tb_3 (List.mem_of_getElem? (i := 6) rfl)) rfl, tb_g (tb_3 (List.mem_of_getElem? (i := 7) rfl)) rfl, by decide +kernel⟩
theorem tb_v35 : Cond.instanceMethod (pm_y 35) ∈ iv_T ∧ Cond.selects (pm_y 35).cls (pm_y 35) (pm_y 35) ∈ iv_T ∧ pm_h 35 = [] ∧ (parseMethodDescriptor (pm_y 35).desc).map (fun d => d.parameters.length) = some 0 := by
  rw [tb_y35]
  exact ⟨tb_g (tb_5 (List.mem_of_getElem? (i := 185) rfl)) rfl, tb_g (tb_5 (List.mem_of_getElem? (i := 186) rfl)) rfl, rfl, by decide +kernel⟩
theorem tl_LentNames_CustomReader_19_0 : iv_LV "LentNames$CustomReader" 19 35 1 3 := ⟨by rw [tb_y35]; exact tb_g (tb_5 (List.mem_of_getElem? (i := 184) rfl)) rfl, tb_v35.1, tb_v35.2.1, tb_v35.2.2.1, by decide, by decide, by decide, ⟨_, _, by rw [tb_y35]; rfl⟩, tb_v35.2.2.2⟩
theorem tb_v73 : Cond.instanceMethod (pm_y 73) ∈ iv_T ∧ Cond.selects (pm_y 73).cls (pm_y 73) (pm_y 73) ∈ iv_T ∧ pm_h 73 = [] ∧ (parseMethodDescriptor (pm_y 73).desc).map (fun d => d.parameters.length) = some 0 := by
  rw [tb_y73]
  exact ⟨tb_g (tb_3 (List.mem_of_getElem? (i := 205) rfl)) rfl, tb_g (tb_3 (List.mem_of_getElem? (i := 206) rfl)) rfl, rfl, by decide +kernel⟩
theorem tl_LentNames_CustomReader_24_0 : iv_LV "LentNames$CustomReader" 24 73 1 8 := ⟨by rw [tb_y73]; exact tb_g (tb_5 (List.mem_of_getElem? (i := 188) rfl)) rfl, tb_v73.1, tb_v73.2.1, tb_v73.2.2.1, by decide, by decide, by decide, ⟨_, _, by rw [tb_y73]; rfl⟩, tb_v73.2.2.2⟩
theorem tb_v74 : Cond.instanceMethod (pm_y 74) ∈ iv_T ∧ Cond.selects (pm_y 74).cls (pm_y 74) (pm_y 74) ∈ iv_T ∧ pm_h 74 = [] ∧ (parseMethodDescriptor (pm_y 74).desc).map (fun d => d.parameters.length) = some 0 := by
  rw [tb_y74]
  exact ⟨tb_g (tb_3 (List.mem_of_getElem? (i := 213) rfl)) rfl, tb_g (tb_3 (List.mem_of_getElem? (i := 214) rfl)) rfl, rfl, by decide +kernel⟩
theorem tl_LentNames_CustomReader_29_0 : iv_LV "LentNames$CustomReader" 29 74 1 8 := ⟨by rw [tb_y74]; exact tb_g (tb_5 (List.mem_of_getElem? (i := 189) rfl)) rfl, tb_v74.1, tb_v74.2.1, tb_v74.2.2.1, by decide, by decide, by decide, ⟨_, _, by rw [tb_y74]; rfl⟩, tb_v74.2.2.2⟩
theorem tb_v45 : Cond.instanceMethod (pm_y 45) ∈ iv_T ∧ Cond.selects (pm_y 45).cls (pm_y 45) (pm_y 45) ∈ iv_T ∧ pm_h 45 = [] ∧ (parseMethodDescriptor (pm_y 45).desc).map (fun d => d.parameters.length) = some 0 := by
  rw [tb_y45]
  exact ⟨tb_g (tb_5 (List.mem_of_getElem? (i := 192) rfl)) rfl, tb_g (tb_sel (tb_p3 (List.mem_of_getElem? (a := ((⟨"LentNames$CustomReader", "readLine", "()Z"⟩ : MethodName), 2)) (i := 9) rfl))) rfl, rfl, by decide +kernel⟩
theorem tl_LentNames_CustomReader_33_0 : iv_LV "LentNames$CustomReader" 33 45 1 4 := ⟨by rw [tb_y45]; exact tb_g (tb_5 (List.mem_of_getElem? (i := 190) rfl)) rfl, tb_v45.1, tb_v45.2.1, tb_v45.2.2.1, by decide, by decide, by decide, ⟨_, _, by rw [tb_y45]; rfl⟩, tb_v45.2.2.2⟩
theorem tb_v76 : Cond.instanceMethod (pm_y 76) ∈ iv_T ∧ Cond.selects (pm_y 76).cls (pm_y 76) (pm_y 76) ∈ iv_T ∧ pm_h 76 = [] ∧ (parseMethodDescriptor (pm_y 76).desc).map (fun d => d.parameters.length) = some 1 := by
  rw [tb_y76]
  exact ⟨tb_g (tb_4 (List.mem_of_getElem? (i := 122) rfl)) rfl, tb_g (tb_4 (List.mem_of_getElem? (i := 123) rfl)) rfl, rfl, by decide +kernel⟩
theorem tl_LentNames_CustomReader_40_0 : iv_LV "LentNames$CustomReader" 40 76 2 8 := ⟨by rw [tb_y76]; exact tb_g (tb_5 (List.mem_of_getElem? (i := 217) rfl)) rfl, tb_v76.1, tb_v76.2.1, tb_v76.2.2.1, by decide, by decide, by decide, ⟨_, _, by rw [tb_y76]; rfl⟩, tb_v76.2.2.2⟩
theorem tb_v78 : Cond.instanceMethod (pm_y 78) ∈ iv_T ∧ Cond.selects (pm_y 78).cls (pm_y 78) (pm_y 78) ∈ iv_T ∧ pm_h 78 = [] ∧ (parseMethodDescriptor (pm_y 78).desc).map (fun d => d.parameters.length) = some 1 := by
  rw [tb_y78]
  exact ⟨tb_g (tb_4 (List.mem_of_getElem? (i := 38) rfl)) rfl, tb_g (tb_4 (List.mem_of_getElem? (i := 39) rfl)) rfl, rfl, by decide +kernel⟩
theorem tl_LentNames_CustomReader_46_0 : iv_LV "LentNames$CustomReader" 46 78 2 8 := ⟨by rw [tb_y78]; exact tb_g (tb_5 (List.mem_of_getElem? (i := 195) rfl)) rfl, tb_v78.1, tb_v78.2.1, tb_v78.2.2.1, by decide, by decide, by decide, ⟨_, _, by rw [tb_y78]; rfl⟩, tb_v78.2.2.2⟩
theorem tb_v36 : Cond.instanceMethod (pm_y 36) ∈ iv_T ∧ Cond.selects (pm_y 36).cls (pm_y 36) (pm_y 36) ∈ iv_T ∧ pm_h 36 = [] ∧ (parseMethodDescriptor (pm_y 36).desc).map (fun d => d.parameters.length) = some 1 := by
  rw [tb_y36]
  exact ⟨tb_g (tb_5 (List.mem_of_getElem? (i := 199) rfl)) rfl, tb_g (tb_5 (List.mem_of_getElem? (i := 200) rfl)) rfl, rfl, by decide +kernel⟩
theorem tl_LentNames_CustomReader_54_0 : iv_LV "LentNames$CustomReader" 54 36 2 3 := ⟨by rw [tb_y36]; exact tb_g (tb_5 (List.mem_of_getElem? (i := 198) rfl)) rfl, tb_v36.1, tb_v36.2.1, tb_v36.2.2.1, by decide, by decide, by decide, ⟨_, _, by rw [tb_y36]; rfl⟩, tb_v36.2.2.2⟩
theorem tb_v46 : Cond.instanceMethod (pm_y 46) ∈ iv_T ∧ Cond.selects (pm_y 46).cls (pm_y 46) (pm_y 46) ∈ iv_T ∧ pm_h 46 = [] ∧ (parseMethodDescriptor (pm_y 46).desc).map (fun d => d.parameters.length) = some 1 := by
  rw [tb_y46]
  exact ⟨tb_g (tb_5 (List.mem_of_getElem? (i := 204) rfl)) rfl, tb_g (tb_sel (tb_p3 (List.mem_of_getElem? (a := ((⟨"LentNames$CustomReader", "readCondition", "(I)Z"⟩ : MethodName), 2)) (i := 10) rfl))) rfl, rfl, by decide +kernel⟩
theorem tl_LentNames_CustomReader_58_0 : iv_LV "LentNames$CustomReader" 58 46 2 4 := ⟨by rw [tb_y46]; exact tb_g (tb_5 (List.mem_of_getElem? (i := 202) rfl)) rfl, tb_v46.1, tb_v46.2.1, tb_v46.2.2.1, by decide, by decide, by decide, ⟨_, _, by rw [tb_y46]; rfl⟩, tb_v46.2.2.2⟩
theorem tb_v47 : Cond.instanceMethod (pm_y 47) ∈ iv_T ∧ Cond.selects (pm_y 47).cls (pm_y 47) (pm_y 47) ∈ iv_T ∧ pm_h 47 = [] ∧ (parseMethodDescriptor (pm_y 47).desc).map (fun d => d.parameters.length) = some 1 := by
  rw [tb_y47]
  exact ⟨tb_g (tb_5 (List.mem_of_getElem? (i := 208) rfl)) rfl, tb_g (tb_sel (tb_p3 (List.mem_of_getElem? (a := ((⟨"LentNames$CustomReader", "readAll", "(I)Z"⟩ : MethodName), 2)) (i := 11) rfl))) rfl, rfl, by decide +kernel⟩
theorem tl_LentNames_CustomReader_61_0 : iv_LV "LentNames$CustomReader" 61 47 2 4 := ⟨by rw [tb_y47]; exact tb_g (tb_5 (List.mem_of_getElem? (i := 206) rfl)) rfl, tb_v47.1, tb_v47.2.1, tb_v47.2.2.1, by decide, by decide, by decide, ⟨_, _, by rw [tb_y47]; rfl⟩, tb_v47.2.2.2⟩
theorem tb_v48 : Cond.instanceMethod (pm_y 48) ∈ iv_T ∧ Cond.selects (pm_y 48).cls (pm_y 48) (pm_y 48) ∈ iv_T ∧ pm_h 48 = [] ∧ (parseMethodDescriptor (pm_y 48).desc).map (fun d => d.parameters.length) = some 1 := by
  rw [tb_y48]
  exact ⟨tb_g (tb_5 (List.mem_of_getElem? (i := 212) rfl)) rfl, tb_g (tb_sel (tb_p3 (List.mem_of_getElem? (a := ((⟨"LentNames$CustomReader", "readAtom", "(I)Z"⟩ : MethodName), 2)) (i := 12) rfl))) rfl, rfl, by decide +kernel⟩
theorem tl_LentNames_CustomReader_66_0 : iv_LV "LentNames$CustomReader" 66 48 2 4 := ⟨by rw [tb_y48]; exact tb_g (tb_5 (List.mem_of_getElem? (i := 210) rfl)) rfl, tb_v48.1, tb_v48.2.1, tb_v48.2.2.1, by decide, by decide, by decide, ⟨_, _, by rw [tb_y48]; rfl⟩, tb_v48.2.2.2⟩
theorem tb_v77 : Cond.instanceMethod (pm_y 77) ∈ iv_T ∧ Cond.selects (pm_y 77).cls (pm_y 77) (pm_y 77) ∈ iv_T ∧ pm_h 77 = [] ∧ (parseMethodDescriptor (pm_y 77).desc).map (fun d => d.parameters.length) = some 1 := by
  rw [tb_y77]
  exact ⟨tb_g (tb_3 (List.mem_of_getElem? (i := 222) rfl)) rfl, tb_g (tb_3 (List.mem_of_getElem? (i := 223) rfl)) rfl, rfl, by decide +kernel⟩
theorem tl_LentNames_CustomReader_73_0 : iv_LV "LentNames$CustomReader" 73 77 2 8 := ⟨by rw [tb_y77]; exact tb_g (tb_5 (List.mem_of_getElem? (i := 215) rfl)) rfl, tb_v77.1, tb_v77.2.1, tb_v77.2.2.1, by decide, by decide, by decide, ⟨_, _, by rw [tb_y77]; rfl⟩, tb_v77.2.2.2⟩
theorem tb_v75 : Cond.instanceMethod (pm_y 75) ∈ iv_T ∧ Cond.selects (pm_y 75).cls (pm_y 75) (pm_y 75) ∈ iv_T ∧ pm_h 75 = [] ∧ (parseMethodDescriptor (pm_y 75).desc).map (fun d => d.parameters.length) = some 1 := by
  rw [tb_y75]
  exact ⟨tb_g (tb_4 (List.mem_of_getElem? (i := 126) rfl)) rfl, tb_g (tb_4 (List.mem_of_getElem? (i := 127) rfl)) rfl, rfl, by decide +kernel⟩
theorem tl_LentNames_CustomReader_76_0 : iv_LV "LentNames$CustomReader" 76 75 2 8 := ⟨by rw [tb_y75]; exact tb_g (tb_5 (List.mem_of_getElem? (i := 216) rfl)) rfl, tb_v75.1, tb_v75.2.1, tb_v75.2.2.1, by decide, by decide, by decide, ⟨_, _, by rw [tb_y75]; rfl⟩, tb_v75.2.2.2⟩
theorem tb_v49 : Cond.instanceMethod (pm_y 49) ∈ iv_T ∧ Cond.selects (pm_y 49).cls (pm_y 49) (pm_y 49) ∈ iv_T ∧ pm_h 49 = [] ∧ (parseMethodDescriptor (pm_y 49).desc).map (fun d => d.parameters.length) = some 0 := by
  rw [tb_y49]
  exact ⟨tb_g (tb_5 (List.mem_of_getElem? (i := 222) rfl)) rfl, tb_g (tb_sel (tb_p3 (List.mem_of_getElem? (a := ((⟨"LentNames$CustomReader", "readSum", "()Z"⟩ : MethodName), 2)) (i := 13) rfl))) rfl, rfl, by decide +kernel⟩
theorem tl_LentNames_CustomReader_83_0 : iv_LV "LentNames$CustomReader" 83 49 1 4 := ⟨by rw [tb_y49]; exact tb_g (tb_5 (List.mem_of_getElem? (i := 220) rfl)) rfl, tb_v49.1, tb_v49.2.1, tb_v49.2.2.1, by decide, by decide, by decide, ⟨_, _, by rw [tb_y49]; rfl⟩, tb_v49.2.2.2⟩
theorem tb_v50 : Cond.instanceMethod (pm_y 50) ∈ iv_T ∧ Cond.selects (pm_y 50).cls (pm_y 50) (pm_y 50) ∈ iv_T ∧ pm_h 50 = [] ∧ (parseMethodDescriptor (pm_y 50).desc).map (fun d => d.parameters.length) = some 0 := by
  rw [tb_y50]
  exact ⟨tb_g (tb_5 (List.mem_of_getElem? (i := 226) rfl)) rfl, tb_g (tb_sel (tb_p3 (List.mem_of_getElem? (a := ((⟨"LentNames$CustomReader", "readPart", "()Z"⟩ : MethodName), 2)) (i := 14) rfl))) rfl, rfl, by decide +kernel⟩
theorem tl_LentNames_CustomReader_86_0 : iv_LV "LentNames$CustomReader" 86 50 1 4 := ⟨by rw [tb_y50]; exact tb_g (tb_5 (List.mem_of_getElem? (i := 224) rfl)) rfl, tb_v50.1, tb_v50.2.1, tb_v50.2.2.1, by decide, by decide, by decide, ⟨_, _, by rw [tb_y50]; rfl⟩, tb_v50.2.2.2⟩
theorem tb_v79 : Cond.instanceMethod (pm_y 79) ∈ iv_T ∧ Cond.selects (pm_y 79).cls (pm_y 79) (pm_y 79) ∈ iv_T ∧ pm_h 79 = [] ∧ (parseMethodDescriptor (pm_y 79).desc).map (fun d => d.parameters.length) = some 2 := by
  rw [tb_y79]
  exact ⟨tb_g (tb_4 (List.mem_of_getElem? (i := 60) rfl)) rfl, tb_g (tb_4 (List.mem_of_getElem? (i := 61) rfl)) rfl, rfl, by decide +kernel⟩
theorem tl_LentNames_CustomReader_89_0 : iv_LV "LentNames$CustomReader" 89 79 3 8 := ⟨by rw [tb_y79]; exact tb_g (tb_5 (List.mem_of_getElem? (i := 228) rfl)) rfl, tb_v79.1, tb_v79.2.1, tb_v79.2.2.1, by decide, by decide, by decide, ⟨_, _, by rw [tb_y79]; rfl⟩, tb_v79.2.2.2⟩
theorem tl_LentNames_CustomReader_93_2 : iv_LS "LentNames$CustomReader" 93 51 1 := by
  unfold iv_LS
  rw [tb_y51]
  exact ⟨tb_g (tb_5 (List.mem_of_getElem? (i := 229) rfl)) rfl, tb_g (tb_5 (List.mem_of_getElem? (i := 230) rfl)) rfl, by decide +kernel⟩
theorem tb_v57 : Cond.instanceMethod (pm_y 57) ∈ iv_T ∧ Cond.selects (pm_y 57).cls (pm_y 57) (pm_y 57) ∈ iv_T ∧ pm_h 57 = [] ∧ (parseMethodDescriptor (pm_y 57).desc).map (fun d => d.parameters.length) = some 0 := by
  rw [tb_y57]
  exact ⟨tb_g (tb_6 (List.mem_of_getElem? (i := 91) rfl)) rfl, tb_g (tb_sel (tb_p3 (List.mem_of_getElem? (a := ((⟨"LentNames$PlanSearch", "lacksWish", "()Z"⟩ : MethodName), 18)) (i := 15) rfl))) rfl, rfl, by decide +kernel⟩
theorem tl_LentNames_PlanSearch_15_0 : iv_LV "LentNames$PlanSearch" 15 57 1 5 := ⟨by rw [tb_y57]; exact tb_g (tb_6 (List.mem_of_getElem? (i := 89) rfl)) rfl, tb_v57.1, tb_v57.2.1, tb_v57.2.2.1, by decide, by decide, by decide, ⟨_, _, by rw [tb_y57]; rfl⟩, tb_v57.2.2.2⟩
theorem tb_v58 : Cond.instanceMethod (pm_y 58) ∈ iv_T ∧ Cond.selects (pm_y 58).cls (pm_y 58) (pm_y 58) ∈ iv_T ∧ pm_h 58 = [] ∧ (parseMethodDescriptor (pm_y 58).desc).map (fun d => d.parameters.length) = some 0 := by
  rw [tb_y58]
  exact ⟨tb_g (tb_6 (List.mem_of_getElem? (i := 104) rfl)) rfl, tb_g (tb_sel (tb_p4 (List.mem_of_getElem? (a := ((⟨"LentNames$PlanSearch", "lacksName", "()Z"⟩ : MethodName), 18)) (i := 0) rfl))) rfl, rfl, by decide +kernel⟩
theorem tl_LentNames_PlanSearch_19_0 : iv_LV "LentNames$PlanSearch" 19 58 1 5 := ⟨by rw [tb_y58]; exact tb_g (tb_6 (List.mem_of_getElem? (i := 102) rfl)) rfl, tb_v58.1, tb_v58.2.1, tb_v58.2.2.1, by decide, by decide, by decide, ⟨_, _, by rw [tb_y58]; rfl⟩, tb_v58.2.2.2⟩
theorem tl_LentNames_PlanSearch_38_0 : iv_LV "LentNames$PlanSearch" 38 68 3 7 := ⟨by rw [tb_y68]; exact tb_g (tb_6 (List.mem_of_getElem? (i := 93) rfl)) rfl, tb_v68.1, tb_v68.2.1, tb_v68.2.2.1, by decide, by decide, by decide, ⟨_, _, by rw [tb_y68]; rfl⟩, tb_v68.2.2.2⟩
theorem tl_LentNames_SecretSearch_19_0 : iv_LV "LentNames$SecretSearch" 19 87 2 9 := ⟨by rw [tb_y87]; exact tb_g (tb_6 (List.mem_of_getElem? (i := 64) rfl)) rfl, tb_v87.1, tb_v87.2.1, tb_v87.2.2.1, by decide, by decide, by decide, ⟨_, _, by rw [tb_y87]; rfl⟩, tb_v87.2.2.2⟩
theorem tl_LentNames_SecretSearch_45_0 : iv_LV "LentNames$SecretSearch" 45 68 3 7 := ⟨by rw [tb_y68]; exact tb_g (tb_6 (List.mem_of_getElem? (i := 69) rfl)) rfl, tb_v68.1, tb_v68.2.1, tb_v68.2.2.1, by decide, by decide, by decide, ⟨_, _, by rw [tb_y68]; rfl⟩, tb_v68.2.2.2⟩
theorem tb_v64 : Cond.instanceMethod (pm_y 64) ∈ iv_T ∧ Cond.selects (pm_y 64).cls (pm_y 64) (pm_y 64) ∈ iv_T ∧ pm_h 64 = [] ∧ (parseMethodDescriptor (pm_y 64).desc).map (fun d => d.parameters.length) = some 1 := by
  rw [tb_y64]
  exact ⟨tb_g (tb_6 (List.mem_of_getElem? (i := 113) rfl)) rfl, tb_g (tb_sel (tb_p4 (List.mem_of_getElem? (a := ((⟨"LentNames$SecretSearch", "isMet", "(I)Z"⟩ : MethodName), 19)) (i := 1) rfl))) rfl, rfl, by decide +kernel⟩
theorem tl_LentNames_SecretSearch_49_0 : iv_LV "LentNames$SecretSearch" 49 64 2 6 := ⟨by rw [tb_y64]; exact tb_g (tb_6 (List.mem_of_getElem? (i := 111) rfl)) rfl, tb_v64.1, tb_v64.2.1, tb_v64.2.2.1, by decide, by decide, by decide, ⟨_, _, by rw [tb_y64]; rfl⟩, tb_v64.2.2.2⟩
theorem tb_v66 : Cond.instanceMethod (pm_y 66) ∈ iv_T ∧ Cond.selects (pm_y 66).cls (pm_y 66) (pm_y 66) ∈ iv_T ∧ pm_h 66 = [] ∧ (parseMethodDescriptor (pm_y 66).desc).map (fun d => d.parameters.length) = some 0 := by
  rw [tb_y66]
  exact ⟨tb_g (tb_4 (List.mem_of_getElem? (i := 34) rfl)) rfl, tb_g (tb_4 (List.mem_of_getElem? (i := 35) rfl)) rfl, rfl, by decide +kernel⟩
theorem tl_LentNames_Table_22_0 : iv_LV "LentNames$Table" 22 66 1 7 := ⟨by rw [tb_y66]; exact tb_g (tb_4 (List.mem_of_getElem? (i := 50) rfl)) rfl, tb_v66.1, tb_v66.2.1, tb_v66.2.2.1, by decide, by decide, by decide, ⟨_, _, by rw [tb_y66]; rfl⟩, tb_v66.2.2.2⟩
theorem tl_LentNames_Table_26_0 : iv_LV "LentNames$Table" 26 69 4 7 := ⟨by rw [tb_y69]; exact tb_g (tb_4 (List.mem_of_getElem? (i := 51) rfl)) rfl, tb_v69.1, tb_v69.2.1, tb_v69.2.2.1, by decide, by decide, by decide, ⟨_, _, by rw [tb_y69]; rfl⟩, tb_v69.2.2.2⟩
theorem tb_v80 : Cond.instanceMethod (pm_y 80) ∈ iv_T ∧ Cond.selects (pm_y 80).cls (pm_y 80) (pm_y 80) ∈ iv_T ∧ pm_h 80 = [] ∧ (parseMethodDescriptor (pm_y 80).desc).map (fun d => d.parameters.length) = some 1 := by
  rw [tb_y80]
  exact ⟨tb_g (tb_3 (List.mem_of_getElem? (i := 210) rfl)) rfl, tb_g (tb_sel (tb_p2 (List.mem_of_getElem? (a := ((⟨"LentNames$Tape", "moveTo", "(I)V"⟩ : MethodName), 3)) (i := 8) rfl))) rfl, rfl, by decide +kernel⟩
theorem tl_LentNames_Tape_19_0 : iv_LV "LentNames$Tape" 19 80 2 8 := ⟨by rw [tb_y80]; exact tb_g (tb_3 (List.mem_of_getElem? (i := 208) rfl)) rfl, tb_v80.1, tb_v80.2.1, tb_v80.2.2.1, by decide, by decide, by decide, ⟨_, _, by rw [tb_y80]; rfl⟩, tb_v80.2.2.2⟩
theorem tb_v81 : Cond.instanceMethod (pm_y 81) ∈ iv_T ∧ Cond.selects (pm_y 81).cls (pm_y 81) (pm_y 81) ∈ iv_T ∧ pm_h 81 = [] ∧ (parseMethodDescriptor (pm_y 81).desc).map (fun d => d.parameters.length) = some 1 := by
  rw [tb_y81]
  exact ⟨tb_g (tb_4 (List.mem_of_getElem? (i := 65) rfl)) rfl, tb_g (tb_sel (tb_p2 (List.mem_of_getElem? (a := ((⟨"LentNames$Tape", "byteAt", "(I)I"⟩ : MethodName), 3)) (i := 12) rfl))) rfl, rfl, by decide +kernel⟩
theorem tl_LentNames_Tape_26_0 : iv_LV "LentNames$Tape" 26 81 2 8 := ⟨by rw [tb_y81]; exact tb_g (tb_4 (List.mem_of_getElem? (i := 63) rfl)) rfl, tb_v81.1, tb_v81.2.1, tb_v81.2.2.1, by decide, by decide, by decide, ⟨_, _, by rw [tb_y81]; rfl⟩, tb_v81.2.2.2⟩
theorem tl_LentNames_Tape_30_0 : iv_LV "LentNames$Tape" 30 75 2 8 := ⟨by rw [tb_y75]; exact tb_g (tb_4 (List.mem_of_getElem? (i := 125) rfl)) rfl, tb_v75.1, tb_v75.2.1, tb_v75.2.2.1, by decide, by decide, by decide, ⟨_, _, by rw [tb_y75]; rfl⟩, tb_v75.2.2.2⟩
theorem tl_LentNames_Tape_44_0 : iv_LV "LentNames$Tape" 44 77 2 8 := ⟨by rw [tb_y77]; exact tb_g (tb_4 (List.mem_of_getElem? (i := 41) rfl)) rfl, tb_v77.1, tb_v77.2.1, tb_v77.2.2.1, by decide, by decide, by decide, ⟨_, _, by rw [tb_y77]; rfl⟩, tb_v77.2.2.2⟩
theorem tl_LentNames_Tape_48_2 : iv_LS "LentNames$Tape" 48 82 1 := by
  unfold iv_LS
  rw [tb_y82]
  exact ⟨tb_g (tb_4 (List.mem_of_getElem? (i := 67) rfl)) rfl, tb_g (tb_4 (List.mem_of_getElem? (i := 68) rfl)) rfl, by decide +kernel⟩
theorem tb_v70 : Cond.instanceMethod (pm_y 70) ∈ iv_T ∧ Cond.selects (pm_y 70).cls (pm_y 70) (pm_y 70) ∈ iv_T ∧ pm_h 70 = [] ∧ (parseMethodDescriptor (pm_y 70).desc).map (fun d => d.parameters.length) = some 1 := by
  rw [tb_y70]
  exact ⟨tb_g (tb_3 (List.mem_of_getElem? (i := 148) rfl)) rfl, tb_g (tb_3 (List.mem_of_getElem? (i := 149) rfl)) rfl, rfl, by decide +kernel⟩
theorem tl_LentNames_Town_47_0 : iv_LV "LentNames$Town" 47 70 2 7 := ⟨by rw [tb_y70]; exact tb_g (tb_3 (List.mem_of_getElem? (i := 147) rfl)) rfl, tb_v70.1, tb_v70.2.1, tb_v70.2.2.1, by decide, by decide, by decide, ⟨_, _, by rw [tb_y70]; rfl⟩, tb_v70.2.2.2⟩
theorem tb_v37 : Cond.instanceMethod (pm_y 37) ∈ iv_T ∧ Cond.selects (pm_y 37).cls (pm_y 37) (pm_y 37) ∈ iv_T ∧ pm_h 37 = [] ∧ (parseMethodDescriptor (pm_y 37).desc).map (fun d => d.parameters.length) = some 1 := by
  rw [tb_y37]
  exact ⟨tb_g (tb_3 (List.mem_of_getElem? (i := 157) rfl)) rfl, tb_g (tb_3 (List.mem_of_getElem? (i := 158) rfl)) rfl, rfl, by decide +kernel⟩
theorem tl_LentNames_Town_57_0 : iv_LV "LentNames$Town" 57 37 2 3 := ⟨by rw [tb_y37]; exact tb_g (tb_3 (List.mem_of_getElem? (i := 156) rfl)) rfl, tb_v37.1, tb_v37.2.1, tb_v37.2.2.1, by decide, by decide, by decide, ⟨_, _, by rw [tb_y37]; rfl⟩, tb_v37.2.2.2⟩
theorem tl_LentNames_Town_67_0 : iv_LV "LentNames$Town" 67 68 3 7 := ⟨by rw [tb_y68]; exact tb_g (tb_2 (List.mem_of_getElem? (i := 161) rfl)) rfl, tb_v68.1, tb_v68.2.1, tb_v68.2.2.1, by decide, by decide, by decide, ⟨_, _, by rw [tb_y68]; rfl⟩, tb_v68.2.2.2⟩
theorem tl_LentNames_Town_71_0 : iv_LV "LentNames$Town" 71 85 2 9 := ⟨by rw [tb_y85]; exact tb_g (tb_2 (List.mem_of_getElem? (i := 169) rfl)) rfl, tb_v85.1, tb_v85.2.1, tb_v85.2.2.1, by decide, by decide, by decide, ⟨_, _, by rw [tb_y85]; rfl⟩, tb_v85.2.2.2⟩
theorem tl_LentNames_TownReader_19_0 : iv_LV "LentNames$TownReader" 19 73 1 8 := ⟨by rw [tb_y73]; exact tb_g (tb_3 (List.mem_of_getElem? (i := 204) rfl)) rfl, tb_v73.1, tb_v73.2.1, tb_v73.2.2.1, by decide, by decide, by decide, ⟨_, _, by rw [tb_y73]; rfl⟩, tb_v73.2.2.2⟩
theorem tl_LentNames_TownReader_24_0 : iv_LV "LentNames$TownReader" 24 74 1 8 := ⟨by rw [tb_y74]; exact tb_g (tb_3 (List.mem_of_getElem? (i := 212) rfl)) rfl, tb_v74.1, tb_v74.2.1, tb_v74.2.2.1, by decide, by decide, by decide, ⟨_, _, by rw [tb_y74]; rfl⟩, tb_v74.2.2.2⟩
theorem tb_v93 : Cond.instanceMethod (pm_y 93) ∈ iv_T ∧ Cond.selects (pm_y 93).cls (pm_y 93) (pm_y 93) ∈ iv_T ∧ pm_h 93 = [] ∧ (parseMethodDescriptor (pm_y 93).desc).map (fun d => d.parameters.length) = some 0 := by
  rw [tb_y93]
  exact ⟨tb_g (tb_3 (List.mem_of_getElem? (i := 218) rfl)) rfl, tb_g (tb_sel (tb_p2 (List.mem_of_getElem? (a := ((⟨"LentNames$TownReader", "readLine", "()Z"⟩ : MethodName), 2)) (i := 9) rfl))) rfl, rfl, by decide +kernel⟩
theorem tl_LentNames_TownReader_28_0 : iv_LV "LentNames$TownReader" 28 93 1 10 := ⟨by rw [tb_y93]; exact tb_g (tb_3 (List.mem_of_getElem? (i := 216) rfl)) rfl, tb_v93.1, tb_v93.2.1, tb_v93.2.2.1, by decide, by decide, by decide, ⟨_, _, by rw [tb_y93]; rfl⟩, tb_v93.2.2.2⟩
theorem tl_LentNames_TownReader_31_0 : iv_LV "LentNames$TownReader" 31 76 2 8 := ⟨by rw [tb_y76]; exact tb_g (tb_4 (List.mem_of_getElem? (i := 121) rfl)) rfl, tb_v76.1, tb_v76.2.1, tb_v76.2.2.1, by decide, by decide, by decide, ⟨_, _, by rw [tb_y76]; rfl⟩, tb_v76.2.2.2⟩
theorem tl_LentNames_TownReader_37_0 : iv_LV "LentNames$TownReader" 37 77 2 8 := ⟨by rw [tb_y77]; exact tb_g (tb_3 (List.mem_of_getElem? (i := 221) rfl)) rfl, tb_v77.1, tb_v77.2.1, tb_v77.2.2.1, by decide, by decide, by decide, ⟨_, _, by rw [tb_y77]; rfl⟩, tb_v77.2.2.2⟩
theorem tl_LentNames_TownReader_47_0 : iv_LV "LentNames$TownReader" 47 66 1 7 := ⟨by rw [tb_y66]; exact tb_g (tb_4 (List.mem_of_getElem? (i := 33) rfl)) rfl, tb_v66.1, tb_v66.2.1, tb_v66.2.2.1, by decide, by decide, by decide, ⟨_, _, by rw [tb_y66]; rfl⟩, tb_v66.2.2.2⟩
theorem tl_LentNames_TownReader_52_0 : iv_LV "LentNames$TownReader" 52 78 2 8 := ⟨by rw [tb_y78]; exact tb_g (tb_4 (List.mem_of_getElem? (i := 37) rfl)) rfl, tb_v78.1, tb_v78.2.1, tb_v78.2.2.1, by decide, by decide, by decide, ⟨_, _, by rw [tb_y78]; rfl⟩, tb_v78.2.2.2⟩
theorem tb_v94 : Cond.instanceMethod (pm_y 94) ∈ iv_T ∧ Cond.selects (pm_y 94).cls (pm_y 94) (pm_y 94) ∈ iv_T ∧ pm_h 94 = [] ∧ (parseMethodDescriptor (pm_y 94).desc).map (fun d => d.parameters.length) = some 0 := by
  rw [tb_y94]
  exact ⟨tb_g (tb_4 (List.mem_of_getElem? (i := 44) rfl)) rfl, tb_g (tb_sel (tb_p2 (List.mem_of_getElem? (a := ((⟨"LentNames$TownReader", "readLoan", "()Z"⟩ : MethodName), 2)) (i := 10) rfl))) rfl, rfl, by decide +kernel⟩
theorem tl_LentNames_TownReader_55_0 : iv_LV "LentNames$TownReader" 55 94 1 10 := ⟨by rw [tb_y94]; exact tb_g (tb_4 (List.mem_of_getElem? (i := 42) rfl)) rfl, tb_v94.1, tb_v94.2.1, tb_v94.2.2.1, by decide, by decide, by decide, ⟨_, _, by rw [tb_y94]; rfl⟩, tb_v94.2.2.2⟩
theorem tb_v98 : Cond.instanceMethod (pm_y 98) ∈ iv_T ∧ Cond.selects (pm_y 98).cls (pm_y 98) (pm_y 98) ∈ iv_T ∧ pm_h 98 = [] ∧ (parseMethodDescriptor (pm_y 98).desc).map (fun d => d.parameters.length) = some 0 := by
  rw [tb_y98]
  exact ⟨tb_g (tb_4 (List.mem_of_getElem? (i := 79) rfl)) rfl, tb_g (tb_sel (tb_p2 (List.mem_of_getElem? (a := ((⟨"LentNames$TownReader", "readLetter", "()Z"⟩ : MethodName), 2)) (i := 13) rfl))) rfl, rfl, by decide +kernel⟩
theorem tl_LentNames_TownReader_63_0 : iv_LV "LentNames$TownReader" 63 98 1 10 := ⟨by rw [tb_y98]; exact tb_g (tb_4 (List.mem_of_getElem? (i := 77) rfl)) rfl, tb_v98.1, tb_v98.2.1, tb_v98.2.2.1, by decide, by decide, by decide, ⟨_, _, by rw [tb_y98]; rfl⟩, tb_v98.2.2.2⟩
theorem tb_v99 : Cond.instanceMethod (pm_y 99) ∈ iv_T ∧ Cond.selects (pm_y 99).cls (pm_y 99) (pm_y 99) ∈ iv_T ∧ pm_h 99 = [] ∧ (parseMethodDescriptor (pm_y 99).desc).map (fun d => d.parameters.length) = some 0 := by
  rw [tb_y99]
  exact ⟨tb_g (tb_4 (List.mem_of_getElem? (i := 86) rfl)) rfl, tb_g (tb_sel (tb_p2 (List.mem_of_getElem? (a := ((⟨"LentNames$TownReader", "readDebt", "()Z"⟩ : MethodName), 2)) (i := 14) rfl))) rfl, rfl, by decide +kernel⟩
theorem tl_LentNames_TownReader_71_0 : iv_LV "LentNames$TownReader" 71 99 1 10 := ⟨by rw [tb_y99]; exact tb_g (tb_4 (List.mem_of_getElem? (i := 84) rfl)) rfl, tb_v99.1, tb_v99.2.1, tb_v99.2.2.1, by decide, by decide, by decide, ⟨_, _, by rw [tb_y99]; rfl⟩, tb_v99.2.2.2⟩
theorem tb_v100 : Cond.instanceMethod (pm_y 100) ∈ iv_T ∧ Cond.selects (pm_y 100).cls (pm_y 100) (pm_y 100) ∈ iv_T ∧ pm_h 100 = [] ∧ (parseMethodDescriptor (pm_y 100).desc).map (fun d => d.parameters.length) = some 0 := by
  rw [tb_y100]
  exact ⟨tb_g (tb_4 (List.mem_of_getElem? (i := 95) rfl)) rfl, tb_g (tb_sel (tb_p2 (List.mem_of_getElem? (a := ((⟨"LentNames$TownReader", "readSighting", "()Z"⟩ : MethodName), 2)) (i := 15) rfl))) rfl, rfl, by decide +kernel⟩
theorem tl_LentNames_TownReader_79_0 : iv_LV "LentNames$TownReader" 79 100 1 10 := ⟨by rw [tb_y100]; exact tb_g (tb_4 (List.mem_of_getElem? (i := 93) rfl)) rfl, tb_v100.1, tb_v100.2.1, tb_v100.2.2.1, by decide, by decide, by decide, ⟨_, _, by rw [tb_y100]; rfl⟩, tb_v100.2.2.2⟩
theorem tb_v95 : Cond.instanceMethod (pm_y 95) ∈ iv_T ∧ Cond.selects (pm_y 95).cls (pm_y 95) (pm_y 95) ∈ iv_T ∧ pm_h 95 = [] ∧ (parseMethodDescriptor (pm_y 95).desc).map (fun d => d.parameters.length) = some 0 := by
  rw [tb_y95]
  exact ⟨tb_g (tb_4 (List.mem_of_getElem? (i := 107) rfl)) rfl, tb_g (tb_sel (tb_p3 (List.mem_of_getElem? (a := ((⟨"LentNames$TownReader", "readLate", "()Z"⟩ : MethodName), 2)) (i := 1) rfl))) rfl, rfl, by decide +kernel⟩
theorem tl_LentNames_TownReader_84_0 : iv_LV "LentNames$TownReader" 84 95 1 10 := ⟨by rw [tb_y95]; exact tb_g (tb_4 (List.mem_of_getElem? (i := 105) rfl)) rfl, tb_v95.1, tb_v95.2.1, tb_v95.2.2.1, by decide, by decide, by decide, ⟨_, _, by rw [tb_y95]; rfl⟩, tb_v95.2.2.2⟩
theorem tb_v96 : Cond.instanceMethod (pm_y 96) ∈ iv_T ∧ Cond.selects (pm_y 96).cls (pm_y 96) (pm_y 96) ∈ iv_T ∧ pm_h 96 = [] ∧ (parseMethodDescriptor (pm_y 96).desc).map (fun d => d.parameters.length) = some 0 := by
  rw [tb_y96]
  exact ⟨tb_g (tb_4 (List.mem_of_getElem? (i := 113) rfl)) rfl, tb_g (tb_sel (tb_p3 (List.mem_of_getElem? (a := ((⟨"LentNames$TownReader", "readDeath", "()Z"⟩ : MethodName), 2)) (i := 2) rfl))) rfl, rfl, by decide +kernel⟩
theorem tl_LentNames_TownReader_89_0 : iv_LV "LentNames$TownReader" 89 96 1 10 := ⟨by rw [tb_y96]; exact tb_g (tb_4 (List.mem_of_getElem? (i := 111) rfl)) rfl, tb_v96.1, tb_v96.2.1, tb_v96.2.2.1, by decide, by decide, by decide, ⟨_, _, by rw [tb_y96]; rfl⟩, tb_v96.2.2.2⟩
theorem tb_v97 : Cond.instanceMethod (pm_y 97) ∈ iv_T ∧ Cond.selects (pm_y 97).cls (pm_y 97) (pm_y 97) ∈ iv_T ∧ pm_h 97 = [] ∧ (parseMethodDescriptor (pm_y 97).desc).map (fun d => d.parameters.length) = some 0 := by
  rw [tb_y97]
  exact ⟨tb_g (tb_4 (List.mem_of_getElem? (i := 119) rfl)) rfl, tb_g (tb_sel (tb_p3 (List.mem_of_getElem? (a := ((⟨"LentNames$TownReader", "readCourt", "()Z"⟩ : MethodName), 2)) (i := 3) rfl))) rfl, rfl, by decide +kernel⟩
theorem tl_LentNames_TownReader_94_0 : iv_LV "LentNames$TownReader" 94 97 1 10 := ⟨by rw [tb_y97]; exact tb_g (tb_4 (List.mem_of_getElem? (i := 117) rfl)) rfl, tb_v97.1, tb_v97.2.1, tb_v97.2.2.1, by decide, by decide, by decide, ⟨_, _, by rw [tb_y97]; rfl⟩, tb_v97.2.2.2⟩
theorem tb_v67 : Cond.instanceMethod (pm_y 67) ∈ iv_T ∧ Cond.selects (pm_y 67).cls (pm_y 67) (pm_y 67) ∈ iv_T ∧ pm_h 67 = [] ∧ (parseMethodDescriptor (pm_y 67).desc).map (fun d => d.parameters.length) = some 0 := by
  rw [tb_y67]
  exact ⟨tb_g (tb_4 (List.mem_of_getElem? (i := 47) rfl)) rfl, tb_g (tb_4 (List.mem_of_getElem? (i := 48) rfl)) rfl, rfl, by decide +kernel⟩
theorem tl_LentNames_TownReader_97_0 : iv_LV "LentNames$TownReader" 97 67 1 7 := ⟨by rw [tb_y67]; exact tb_g (tb_4 (List.mem_of_getElem? (i := 46) rfl)) rfl, tb_v67.1, tb_v67.2.1, tb_v67.2.2.1, by decide, by decide, by decide, ⟨_, _, by rw [tb_y67]; rfl⟩, tb_v67.2.2.2⟩
theorem tb_v102 : Cond.instanceMethod (pm_y 102) ∈ iv_T ∧ Cond.selects (pm_y 102).cls (pm_y 102) (pm_y 102) ∈ iv_T ∧ pm_h 102 = [] ∧ (parseMethodDescriptor (pm_y 102).desc).map (fun d => d.parameters.length) = some 5 := by
  rw [tb_y102]
  exact ⟨tb_g (tb_4 (List.mem_of_getElem? (i := 57) rfl)) rfl, tb_g (tb_sel (tb_p2 (List.mem_of_getElem? (a := ((⟨"LentNames$TownReader", "readInto", "(LLentNames$Table;IIII)Z"⟩ : MethodName), 2)) (i := 11) rfl))) rfl, rfl, by decide +kernel⟩
theorem tl_LentNames_TownReader_105_0 : iv_LV "LentNames$TownReader" 105 102 6 10 := ⟨by rw [tb_y102]; exact tb_g (tb_4 (List.mem_of_getElem? (i := 55) rfl)) rfl, tb_v102.1, tb_v102.2.1, tb_v102.2.2.1, by decide, by decide, by decide, ⟨_, _, by rw [tb_y102]; rfl⟩, tb_v102.2.2.2⟩
theorem tl_LentNames_TownReader_117_0 : iv_LV "LentNames$TownReader" 117 69 4 7 := ⟨by rw [tb_y69]; exact tb_g (tb_4 (List.mem_of_getElem? (i := 70) rfl)) rfl, tb_v69.1, tb_v69.2.1, tb_v69.2.2.1, by decide, by decide, by decide, ⟨_, _, by rw [tb_y69]; rfl⟩, tb_v69.2.2.2⟩
theorem tl_LentNames_TownReader_126_0 : iv_LV "LentNames$TownReader" 126 79 3 8 := ⟨by rw [tb_y79]; exact tb_g (tb_4 (List.mem_of_getElem? (i := 59) rfl)) rfl, tb_v79.1, tb_v79.2.1, tb_v79.2.2.1, by decide, by decide, by decide, ⟨_, _, by rw [tb_y79]; rfl⟩, tb_v79.2.2.2⟩
theorem tl_LentNames_TownReader_146_0 : iv_LV "LentNames$TownReader" 146 68 3 7 := ⟨by rw [tb_y68]; exact tb_g (tb_4 (List.mem_of_getElem? (i := 82) rfl)) rfl, tb_v68.1, tb_v68.2.1, tb_v68.2.2.1, by decide, by decide, by decide, ⟨_, _, by rw [tb_y68]; rfl⟩, tb_v68.2.2.2⟩
theorem tb_v101 : Cond.instanceMethod (pm_y 101) ∈ iv_T ∧ Cond.selects (pm_y 101).cls (pm_y 101) (pm_y 101) ∈ iv_T ∧ pm_h 101 = [] ∧ (parseMethodDescriptor (pm_y 101).desc).map (fun d => d.parameters.length) = some 1 := by
  rw [tb_y101]
  exact ⟨tb_g (tb_4 (List.mem_of_getElem? (i := 100) rfl)) rfl, tb_g (tb_sel (tb_p3 (List.mem_of_getElem? (a := ((⟨"LentNames$TownReader", "readBodies", "(I)Z"⟩ : MethodName), 2)) (i := 0) rfl))) rfl, rfl, by decide +kernel⟩
theorem tl_LentNames_TownReader_159_0 : iv_LV "LentNames$TownReader" 159 101 2 10 := ⟨by rw [tb_y101]; exact tb_g (tb_4 (List.mem_of_getElem? (i := 98) rfl)) rfl, tb_v101.1, tb_v101.2.1, tb_v101.2.2.1, by decide, by decide, by decide, ⟨_, _, by rw [tb_y101]; rfl⟩, tb_v101.2.2.2⟩
theorem tb_v106 : Cond.instanceMethod (pm_y 106) ∈ iv_T ∧ Cond.selects (pm_y 106).cls (pm_y 106) (pm_y 106) ∈ iv_T ∧ pm_h 106 = [] ∧ (parseMethodDescriptor (pm_y 106).desc).map (fun d => d.parameters.length) = some 0 := by
  rw [tb_y106]
  exact ⟨tb_g (tb_3 (List.mem_of_getElem? (i := 197) rfl)) rfl, tb_g (tb_3 (List.mem_of_getElem? (i := 198) rfl)) rfl, rfl, by decide +kernel⟩
theorem tl_LentNamesLaw_7_0 : iv_LV "LentNamesLaw" 7 106 1 11 := ⟨by rw [tb_y106]; exact tb_g (tb_3 (List.mem_of_getElem? (i := 196) rfl)) rfl, tb_v106.1, tb_v106.2.1, tb_v106.2.2.1, by decide, by decide, by decide, ⟨_, _, by rw [tb_y106]; rfl⟩, tb_v106.2.2.2⟩
theorem tb_v109 : Cond.instanceMethod (pm_y 109) ∈ iv_T ∧ Cond.selects (pm_y 109).cls (pm_y 109) (pm_y 109) ∈ iv_T ∧ pm_h 109 = [] ∧ (parseMethodDescriptor (pm_y 109).desc).map (fun d => d.parameters.length) = some 1 := by
  rw [tb_y109]
  exact ⟨tb_g (tb_4 (List.mem_of_getElem? (i := 228) rfl)) rfl, tb_g (tb_4 (List.mem_of_getElem? (i := 229) rfl)) rfl, rfl, by decide +kernel⟩
theorem tl_LentNamesLaw_17_0 : iv_LV "LentNamesLaw" 17 109 2 11 := ⟨by rw [tb_y109]; exact tb_g (tb_4 (List.mem_of_getElem? (i := 227) rfl)) rfl, tb_v109.1, tb_v109.2.1, tb_v109.2.2.1, by decide, by decide, by decide, ⟨_, _, by rw [tb_y109]; rfl⟩, tb_v109.2.2.2⟩
theorem tb_v110 : Cond.instanceMethod (pm_y 110) ∈ iv_T ∧ Cond.selects (pm_y 110).cls (pm_y 110) (pm_y 110) ∈ iv_T ∧ pm_h 110 = [] ∧ (parseMethodDescriptor (pm_y 110).desc).map (fun d => d.parameters.length) = some 2 := by
  rw [tb_y110]
  exact ⟨tb_g (tb_5 (List.mem_of_getElem? (i := 13) rfl)) rfl, tb_g (tb_5 (List.mem_of_getElem? (i := 14) rfl)) rfl, rfl, by decide +kernel⟩
theorem tl_LentNamesLaw_23_0 : iv_LV "LentNamesLaw" 23 110 3 11 := ⟨by rw [tb_y110]; exact tb_g (tb_5 (List.mem_of_getElem? (i := 12) rfl)) rfl, tb_v110.1, tb_v110.2.1, tb_v110.2.2.1, by decide, by decide, by decide, ⟨_, _, by rw [tb_y110]; rfl⟩, tb_v110.2.2.2⟩
theorem tb_v111 : Cond.instanceMethod (pm_y 111) ∈ iv_T ∧ Cond.selects (pm_y 111).cls (pm_y 111) (pm_y 111) ∈ iv_T ∧ pm_h 111 = [] ∧ (parseMethodDescriptor (pm_y 111).desc).map (fun d => d.parameters.length) = some 2 := by
  rw [tb_y111]
  exact ⟨tb_g (tb_5 (List.mem_of_getElem? (i := 44) rfl)) rfl, tb_g (tb_5 (List.mem_of_getElem? (i := 45) rfl)) rfl, rfl, by decide +kernel⟩
theorem tl_LentNamesLaw_29_0 : iv_LV "LentNamesLaw" 29 111 3 11 := ⟨by rw [tb_y111]; exact tb_g (tb_5 (List.mem_of_getElem? (i := 43) rfl)) rfl, tb_v111.1, tb_v111.2.1, tb_v111.2.2.1, by decide, by decide, by decide, ⟨_, _, by rw [tb_y111]; rfl⟩, tb_v111.2.2.2⟩
theorem tb_v112 : Cond.instanceMethod (pm_y 112) ∈ iv_T ∧ Cond.selects (pm_y 112).cls (pm_y 112) (pm_y 112) ∈ iv_T ∧ pm_h 112 = [] ∧ (parseMethodDescriptor (pm_y 112).desc).map (fun d => d.parameters.length) = some 2 := by
  rw [tb_y112]
  exact ⟨tb_g (tb_5 (List.mem_of_getElem? (i := 60) rfl)) rfl, tb_g (tb_5 (List.mem_of_getElem? (i := 61) rfl)) rfl, rfl, by decide +kernel⟩
theorem tl_LentNamesLaw_32_0 : iv_LV "LentNamesLaw" 32 112 3 11 := ⟨by rw [tb_y112]; exact tb_g (tb_5 (List.mem_of_getElem? (i := 59) rfl)) rfl, tb_v112.1, tb_v112.2.1, tb_v112.2.2.1, by decide, by decide, by decide, ⟨_, _, by rw [tb_y112]; rfl⟩, tb_v112.2.2.2⟩
theorem tb_v113 : Cond.instanceMethod (pm_y 113) ∈ iv_T ∧ Cond.selects (pm_y 113).cls (pm_y 113) (pm_y 113) ∈ iv_T ∧ pm_h 113 = [] ∧ (parseMethodDescriptor (pm_y 113).desc).map (fun d => d.parameters.length) = some 3 := by
  rw [tb_y113]
  exact ⟨tb_g (tb_5 (List.mem_of_getElem? (i := 71) rfl)) rfl, tb_g (tb_5 (List.mem_of_getElem? (i := 72) rfl)) rfl, rfl, by decide +kernel⟩
theorem tl_LentNamesLaw_35_0 : iv_LV "LentNamesLaw" 35 113 4 11 := ⟨by rw [tb_y113]; exact tb_g (tb_5 (List.mem_of_getElem? (i := 70) rfl)) rfl, tb_v113.1, tb_v113.2.1, tb_v113.2.2.1, by decide, by decide, by decide, ⟨_, _, by rw [tb_y113]; rfl⟩, tb_v113.2.2.2⟩
theorem tb_v114 : Cond.instanceMethod (pm_y 114) ∈ iv_T ∧ Cond.selects (pm_y 114).cls (pm_y 114) (pm_y 114) ∈ iv_T ∧ pm_h 114 = [] ∧ (parseMethodDescriptor (pm_y 114).desc).map (fun d => d.parameters.length) = some 1 := by
  rw [tb_y114]
  exact ⟨tb_g (tb_5 (List.mem_of_getElem? (i := 82) rfl)) rfl, tb_g (tb_5 (List.mem_of_getElem? (i := 83) rfl)) rfl, rfl, by decide +kernel⟩
theorem tl_LentNamesLaw_39_0 : iv_LV "LentNamesLaw" 39 114 2 11 := ⟨by rw [tb_y114]; exact tb_g (tb_5 (List.mem_of_getElem? (i := 81) rfl)) rfl, tb_v114.1, tb_v114.2.1, tb_v114.2.2.1, by decide, by decide, by decide, ⟨_, _, by rw [tb_y114]; rfl⟩, tb_v114.2.2.2⟩
theorem tb_v115 : Cond.instanceMethod (pm_y 115) ∈ iv_T ∧ Cond.selects (pm_y 115).cls (pm_y 115) (pm_y 115) ∈ iv_T ∧ pm_h 115 = [] ∧ (parseMethodDescriptor (pm_y 115).desc).map (fun d => d.parameters.length) = some 1 := by
  rw [tb_y115]
  exact ⟨tb_g (tb_5 (List.mem_of_getElem? (i := 93) rfl)) rfl, tb_g (tb_5 (List.mem_of_getElem? (i := 94) rfl)) rfl, rfl, by decide +kernel⟩
theorem tl_LentNamesLaw_43_0 : iv_LV "LentNamesLaw" 43 115 2 11 := ⟨by rw [tb_y115]; exact tb_g (tb_5 (List.mem_of_getElem? (i := 92) rfl)) rfl, tb_v115.1, tb_v115.2.1, tb_v115.2.2.1, by decide, by decide, by decide, ⟨_, _, by rw [tb_y115]; rfl⟩, tb_v115.2.2.2⟩
theorem tb_v116 : Cond.instanceMethod (pm_y 116) ∈ iv_T ∧ Cond.selects (pm_y 116).cls (pm_y 116) (pm_y 116) ∈ iv_T ∧ pm_h 116 = [] ∧ (parseMethodDescriptor (pm_y 116).desc).map (fun d => d.parameters.length) = some 2 := by
  rw [tb_y116]
  exact ⟨tb_g (tb_5 (List.mem_of_getElem? (i := 103) rfl)) rfl, tb_g (tb_5 (List.mem_of_getElem? (i := 104) rfl)) rfl, rfl, by decide +kernel⟩
theorem tl_LentNamesLaw_46_0 : iv_LV "LentNamesLaw" 46 116 3 11 := ⟨by rw [tb_y116]; exact tb_g (tb_5 (List.mem_of_getElem? (i := 102) rfl)) rfl, tb_v116.1, tb_v116.2.1, tb_v116.2.2.1, by decide, by decide, by decide, ⟨_, _, by rw [tb_y116]; rfl⟩, tb_v116.2.2.2⟩
theorem tb_v122 : Cond.instanceMethod (pm_y 122) ∈ iv_T ∧ Cond.selects (pm_y 122).cls (pm_y 122) (pm_y 122) ∈ iv_T ∧ pm_h 122 = [] ∧ (parseMethodDescriptor (pm_y 122).desc).map (fun d => d.parameters.length) = some 2 := by
  rw [tb_y122]
  exact ⟨tb_g (tb_5 (List.mem_of_getElem? (i := 112) rfl)) rfl, tb_g (tb_5 (List.mem_of_getElem? (i := 113) rfl)) rfl, rfl, by decide +kernel⟩
theorem tl_LentNamesLaw_50_0 : iv_LV "LentNamesLaw" 50 122 3 11 := ⟨by rw [tb_y122]; exact tb_g (tb_5 (List.mem_of_getElem? (i := 111) rfl)) rfl, tb_v122.1, tb_v122.2.1, tb_v122.2.2.1, by decide, by decide, by decide, ⟨_, _, by rw [tb_y122]; rfl⟩, tb_v122.2.2.2⟩
theorem tb_v123 : Cond.instanceMethod (pm_y 123) ∈ iv_T ∧ Cond.selects (pm_y 123).cls (pm_y 123) (pm_y 123) ∈ iv_T ∧ pm_h 123 = [] ∧ (parseMethodDescriptor (pm_y 123).desc).map (fun d => d.parameters.length) = some 2 := by
  rw [tb_y123]
  exact ⟨tb_g (tb_5 (List.mem_of_getElem? (i := 140) rfl)) rfl, tb_g (tb_5 (List.mem_of_getElem? (i := 141) rfl)) rfl, rfl, by decide +kernel⟩
theorem tl_LentNamesLaw_55_0 : iv_LV "LentNamesLaw" 55 123 3 11 := ⟨by rw [tb_y123]; exact tb_g (tb_5 (List.mem_of_getElem? (i := 139) rfl)) rfl, tb_v123.1, tb_v123.2.1, tb_v123.2.2.1, by decide, by decide, by decide, ⟨_, _, by rw [tb_y123]; rfl⟩, tb_v123.2.2.2⟩
theorem tb_v124 : Cond.instanceMethod (pm_y 124) ∈ iv_T ∧ Cond.selects (pm_y 124).cls (pm_y 124) (pm_y 124) ∈ iv_T ∧ pm_h 124 = [] ∧ (parseMethodDescriptor (pm_y 124).desc).map (fun d => d.parameters.length) = some 2 := by
  rw [tb_y124]
  exact ⟨tb_g (tb_5 (List.mem_of_getElem? (i := 147) rfl)) rfl, tb_g (tb_5 (List.mem_of_getElem? (i := 148) rfl)) rfl, rfl, by decide +kernel⟩
theorem tl_LentNamesLaw_59_0 : iv_LV "LentNamesLaw" 59 124 3 11 := ⟨by rw [tb_y124]; exact tb_g (tb_5 (List.mem_of_getElem? (i := 146) rfl)) rfl, tb_v124.1, tb_v124.2.1, tb_v124.2.2.1, by decide, by decide, by decide, ⟨_, _, by rw [tb_y124]; rfl⟩, tb_v124.2.2.2⟩
theorem tb_v128 : Cond.instanceMethod (pm_y 128) ∈ iv_T ∧ Cond.selects (pm_y 128).cls (pm_y 128) (pm_y 128) ∈ iv_T ∧ pm_h 128 = [] ∧ (parseMethodDescriptor (pm_y 128).desc).map (fun d => d.parameters.length) = some 1 := by
  rw [tb_y128]
  exact ⟨tb_g (tb_5 (List.mem_of_getElem? (i := 162) rfl)) rfl, tb_g (tb_5 (List.mem_of_getElem? (i := 163) rfl)) rfl, rfl, by decide +kernel⟩
theorem tl_LentNamesLaw_62_0 : iv_LV "LentNamesLaw" 62 128 2 11 := ⟨by rw [tb_y128]; exact tb_g (tb_5 (List.mem_of_getElem? (i := 161) rfl)) rfl, tb_v128.1, tb_v128.2.1, tb_v128.2.2.1, by decide, by decide, by decide, ⟨_, _, by rw [tb_y128]; rfl⟩, tb_v128.2.2.2⟩
theorem tb_v129 : Cond.instanceMethod (pm_y 129) ∈ iv_T ∧ Cond.selects (pm_y 129).cls (pm_y 129) (pm_y 129) ∈ iv_T ∧ pm_h 129 = [] ∧ (parseMethodDescriptor (pm_y 129).desc).map (fun d => d.parameters.length) = some 1 := by
  rw [tb_y129]
  exact ⟨tb_g (tb_5 (List.mem_of_getElem? (i := 170) rfl)) rfl, tb_g (tb_5 (List.mem_of_getElem? (i := 171) rfl)) rfl, rfl, by decide +kernel⟩
theorem tl_LentNamesLaw_65_0 : iv_LV "LentNamesLaw" 65 129 2 11 := ⟨by rw [tb_y129]; exact tb_g (tb_5 (List.mem_of_getElem? (i := 169) rfl)) rfl, tb_v129.1, tb_v129.2.1, tb_v129.2.2.1, by decide, by decide, by decide, ⟨_, _, by rw [tb_y129]; rfl⟩, tb_v129.2.2.2⟩
theorem tb_v108 : Cond.instanceMethod (pm_y 108) ∈ iv_T ∧ Cond.selects (pm_y 108).cls (pm_y 108) (pm_y 108) ∈ iv_T ∧ pm_h 108 = [] ∧ (parseMethodDescriptor (pm_y 108).desc).map (fun d => d.parameters.length) = some 0 := by
  rw [tb_y108]
  exact ⟨tb_g (tb_5 (List.mem_of_getElem? (i := 177) rfl)) rfl, tb_g (tb_5 (List.mem_of_getElem? (i := 178) rfl)) rfl, rfl, by decide +kernel⟩
theorem tl_LentNamesLaw_68_0 : iv_LV "LentNamesLaw" 68 108 1 11 := ⟨by rw [tb_y108]; exact tb_g (tb_5 (List.mem_of_getElem? (i := 176) rfl)) rfl, tb_v108.1, tb_v108.2.1, tb_v108.2.2.1, by decide, by decide, by decide, ⟨_, _, by rw [tb_y108]; rfl⟩, tb_v108.2.2.2⟩
theorem tb_v130 : Cond.instanceMethod (pm_y 130) ∈ iv_T ∧ Cond.selects (pm_y 130).cls (pm_y 130) (pm_y 130) ∈ iv_T ∧ pm_h 130 = [] ∧ (parseMethodDescriptor (pm_y 130).desc).map (fun d => d.parameters.length) = some 2 := by
  rw [tb_y130]
  exact ⟨tb_g (tb_6 (List.mem_of_getElem? (i := 5) rfl)) rfl, tb_g (tb_6 (List.mem_of_getElem? (i := 6) rfl)) rfl, rfl, by decide +kernel⟩
theorem tl_LentNamesLaw_71_0 : iv_LV "LentNamesLaw" 71 130 3 11 := ⟨by rw [tb_y130]; exact tb_g (tb_6 (List.mem_of_getElem? (i := 4) rfl)) rfl, tb_v130.1, tb_v130.2.1, tb_v130.2.2.1, by decide, by decide, by decide, ⟨_, _, by rw [tb_y130]; rfl⟩, tb_v130.2.2.2⟩
theorem tb_v131 : Cond.instanceMethod (pm_y 131) ∈ iv_T ∧ Cond.selects (pm_y 131).cls (pm_y 131) (pm_y 131) ∈ iv_T ∧ pm_h 131 = [] ∧ (parseMethodDescriptor (pm_y 131).desc).map (fun d => d.parameters.length) = some 1 := by
  rw [tb_y131]
  exact ⟨tb_g (tb_6 (List.mem_of_getElem? (i := 13) rfl)) rfl, tb_g (tb_6 (List.mem_of_getElem? (i := 14) rfl)) rfl, rfl, by decide +kernel⟩
theorem tl_LentNamesLaw_74_0 : iv_LV "LentNamesLaw" 74 131 2 11 := ⟨by rw [tb_y131]; exact tb_g (tb_6 (List.mem_of_getElem? (i := 12) rfl)) rfl, tb_v131.1, tb_v131.2.1, tb_v131.2.2.1, by decide, by decide, by decide, ⟨_, _, by rw [tb_y131]; rfl⟩, tb_v131.2.2.2⟩
theorem tb_v133 : Cond.instanceMethod (pm_y 133) ∈ iv_T ∧ Cond.selects (pm_y 133).cls (pm_y 133) (pm_y 133) ∈ iv_T ∧ pm_h 133 = [] ∧ (parseMethodDescriptor (pm_y 133).desc).map (fun d => d.parameters.length) = some 1 := by
  rw [tb_y133]
  exact ⟨tb_g (tb_6 (List.mem_of_getElem? (i := 20) rfl)) rfl, tb_g (tb_6 (List.mem_of_getElem? (i := 21) rfl)) rfl, rfl, by decide +kernel⟩
theorem tl_LentNamesLaw_77_0 : iv_LV "LentNamesLaw" 77 133 2 11 := ⟨by rw [tb_y133]; exact tb_g (tb_6 (List.mem_of_getElem? (i := 19) rfl)) rfl, tb_v133.1, tb_v133.2.1, tb_v133.2.2.1, by decide, by decide, by decide, ⟨_, _, by rw [tb_y133]; rfl⟩, tb_v133.2.2.2⟩
theorem tb_v120 : Cond.instanceMethod (pm_y 120) ∈ iv_T ∧ Cond.selects (pm_y 120).cls (pm_y 120) (pm_y 120) ∈ iv_T ∧ pm_h 120 = [] ∧ (parseMethodDescriptor (pm_y 120).desc).map (fun d => d.parameters.length) = some 2 := by
  rw [tb_y120]
  exact ⟨tb_g (tb_6 (List.mem_of_getElem? (i := 27) rfl)) rfl, tb_g (tb_6 (List.mem_of_getElem? (i := 28) rfl)) rfl, rfl, by decide +kernel⟩
theorem tl_LentNamesLaw_80_0 : iv_LV "LentNamesLaw" 80 120 3 11 := ⟨by rw [tb_y120]; exact tb_g (tb_6 (List.mem_of_getElem? (i := 26) rfl)) rfl, tb_v120.1, tb_v120.2.1, tb_v120.2.2.1, by decide, by decide, by decide, ⟨_, _, by rw [tb_y120]; rfl⟩, tb_v120.2.2.2⟩
theorem tb_v125 : Cond.instanceMethod (pm_y 125) ∈ iv_T ∧ Cond.selects (pm_y 125).cls (pm_y 125) (pm_y 125) ∈ iv_T ∧ pm_h 125 = [] ∧ (parseMethodDescriptor (pm_y 125).desc).map (fun d => d.parameters.length) = some 2 := by
  rw [tb_y125]
  exact ⟨tb_g (tb_6 (List.mem_of_getElem? (i := 35) rfl)) rfl, tb_g (tb_6 (List.mem_of_getElem? (i := 36) rfl)) rfl, rfl, by decide +kernel⟩
theorem tl_LentNamesLaw_83_0 : iv_LV "LentNamesLaw" 83 125 3 11 := ⟨by rw [tb_y125]; exact tb_g (tb_6 (List.mem_of_getElem? (i := 34) rfl)) rfl, tb_v125.1, tb_v125.2.1, tb_v125.2.2.1, by decide, by decide, by decide, ⟨_, _, by rw [tb_y125]; rfl⟩, tb_v125.2.2.2⟩
theorem tb_v127 : Cond.instanceMethod (pm_y 127) ∈ iv_T ∧ Cond.selects (pm_y 127).cls (pm_y 127) (pm_y 127) ∈ iv_T ∧ pm_h 127 = [] ∧ (parseMethodDescriptor (pm_y 127).desc).map (fun d => d.parameters.length) = some 2 := by
  rw [tb_y127]
  exact ⟨tb_g (tb_6 (List.mem_of_getElem? (i := 43) rfl)) rfl, tb_g (tb_6 (List.mem_of_getElem? (i := 44) rfl)) rfl, rfl, by decide +kernel⟩
theorem tl_LentNamesLaw_86_0 : iv_LV "LentNamesLaw" 86 127 3 11 := ⟨by rw [tb_y127]; exact tb_g (tb_6 (List.mem_of_getElem? (i := 42) rfl)) rfl, tb_v127.1, tb_v127.2.1, tb_v127.2.2.1, by decide, by decide, by decide, ⟨_, _, by rw [tb_y127]; rfl⟩, tb_v127.2.2.2⟩
theorem tb_v135 : Cond.instanceMethod (pm_y 135) ∈ iv_T ∧ Cond.selects (pm_y 135).cls (pm_y 135) (pm_y 135) ∈ iv_T ∧ pm_h 135 = [] ∧ (parseMethodDescriptor (pm_y 135).desc).map (fun d => d.parameters.length) = some 1 := by
  rw [tb_y135]
  exact ⟨tb_g (tb_6 (List.mem_of_getElem? (i := 168) rfl)) rfl, tb_g (tb_6 (List.mem_of_getElem? (i := 169) rfl)) rfl, rfl, by decide +kernel⟩
theorem tl_LentNamesLaw_89_0 : iv_LV "LentNamesLaw" 89 135 2 11 := ⟨by rw [tb_y135]; exact tb_g (tb_6 (List.mem_of_getElem? (i := 167) rfl)) rfl, tb_v135.1, tb_v135.2.1, tb_v135.2.2.1, by decide, by decide, by decide, ⟨_, _, by rw [tb_y135]; rfl⟩, tb_v135.2.2.2⟩
theorem tb_v136 : Cond.instanceMethod (pm_y 136) ∈ iv_T ∧ Cond.selects (pm_y 136).cls (pm_y 136) (pm_y 136) ∈ iv_T ∧ pm_h 136 = [] ∧ (parseMethodDescriptor (pm_y 136).desc).map (fun d => d.parameters.length) = some 2 := by
  rw [tb_y136]
  exact ⟨tb_g (tb_6 (List.mem_of_getElem? (i := 175) rfl)) rfl, tb_g (tb_6 (List.mem_of_getElem? (i := 176) rfl)) rfl, rfl, by decide +kernel⟩
theorem tl_LentNamesLaw_92_0 : iv_LV "LentNamesLaw" 92 136 3 11 := ⟨by rw [tb_y136]; exact tb_g (tb_6 (List.mem_of_getElem? (i := 174) rfl)) rfl, tb_v136.1, tb_v136.2.1, tb_v136.2.2.1, by decide, by decide, by decide, ⟨_, _, by rw [tb_y136]; rfl⟩, tb_v136.2.2.2⟩
theorem tb_v137 : Cond.instanceMethod (pm_y 137) ∈ iv_T ∧ Cond.selects (pm_y 137).cls (pm_y 137) (pm_y 137) ∈ iv_T ∧ pm_h 137 = [] ∧ (parseMethodDescriptor (pm_y 137).desc).map (fun d => d.parameters.length) = some 1 := by
  rw [tb_y137]
  exact ⟨tb_g (tb_6 (List.mem_of_getElem? (i := 189) rfl)) rfl, tb_g (tb_6 (List.mem_of_getElem? (i := 190) rfl)) rfl, rfl, by decide +kernel⟩
theorem tl_LentNamesLaw_95_0 : iv_LV "LentNamesLaw" 95 137 2 11 := ⟨by rw [tb_y137]; exact tb_g (tb_6 (List.mem_of_getElem? (i := 188) rfl)) rfl, tb_v137.1, tb_v137.2.1, tb_v137.2.2.1, by decide, by decide, by decide, ⟨_, _, by rw [tb_y137]; rfl⟩, tb_v137.2.2.2⟩
theorem tb_v117 : Cond.instanceMethod (pm_y 117) ∈ iv_T ∧ Cond.selects (pm_y 117).cls (pm_y 117) (pm_y 117) ∈ iv_T ∧ pm_h 117 = [] ∧ (parseMethodDescriptor (pm_y 117).desc).map (fun d => d.parameters.length) = some 1 := by
  rw [tb_y117]
  exact ⟨tb_g (tb_6 (List.mem_of_getElem? (i := 198) rfl)) rfl, tb_g (tb_6 (List.mem_of_getElem? (i := 199) rfl)) rfl, rfl, by decide +kernel⟩
theorem tl_LentNamesLaw_98_0 : iv_LV "LentNamesLaw" 98 117 2 11 := ⟨by rw [tb_y117]; exact tb_g (tb_6 (List.mem_of_getElem? (i := 197) rfl)) rfl, tb_v117.1, tb_v117.2.1, tb_v117.2.2.1, by decide, by decide, by decide, ⟨_, _, by rw [tb_y117]; rfl⟩, tb_v117.2.2.2⟩
theorem tb_v118 : Cond.instanceMethod (pm_y 118) ∈ iv_T ∧ Cond.selects (pm_y 118).cls (pm_y 118) (pm_y 118) ∈ iv_T ∧ pm_h 118 = [] ∧ (parseMethodDescriptor (pm_y 118).desc).map (fun d => d.parameters.length) = some 2 := by
  rw [tb_y118]
  exact ⟨tb_g (tb_6 (List.mem_of_getElem? (i := 205) rfl)) rfl, tb_g (tb_6 (List.mem_of_getElem? (i := 206) rfl)) rfl, rfl, by decide +kernel⟩
theorem tl_LentNamesLaw_101_0 : iv_LV "LentNamesLaw" 101 118 3 11 := ⟨by rw [tb_y118]; exact tb_g (tb_6 (List.mem_of_getElem? (i := 204) rfl)) rfl, tb_v118.1, tb_v118.2.1, tb_v118.2.2.1, by decide, by decide, by decide, ⟨_, _, by rw [tb_y118]; rfl⟩, tb_v118.2.2.2⟩
theorem tb_v119 : Cond.instanceMethod (pm_y 119) ∈ iv_T ∧ Cond.selects (pm_y 119).cls (pm_y 119) (pm_y 119) ∈ iv_T ∧ pm_h 119 = [] ∧ (parseMethodDescriptor (pm_y 119).desc).map (fun d => d.parameters.length) = some 2 := by
  rw [tb_y119]
  exact ⟨tb_g (tb_6 (List.mem_of_getElem? (i := 212) rfl)) rfl, tb_g (tb_6 (List.mem_of_getElem? (i := 213) rfl)) rfl, rfl, by decide +kernel⟩
theorem tl_LentNamesLaw_104_0 : iv_LV "LentNamesLaw" 104 119 3 11 := ⟨by rw [tb_y119]; exact tb_g (tb_6 (List.mem_of_getElem? (i := 211) rfl)) rfl, tb_v119.1, tb_v119.2.1, tb_v119.2.2.1, by decide, by decide, by decide, ⟨_, _, by rw [tb_y119]; rfl⟩, tb_v119.2.2.2⟩
theorem tb_v104 : Cond.instanceMethod (pm_y 104) ∈ iv_T ∧ Cond.selects (pm_y 104).cls (pm_y 104) (pm_y 104) ∈ iv_T ∧ pm_h 104 = [] ∧ (parseMethodDescriptor (pm_y 104).desc).map (fun d => d.parameters.length) = some 5 := by
  rw [tb_y104]
  exact ⟨tb_g (tb_3 (List.mem_of_getElem? (i := 74) rfl)) rfl, tb_g (tb_3 (List.mem_of_getElem? (i := 75) rfl)) rfl, rfl, by decide +kernel⟩
theorem tl_LentNamesLaw_111_0 : iv_LV "LentNamesLaw" 111 104 6 11 := ⟨by rw [tb_y104]; exact tb_g (tb_3 (List.mem_of_getElem? (i := 73) rfl)) rfl, tb_v104.1, tb_v104.2.1, tb_v104.2.2.1, by decide, by decide, by decide, ⟨_, _, by rw [tb_y104]; rfl⟩, tb_v104.2.2.2⟩
theorem tb_v165 : Cond.instanceMethod (pm_y 165) ∈ iv_T ∧ Cond.selects (pm_y 165).cls (pm_y 165) (pm_y 165) ∈ iv_T ∧ pm_h 165 = [] ∧ (parseMethodDescriptor (pm_y 165).desc).map (fun d => d.parameters.length) = some 5 := by
  rw [tb_y165]
  exact ⟨tb_g (tb_7 (List.mem_of_getElem? (i := 99) rfl)) rfl, tb_g (tb_7 (List.mem_of_getElem? (i := 100) rfl)) rfl, rfl, by decide +kernel⟩
theorem tl_LentNamesLaw_115_0 : iv_LV "LentNamesLaw" 115 165 6 12 := ⟨by rw [tb_y165]; exact tb_g (tb_7 (List.mem_of_getElem? (i := 98) rfl)) rfl, tb_v165.1, tb_v165.2.1, tb_v165.2.2.1, by decide, by decide, by decide, ⟨_, _, by rw [tb_y165]; rfl⟩, tb_v165.2.2.2⟩
theorem tb_v105 : Cond.instanceMethod (pm_y 105) ∈ iv_T ∧ Cond.selects (pm_y 105).cls (pm_y 105) (pm_y 105) ∈ iv_T ∧ pm_h 105 = [] ∧ (parseMethodDescriptor (pm_y 105).desc).map (fun d => d.parameters.length) = some 1 := by
  rw [tb_y105]
  exact ⟨tb_g (tb_3 (List.mem_of_getElem? (i := 82) rfl)) rfl, tb_g (tb_3 (List.mem_of_getElem? (i := 83) rfl)) rfl, rfl, by decide +kernel⟩
theorem tl_LentNamesLaw_116_0 : iv_LV "LentNamesLaw" 116 105 2 11 := ⟨by rw [tb_y105]; exact tb_g (tb_3 (List.mem_of_getElem? (i := 81) rfl)) rfl, tb_v105.1, tb_v105.2.1, tb_v105.2.2.1, by decide, by decide, by decide, ⟨_, _, by rw [tb_y105]; rfl⟩, tb_v105.2.2.2⟩
theorem tb_v166 : Cond.instanceMethod (pm_y 166) ∈ iv_T ∧ Cond.selects (pm_y 166).cls (pm_y 166) (pm_y 166) ∈ iv_T ∧ pm_h 166 = [] ∧ (parseMethodDescriptor (pm_y 166).desc).map (fun d => d.parameters.length) = some 1 := by
  rw [tb_y166]
  exact ⟨tb_g (tb_7 (List.mem_of_getElem? (i := 103) rfl)) rfl, tb_g (tb_7 (List.mem_of_getElem? (i := 104) rfl)) rfl, rfl, by decide +kernel⟩
theorem tl_LentNamesLaw_120_0 : iv_LV "LentNamesLaw" 120 166 2 12 := ⟨by rw [tb_y166]; exact tb_g (tb_7 (List.mem_of_getElem? (i := 102) rfl)) rfl, tb_v166.1, tb_v166.2.1, tb_v166.2.2.1, by decide, by decide, by decide, ⟨_, _, by rw [tb_y166]; rfl⟩, tb_v166.2.2.2⟩
theorem tl_LentNamesLaw_121_2 : iv_LS "LentNamesLaw" 121 282 2 := by
  unfold iv_LS
  rw [tb_y282]
  exact ⟨tb_g (tb_3 (List.mem_of_getElem? (i := 191) rfl)) rfl, tb_g (tb_3 (List.mem_of_getElem? (i := 192) rfl)) rfl, by decide +kernel⟩
theorem tb_v195 : Cond.instanceMethod (pm_y 195) ∈ iv_T ∧ Cond.selects (pm_y 195).cls (pm_y 195) (pm_y 195) ∈ iv_T ∧ pm_h 195 = [] ∧ (parseMethodDescriptor (pm_y 195).desc).map (fun d => d.parameters.length) = some 0 := by
  rw [tb_y195]
  exact ⟨tb_g (tb_7 (List.mem_of_getElem? (i := 111) rfl)) rfl, tb_g (tb_7 (List.mem_of_getElem? (i := 112) rfl)) rfl, rfl, by decide +kernel⟩
theorem tl_LentNamesLaw_126_0 : iv_LV "LentNamesLaw" 126 195 1 12 := ⟨by rw [tb_y195]; exact tb_g (tb_7 (List.mem_of_getElem? (i := 110) rfl)) rfl, tb_v195.1, tb_v195.2.1, tb_v195.2.2.1, by decide, by decide, by decide, ⟨_, _, by rw [tb_y195]; rfl⟩, tb_v195.2.2.2⟩
theorem tb_v107 : Cond.instanceMethod (pm_y 107) ∈ iv_T ∧ Cond.selects (pm_y 107).cls (pm_y 107) (pm_y 107) ∈ iv_T ∧ pm_h 107 = [] ∧ (parseMethodDescriptor (pm_y 107).desc).map (fun d => d.parameters.length) = some 0 := by
  rw [tb_y107]
  exact ⟨tb_g (tb_3 (List.mem_of_getElem? (i := 86) rfl)) rfl, tb_g (tb_3 (List.mem_of_getElem? (i := 87) rfl)) rfl, rfl, by decide +kernel⟩
theorem tl_LentNamesLaw_127_0 : iv_LV "LentNamesLaw" 127 107 1 11 := ⟨by rw [tb_y107]; exact tb_g (tb_3 (List.mem_of_getElem? (i := 85) rfl)) rfl, tb_v107.1, tb_v107.2.1, tb_v107.2.2.1, by decide, by decide, by decide, ⟨_, _, by rw [tb_y107]; rfl⟩, tb_v107.2.2.2⟩
theorem tb_v175 : Cond.instanceMethod (pm_y 175) ∈ iv_T ∧ Cond.selects (pm_y 175).cls (pm_y 175) (pm_y 175) ∈ iv_T ∧ pm_h 175 = [] ∧ (parseMethodDescriptor (pm_y 175).desc).map (fun d => d.parameters.length) = some 0 := by
  rw [tb_y175]
  exact ⟨tb_g (tb_7 (List.mem_of_getElem? (i := 107) rfl)) rfl, tb_g (tb_7 (List.mem_of_getElem? (i := 108) rfl)) rfl, rfl, by decide +kernel⟩
theorem tl_LentNamesLaw_130_0 : iv_LV "LentNamesLaw" 130 175 1 12 := ⟨by rw [tb_y175]; exact tb_g (tb_7 (List.mem_of_getElem? (i := 106) rfl)) rfl, tb_v175.1, tb_v175.2.1, tb_v175.2.2.1, by decide, by decide, by decide, ⟨_, _, by rw [tb_y175]; rfl⟩, tb_v175.2.2.2⟩
theorem tl_LentNamesLaw_131_2 : iv_LS "LentNamesLaw" 131 283 2 := by
  unfold iv_LS
  rw [tb_y283]
  exact ⟨tb_g (tb_4 (List.mem_of_getElem? (i := 223) rfl)) rfl, tb_g (tb_4 (List.mem_of_getElem? (i := 224) rfl)) rfl, by decide +kernel⟩
theorem tb_v197 : Cond.instanceMethod (pm_y 197) ∈ iv_T ∧ Cond.selects (pm_y 197).cls (pm_y 197) (pm_y 197) ∈ iv_T ∧ pm_h 197 = [] ∧ (parseMethodDescriptor (pm_y 197).desc).map (fun d => d.parameters.length) = some 1 := by
  rw [tb_y197]
  exact ⟨tb_g (tb_8 (List.mem_of_getElem? (i := 30) rfl)) rfl, tb_g (tb_8 (List.mem_of_getElem? (i := 31) rfl)) rfl, rfl, by decide +kernel⟩
theorem tl_LentNamesLaw_134_0 : iv_LV "LentNamesLaw" 134 197 2 12 := ⟨by rw [tb_y197]; exact tb_g (tb_8 (List.mem_of_getElem? (i := 29) rfl)) rfl, tb_v197.1, tb_v197.2.1, tb_v197.2.2.1, by decide, by decide, by decide, ⟨_, _, by rw [tb_y197]; rfl⟩, tb_v197.2.2.2⟩
theorem tl_LentNamesLaw_135_2 : iv_LS "LentNamesLaw" 135 284 4 := by
  unfold iv_LS
  rw [tb_y284]
  exact ⟨tb_g (tb_5 (List.mem_of_getElem? (i := 8) rfl)) rfl, tb_g (tb_5 (List.mem_of_getElem? (i := 9) rfl)) rfl, by decide +kernel⟩
theorem tb_v212 : Cond.instanceMethod (pm_y 212) ∈ iv_T ∧ Cond.selects (pm_y 212).cls (pm_y 212) (pm_y 212) ∈ iv_T ∧ pm_h 212 = [] ∧ (parseMethodDescriptor (pm_y 212).desc).map (fun d => d.parameters.length) = some 2 := by
  rw [tb_y212]
  exact ⟨tb_g (tb_8 (List.mem_of_getElem? (i := 37) rfl)) rfl, tb_g (tb_8 (List.mem_of_getElem? (i := 38) rfl)) rfl, rfl, by decide +kernel⟩
theorem tl_LentNamesLaw_138_0 : iv_LV "LentNamesLaw" 138 212 3 12 := ⟨by rw [tb_y212]; exact tb_g (tb_8 (List.mem_of_getElem? (i := 36) rfl)) rfl, tb_v212.1, tb_v212.2.1, tb_v212.2.2.1, by decide, by decide, by decide, ⟨_, _, by rw [tb_y212]; rfl⟩, tb_v212.2.2.2⟩
theorem tl_LentNamesLaw_139_2 : iv_LS "LentNamesLaw" 139 285 4 := by
  unfold iv_LS
  rw [tb_y285]
  exact ⟨tb_g (tb_5 (List.mem_of_getElem? (i := 40) rfl)) rfl, tb_g (tb_5 (List.mem_of_getElem? (i := 41) rfl)) rfl, by decide +kernel⟩
theorem tb_v214 : Cond.instanceMethod (pm_y 214) ∈ iv_T ∧ Cond.selects (pm_y 214).cls (pm_y 214) (pm_y 214) ∈ iv_T ∧ pm_h 214 = [] ∧ (parseMethodDescriptor (pm_y 214).desc).map (fun d => d.parameters.length) = some 2 := by
  rw [tb_y214]
  exact ⟨tb_g (tb_8 (List.mem_of_getElem? (i := 112) rfl)) rfl, tb_g (tb_8 (List.mem_of_getElem? (i := 113) rfl)) rfl, rfl, by decide +kernel⟩
theorem tl_LentNamesLaw_141_0 : iv_LV "LentNamesLaw" 141 214 3 12 := ⟨by rw [tb_y214]; exact tb_g (tb_8 (List.mem_of_getElem? (i := 111) rfl)) rfl, tb_v214.1, tb_v214.2.1, tb_v214.2.2.1, by decide, by decide, by decide, ⟨_, _, by rw [tb_y214]; rfl⟩, tb_v214.2.2.2⟩
theorem tl_LentNamesLaw_142_2 : iv_LS "LentNamesLaw" 142 286 4 := by
  unfold iv_LS
  rw [tb_y286]
  exact ⟨tb_g (tb_5 (List.mem_of_getElem? (i := 56) rfl)) rfl, tb_g (tb_5 (List.mem_of_getElem? (i := 57) rfl)) rfl, by decide +kernel⟩
theorem tb_v215 : Cond.instanceMethod (pm_y 215) ∈ iv_T ∧ Cond.selects (pm_y 215).cls (pm_y 215) (pm_y 215) ∈ iv_T ∧ pm_h 215 = [] ∧ (parseMethodDescriptor (pm_y 215).desc).map (fun d => d.parameters.length) = some 2 := by
  rw [tb_y215]
  exact ⟨tb_g (tb_8 (List.mem_of_getElem? (i := 120) rfl)) rfl, tb_g (tb_8 (List.mem_of_getElem? (i := 121) rfl)) rfl, rfl, by decide +kernel⟩
theorem tl_LentNamesLaw_144_0 : iv_LV "LentNamesLaw" 144 215 3 12 := ⟨by rw [tb_y215]; exact tb_g (tb_8 (List.mem_of_getElem? (i := 119) rfl)) rfl, tb_v215.1, tb_v215.2.1, tb_v215.2.2.1, by decide, by decide, by decide, ⟨_, _, by rw [tb_y215]; rfl⟩, tb_v215.2.2.2⟩
theorem tl_LentNamesLaw_145_2 : iv_LS "LentNamesLaw" 145 287 5 := by
  unfold iv_LS
  rw [tb_y287]
  exact ⟨tb_g (tb_5 (List.mem_of_getElem? (i := 67) rfl)) rfl, tb_g (tb_5 (List.mem_of_getElem? (i := 68) rfl)) rfl, by decide +kernel⟩
theorem tb_v216 : Cond.instanceMethod (pm_y 216) ∈ iv_T ∧ Cond.selects (pm_y 216).cls (pm_y 216) (pm_y 216) ∈ iv_T ∧ pm_h 216 = [] ∧ (parseMethodDescriptor (pm_y 216).desc).map (fun d => d.parameters.length) = some 3 := by
  rw [tb_y216]
  exact ⟨tb_g (tb_8 (List.mem_of_getElem? (i := 124) rfl)) rfl, tb_g (tb_8 (List.mem_of_getElem? (i := 125) rfl)) rfl, rfl, by decide +kernel⟩
theorem tl_LentNamesLaw_148_0 : iv_LV "LentNamesLaw" 148 216 4 12 := ⟨by rw [tb_y216]; exact tb_g (tb_8 (List.mem_of_getElem? (i := 123) rfl)) rfl, tb_v216.1, tb_v216.2.1, tb_v216.2.2.1, by decide, by decide, by decide, ⟨_, _, by rw [tb_y216]; rfl⟩, tb_v216.2.2.2⟩
theorem tl_LentNamesLaw_149_2 : iv_LS "LentNamesLaw" 149 288 3 := by
  unfold iv_LS
  rw [tb_y288]
  exact ⟨tb_g (tb_5 (List.mem_of_getElem? (i := 78) rfl)) rfl, tb_g (tb_5 (List.mem_of_getElem? (i := 79) rfl)) rfl, by decide +kernel⟩
theorem tb_v219 : Cond.instanceMethod (pm_y 219) ∈ iv_T ∧ Cond.selects (pm_y 219).cls (pm_y 219) (pm_y 219) ∈ iv_T ∧ pm_h 219 = [] ∧ (parseMethodDescriptor (pm_y 219).desc).map (fun d => d.parameters.length) = some 1 := by
  rw [tb_y219]
  exact ⟨tb_g (tb_8 (List.mem_of_getElem? (i := 128) rfl)) rfl, tb_g (tb_8 (List.mem_of_getElem? (i := 129) rfl)) rfl, rfl, by decide +kernel⟩
theorem tl_LentNamesLaw_152_0 : iv_LV "LentNamesLaw" 152 219 2 12 := ⟨by rw [tb_y219]; exact tb_g (tb_8 (List.mem_of_getElem? (i := 127) rfl)) rfl, tb_v219.1, tb_v219.2.1, tb_v219.2.2.1, by decide, by decide, by decide, ⟨_, _, by rw [tb_y219]; rfl⟩, tb_v219.2.2.2⟩
theorem tl_LentNamesLaw_153_2 : iv_LS "LentNamesLaw" 153 289 3 := by
  unfold iv_LS
  rw [tb_y289]
  exact ⟨tb_g (tb_5 (List.mem_of_getElem? (i := 89) rfl)) rfl, tb_g (tb_5 (List.mem_of_getElem? (i := 90) rfl)) rfl, by decide +kernel⟩
theorem tb_v220 : Cond.instanceMethod (pm_y 220) ∈ iv_T ∧ Cond.selects (pm_y 220).cls (pm_y 220) (pm_y 220) ∈ iv_T ∧ pm_h 220 = [] ∧ (parseMethodDescriptor (pm_y 220).desc).map (fun d => d.parameters.length) = some 1 := by
  rw [tb_y220]
  exact ⟨tb_g (tb_8 (List.mem_of_getElem? (i := 140) rfl)) rfl, tb_g (tb_8 (List.mem_of_getElem? (i := 141) rfl)) rfl, rfl, by decide +kernel⟩
theorem tl_LentNamesLaw_155_0 : iv_LV "LentNamesLaw" 155 220 2 12 := ⟨by rw [tb_y220]; exact tb_g (tb_8 (List.mem_of_getElem? (i := 139) rfl)) rfl, tb_v220.1, tb_v220.2.1, tb_v220.2.2.1, by decide, by decide, by decide, ⟨_, _, by rw [tb_y220]; rfl⟩, tb_v220.2.2.2⟩
theorem tl_LentNamesLaw_156_2 : iv_LS "LentNamesLaw" 156 290 4 := by
  unfold iv_LS
  rw [tb_y290]
  exact ⟨tb_g (tb_5 (List.mem_of_getElem? (i := 99) rfl)) rfl, tb_g (tb_5 (List.mem_of_getElem? (i := 100) rfl)) rfl, by decide +kernel⟩
theorem tb_v221 : Cond.instanceMethod (pm_y 221) ∈ iv_T ∧ Cond.selects (pm_y 221).cls (pm_y 221) (pm_y 221) ∈ iv_T ∧ pm_h 221 = [] ∧ (parseMethodDescriptor (pm_y 221).desc).map (fun d => d.parameters.length) = some 2 := by
  rw [tb_y221]
  exact ⟨tb_g (tb_8 (List.mem_of_getElem? (i := 145) rfl)) rfl, tb_g (tb_8 (List.mem_of_getElem? (i := 146) rfl)) rfl, rfl, by decide +kernel⟩
theorem tl_LentNamesLaw_158_0 : iv_LV "LentNamesLaw" 158 221 3 12 := ⟨by rw [tb_y221]; exact tb_g (tb_8 (List.mem_of_getElem? (i := 144) rfl)) rfl, tb_v221.1, tb_v221.2.1, tb_v221.2.2.1, by decide, by decide, by decide, ⟨_, _, by rw [tb_y221]; rfl⟩, tb_v221.2.2.2⟩
theorem tl_LentNamesLaw_159_2 : iv_LS "LentNamesLaw" 159 291 4 := by
  unfold iv_LS
  rw [tb_y291]
  exact ⟨tb_g (tb_5 (List.mem_of_getElem? (i := 107) rfl)) rfl, tb_g (tb_5 (List.mem_of_getElem? (i := 108) rfl)) rfl, by decide +kernel⟩
theorem tb_v223 : Cond.instanceMethod (pm_y 223) ∈ iv_T ∧ Cond.selects (pm_y 223).cls (pm_y 223) (pm_y 223) ∈ iv_T ∧ pm_h 223 = [] ∧ (parseMethodDescriptor (pm_y 223).desc).map (fun d => d.parameters.length) = some 2 := by
  rw [tb_y223]
  exact ⟨tb_g (tb_8 (List.mem_of_getElem? (i := 149) rfl)) rfl, tb_g (tb_8 (List.mem_of_getElem? (i := 150) rfl)) rfl, rfl, by decide +kernel⟩
theorem tl_LentNamesLaw_161_0 : iv_LV "LentNamesLaw" 161 223 3 12 := ⟨by rw [tb_y223]; exact tb_g (tb_8 (List.mem_of_getElem? (i := 148) rfl)) rfl, tb_v223.1, tb_v223.2.1, tb_v223.2.2.1, by decide, by decide, by decide, ⟨_, _, by rw [tb_y223]; rfl⟩, tb_v223.2.2.2⟩
theorem tl_LentNamesLaw_162_2 : iv_LS "LentNamesLaw" 162 292 4 := by
  unfold iv_LS
  rw [tb_y292]
  exact ⟨tb_g (tb_5 (List.mem_of_getElem? (i := 136) rfl)) rfl, tb_g (tb_5 (List.mem_of_getElem? (i := 137) rfl)) rfl, by decide +kernel⟩
theorem tb_v224 : Cond.instanceMethod (pm_y 224) ∈ iv_T ∧ Cond.selects (pm_y 224).cls (pm_y 224) (pm_y 224) ∈ iv_T ∧ pm_h 224 = [] ∧ (parseMethodDescriptor (pm_y 224).desc).map (fun d => d.parameters.length) = some 2 := by
  rw [tb_y224]
  exact ⟨tb_g (tb_8 (List.mem_of_getElem? (i := 157) rfl)) rfl, tb_g (tb_8 (List.mem_of_getElem? (i := 158) rfl)) rfl, rfl, by decide +kernel⟩
theorem tl_LentNamesLaw_165_0 : iv_LV "LentNamesLaw" 165 224 3 12 := ⟨by rw [tb_y224]; exact tb_g (tb_8 (List.mem_of_getElem? (i := 156) rfl)) rfl, tb_v224.1, tb_v224.2.1, tb_v224.2.2.1, by decide, by decide, by decide, ⟨_, _, by rw [tb_y224]; rfl⟩, tb_v224.2.2.2⟩
theorem tl_LentNamesLaw_166_2 : iv_LS "LentNamesLaw" 166 293 4 := by
  unfold iv_LS
  rw [tb_y293]
  exact ⟨tb_g (tb_5 (List.mem_of_getElem? (i := 143) rfl)) rfl, tb_g (tb_5 (List.mem_of_getElem? (i := 144) rfl)) rfl, by decide +kernel⟩
theorem tb_v226 : Cond.instanceMethod (pm_y 226) ∈ iv_T ∧ Cond.selects (pm_y 226).cls (pm_y 226) (pm_y 226) ∈ iv_T ∧ pm_h 226 = [] ∧ (parseMethodDescriptor (pm_y 226).desc).map (fun d => d.parameters.length) = some 2 := by
  rw [tb_y226]
  exact ⟨tb_g (tb_8 (List.mem_of_getElem? (i := 161) rfl)) rfl, tb_g (tb_8 (List.mem_of_getElem? (i := 162) rfl)) rfl, rfl, by decide +kernel⟩
theorem tl_LentNamesLaw_168_0 : iv_LV "LentNamesLaw" 168 226 3 12 := ⟨by rw [tb_y226]; exact tb_g (tb_8 (List.mem_of_getElem? (i := 160) rfl)) rfl, tb_v226.1, tb_v226.2.1, tb_v226.2.2.1, by decide, by decide, by decide, ⟨_, _, by rw [tb_y226]; rfl⟩, tb_v226.2.2.2⟩
theorem tl_LentNamesLaw_169_2 : iv_LS "LentNamesLaw" 169 294 3 := by
  unfold iv_LS
  rw [tb_y294]
  exact ⟨tb_g (tb_5 (List.mem_of_getElem? (i := 158) rfl)) rfl, tb_g (tb_5 (List.mem_of_getElem? (i := 159) rfl)) rfl, by decide +kernel⟩
theorem tb_v229 : Cond.instanceMethod (pm_y 229) ∈ iv_T ∧ Cond.selects (pm_y 229).cls (pm_y 229) (pm_y 229) ∈ iv_T ∧ pm_h 229 = [] ∧ (parseMethodDescriptor (pm_y 229).desc).map (fun d => d.parameters.length) = some 1 := by
  rw [tb_y229]
  exact ⟨tb_g (tb_8 (List.mem_of_getElem? (i := 173) rfl)) rfl, tb_g (tb_8 (List.mem_of_getElem? (i := 174) rfl)) rfl, rfl, by decide +kernel⟩
theorem tl_LentNamesLaw_171_0 : iv_LV "LentNamesLaw" 171 229 2 12 := ⟨by rw [tb_y229]; exact tb_g (tb_8 (List.mem_of_getElem? (i := 172) rfl)) rfl, tb_v229.1, tb_v229.2.1, tb_v229.2.2.1, by decide, by decide, by decide, ⟨_, _, by rw [tb_y229]; rfl⟩, tb_v229.2.2.2⟩
theorem tl_LentNamesLaw_172_2 : iv_LS "LentNamesLaw" 172 295 3 := by
  unfold iv_LS
  rw [tb_y295]
  exact ⟨tb_g (tb_5 (List.mem_of_getElem? (i := 166) rfl)) rfl, tb_g (tb_5 (List.mem_of_getElem? (i := 167) rfl)) rfl, by decide +kernel⟩
theorem tb_v230 : Cond.instanceMethod (pm_y 230) ∈ iv_T ∧ Cond.selects (pm_y 230).cls (pm_y 230) (pm_y 230) ∈ iv_T ∧ pm_h 230 = [] ∧ (parseMethodDescriptor (pm_y 230).desc).map (fun d => d.parameters.length) = some 1 := by
  rw [tb_y230]
  exact ⟨tb_g (tb_8 (List.mem_of_getElem? (i := 189) rfl)) rfl, tb_g (tb_8 (List.mem_of_getElem? (i := 190) rfl)) rfl, rfl, by decide +kernel⟩
theorem tl_LentNamesLaw_174_0 : iv_LV "LentNamesLaw" 174 230 2 12 := ⟨by rw [tb_y230]; exact tb_g (tb_8 (List.mem_of_getElem? (i := 188) rfl)) rfl, tb_v230.1, tb_v230.2.1, tb_v230.2.2.1, by decide, by decide, by decide, ⟨_, _, by rw [tb_y230]; rfl⟩, tb_v230.2.2.2⟩
theorem tl_LentNamesLaw_175_2 : iv_LS "LentNamesLaw" 175 296 2 := by
  unfold iv_LS
  rw [tb_y296]
  exact ⟨tb_g (tb_5 (List.mem_of_getElem? (i := 173) rfl)) rfl, tb_g (tb_5 (List.mem_of_getElem? (i := 174) rfl)) rfl, by decide +kernel⟩
theorem tb_v196 : Cond.instanceMethod (pm_y 196) ∈ iv_T ∧ Cond.selects (pm_y 196).cls (pm_y 196) (pm_y 196) ∈ iv_T ∧ pm_h 196 = [] ∧ (parseMethodDescriptor (pm_y 196).desc).map (fun d => d.parameters.length) = some 0 := by
  rw [tb_y196]
  exact ⟨tb_g (tb_8 (List.mem_of_getElem? (i := 26) rfl)) rfl, tb_g (tb_8 (List.mem_of_getElem? (i := 27) rfl)) rfl, rfl, by decide +kernel⟩
theorem tl_LentNamesLaw_177_0 : iv_LV "LentNamesLaw" 177 196 1 12 := ⟨by rw [tb_y196]; exact tb_g (tb_8 (List.mem_of_getElem? (i := 25) rfl)) rfl, tb_v196.1, tb_v196.2.1, tb_v196.2.2.1, by decide, by decide, by decide, ⟨_, _, by rw [tb_y196]; rfl⟩, tb_v196.2.2.2⟩
theorem tl_LentNamesLaw_178_2 : iv_LS "LentNamesLaw" 178 297 4 := by
  unfold iv_LS
  rw [tb_y297]
  exact ⟨tb_g (tb_6 (List.mem_of_getElem? (i := 1) rfl)) rfl, tb_g (tb_6 (List.mem_of_getElem? (i := 2) rfl)) rfl, by decide +kernel⟩
theorem tb_v231 : Cond.instanceMethod (pm_y 231) ∈ iv_T ∧ Cond.selects (pm_y 231).cls (pm_y 231) (pm_y 231) ∈ iv_T ∧ pm_h 231 = [] ∧ (parseMethodDescriptor (pm_y 231).desc).map (fun d => d.parameters.length) = some 2 := by
  rw [tb_y231]
  exact ⟨tb_g (tb_8 (List.mem_of_getElem? (i := 193) rfl)) rfl, tb_g (tb_8 (List.mem_of_getElem? (i := 194) rfl)) rfl, rfl, by decide +kernel⟩
theorem tl_LentNamesLaw_180_0 : iv_LV "LentNamesLaw" 180 231 3 12 := ⟨by rw [tb_y231]; exact tb_g (tb_8 (List.mem_of_getElem? (i := 192) rfl)) rfl, tb_v231.1, tb_v231.2.1, tb_v231.2.2.1, by decide, by decide, by decide, ⟨_, _, by rw [tb_y231]; rfl⟩, tb_v231.2.2.2⟩
theorem tl_LentNamesLaw_181_2 : iv_LS "LentNamesLaw" 181 298 3 := by
  unfold iv_LS
  rw [tb_y298]
  exact ⟨tb_g (tb_6 (List.mem_of_getElem? (i := 9) rfl)) rfl, tb_g (tb_6 (List.mem_of_getElem? (i := 10) rfl)) rfl, by decide +kernel⟩
theorem tb_v233 : Cond.instanceMethod (pm_y 233) ∈ iv_T ∧ Cond.selects (pm_y 233).cls (pm_y 233) (pm_y 233) ∈ iv_T ∧ pm_h 233 = [] ∧ (parseMethodDescriptor (pm_y 233).desc).map (fun d => d.parameters.length) = some 1 := by
  rw [tb_y233]
  exact ⟨tb_g (tb_8 (List.mem_of_getElem? (i := 197) rfl)) rfl, tb_g (tb_8 (List.mem_of_getElem? (i := 198) rfl)) rfl, rfl, by decide +kernel⟩
theorem tl_LentNamesLaw_183_0 : iv_LV "LentNamesLaw" 183 233 2 12 := ⟨by rw [tb_y233]; exact tb_g (tb_8 (List.mem_of_getElem? (i := 196) rfl)) rfl, tb_v233.1, tb_v233.2.1, tb_v233.2.2.1, by decide, by decide, by decide, ⟨_, _, by rw [tb_y233]; rfl⟩, tb_v233.2.2.2⟩
theorem tb_v132 : Cond.instanceMethod (pm_y 132) ∈ iv_T ∧ Cond.selects (pm_y 132).cls (pm_y 132) (pm_y 132) ∈ iv_T ∧ pm_h 132 = [] ∧ (parseMethodDescriptor (pm_y 132).desc).map (fun d => d.parameters.length) = some 0 := by
  rw [tb_y132]
  exact ⟨tb_g (tb_3 (List.mem_of_getElem? (i := 112) rfl)) rfl, tb_g (tb_3 (List.mem_of_getElem? (i := 113) rfl)) rfl, rfl, by decide +kernel⟩
theorem tl_LentNamesLaw_184_0 : iv_LV "LentNamesLaw" 184 132 1 11 := ⟨by rw [tb_y132]; exact tb_g (tb_3 (List.mem_of_getElem? (i := 111) rfl)) rfl, tb_v132.1, tb_v132.2.1, tb_v132.2.2.1, by decide, by decide, by decide, ⟨_, _, by rw [tb_y132]; rfl⟩, tb_v132.2.2.2⟩
theorem tb_v234 : Cond.instanceMethod (pm_y 234) ∈ iv_T ∧ Cond.selects (pm_y 234).cls (pm_y 234) (pm_y 234) ∈ iv_T ∧ pm_h 234 = [] ∧ (parseMethodDescriptor (pm_y 234).desc).map (fun d => d.parameters.length) = some 0 := by
  rw [tb_y234]
  exact ⟨tb_g (tb_8 (List.mem_of_getElem? (i := 205) rfl)) rfl, tb_g (tb_8 (List.mem_of_getElem? (i := 206) rfl)) rfl, rfl, by decide +kernel⟩
theorem tl_LentNamesLaw_187_0 : iv_LV "LentNamesLaw" 187 234 1 12 := ⟨by rw [tb_y234]; exact tb_g (tb_8 (List.mem_of_getElem? (i := 204) rfl)) rfl, tb_v234.1, tb_v234.2.1, tb_v234.2.2.1, by decide, by decide, by decide, ⟨_, _, by rw [tb_y234]; rfl⟩, tb_v234.2.2.2⟩
theorem tl_LentNamesLaw_188_2 : iv_LS "LentNamesLaw" 188 299 3 := by
  unfold iv_LS
  rw [tb_y299]
  exact ⟨tb_g (tb_6 (List.mem_of_getElem? (i := 16) rfl)) rfl, tb_g (tb_6 (List.mem_of_getElem? (i := 17) rfl)) rfl, by decide +kernel⟩
theorem tb_v235 : Cond.instanceMethod (pm_y 235) ∈ iv_T ∧ Cond.selects (pm_y 235).cls (pm_y 235) (pm_y 235) ∈ iv_T ∧ pm_h 235 = [] ∧ (parseMethodDescriptor (pm_y 235).desc).map (fun d => d.parameters.length) = some 1 := by
  rw [tb_y235]
  exact ⟨tb_g (tb_8 (List.mem_of_getElem? (i := 209) rfl)) rfl, tb_g (tb_8 (List.mem_of_getElem? (i := 210) rfl)) rfl, rfl, by decide +kernel⟩
theorem tl_LentNamesLaw_190_0 : iv_LV "LentNamesLaw" 190 235 2 12 := ⟨by rw [tb_y235]; exact tb_g (tb_8 (List.mem_of_getElem? (i := 208) rfl)) rfl, tb_v235.1, tb_v235.2.1, tb_v235.2.2.1, by decide, by decide, by decide, ⟨_, _, by rw [tb_y235]; rfl⟩, tb_v235.2.2.2⟩
theorem tl_LentNamesLaw_191_2 : iv_LS "LentNamesLaw" 191 300 4 := by
  unfold iv_LS
  rw [tb_y300]
  exact ⟨tb_g (tb_6 (List.mem_of_getElem? (i := 23) rfl)) rfl, tb_g (tb_6 (List.mem_of_getElem? (i := 24) rfl)) rfl, by decide +kernel⟩
theorem tb_v237 : Cond.instanceMethod (pm_y 237) ∈ iv_T ∧ Cond.selects (pm_y 237).cls (pm_y 237) (pm_y 237) ∈ iv_T ∧ pm_h 237 = [] ∧ (parseMethodDescriptor (pm_y 237).desc).map (fun d => d.parameters.length) = some 2 := by
  rw [tb_y237]
  exact ⟨tb_g (tb_8 (List.mem_of_getElem? (i := 213) rfl)) rfl, tb_g (tb_8 (List.mem_of_getElem? (i := 214) rfl)) rfl, rfl, by decide +kernel⟩
theorem tl_LentNamesLaw_193_0 : iv_LV "LentNamesLaw" 193 237 3 12 := ⟨by rw [tb_y237]; exact tb_g (tb_8 (List.mem_of_getElem? (i := 212) rfl)) rfl, tb_v237.1, tb_v237.2.1, tb_v237.2.2.1, by decide, by decide, by decide, ⟨_, _, by rw [tb_y237]; rfl⟩, tb_v237.2.2.2⟩
theorem tb_v121 : Cond.instanceMethod (pm_y 121) ∈ iv_T ∧ Cond.selects (pm_y 121).cls (pm_y 121) (pm_y 121) ∈ iv_T ∧ pm_h 121 = [] ∧ (parseMethodDescriptor (pm_y 121).desc).map (fun d => d.parameters.length) = some 0 := by
  rw [tb_y121]
  exact ⟨tb_g (tb_3 (List.mem_of_getElem? (i := 90) rfl)) rfl, tb_g (tb_3 (List.mem_of_getElem? (i := 91) rfl)) rfl, rfl, by decide +kernel⟩
theorem tl_LentNamesLaw_194_0 : iv_LV "LentNamesLaw" 194 121 1 11 := ⟨by rw [tb_y121]; exact tb_g (tb_3 (List.mem_of_getElem? (i := 89) rfl)) rfl, tb_v121.1, tb_v121.2.1, tb_v121.2.2.1, by decide, by decide, by decide, ⟨_, _, by rw [tb_y121]; rfl⟩, tb_v121.2.2.2⟩
theorem tb_v238 : Cond.instanceMethod (pm_y 238) ∈ iv_T ∧ Cond.selects (pm_y 238).cls (pm_y 238) (pm_y 238) ∈ iv_T ∧ pm_h 238 = [] ∧ (parseMethodDescriptor (pm_y 238).desc).map (fun d => d.parameters.length) = some 0 := by
  rw [tb_y238]
  exact ⟨tb_g (tb_8 (List.mem_of_getElem? (i := 221) rfl)) rfl, tb_g (tb_8 (List.mem_of_getElem? (i := 222) rfl)) rfl, rfl, by decide +kernel⟩
theorem tl_LentNamesLaw_197_0 : iv_LV "LentNamesLaw" 197 238 1 12 := ⟨by rw [tb_y238]; exact tb_g (tb_8 (List.mem_of_getElem? (i := 220) rfl)) rfl, tb_v238.1, tb_v238.2.1, tb_v238.2.2.1, by decide, by decide, by decide, ⟨_, _, by rw [tb_y238]; rfl⟩, tb_v238.2.2.2⟩
theorem tl_LentNamesLaw_198_2 : iv_LS "LentNamesLaw" 198 301 4 := by
  unfold iv_LS
  rw [tb_y301]
  exact ⟨tb_g (tb_6 (List.mem_of_getElem? (i := 31) rfl)) rfl, tb_g (tb_6 (List.mem_of_getElem? (i := 32) rfl)) rfl, by decide +kernel⟩
theorem tb_v261 : Cond.instanceMethod (pm_y 261) ∈ iv_T ∧ Cond.selects (pm_y 261).cls (pm_y 261) (pm_y 261) ∈ iv_T ∧ pm_h 261 = [] ∧ (parseMethodDescriptor (pm_y 261).desc).map (fun d => d.parameters.length) = some 2 := by
  rw [tb_y261]
  exact ⟨tb_g (tb_8 (List.mem_of_getElem? (i := 238) rfl)) rfl, tb_g (tb_8 (List.mem_of_getElem? (i := 239) rfl)) rfl, rfl, by decide +kernel⟩
theorem tl_LentNamesLaw_200_0 : iv_LV "LentNamesLaw" 200 261 3 12 := ⟨by rw [tb_y261]; exact tb_g (tb_8 (List.mem_of_getElem? (i := 237) rfl)) rfl, tb_v261.1, tb_v261.2.1, tb_v261.2.2.1, by decide, by decide, by decide, ⟨_, _, by rw [tb_y261]; rfl⟩, tb_v261.2.2.2⟩
theorem tb_v126 : Cond.instanceMethod (pm_y 126) ∈ iv_T ∧ Cond.selects (pm_y 126).cls (pm_y 126) (pm_y 126) ∈ iv_T ∧ pm_h 126 = [] ∧ (parseMethodDescriptor (pm_y 126).desc).map (fun d => d.parameters.length) = some 0 := by
  rw [tb_y126]
  exact ⟨tb_g (tb_3 (List.mem_of_getElem? (i := 106) rfl)) rfl, tb_g (tb_3 (List.mem_of_getElem? (i := 107) rfl)) rfl, rfl, by decide +kernel⟩
theorem tl_LentNamesLaw_201_0 : iv_LV "LentNamesLaw" 201 126 1 11 := ⟨by rw [tb_y126]; exact tb_g (tb_3 (List.mem_of_getElem? (i := 105) rfl)) rfl, tb_v126.1, tb_v126.2.1, tb_v126.2.2.1, by decide, by decide, by decide, ⟨_, _, by rw [tb_y126]; rfl⟩, tb_v126.2.2.2⟩
theorem tb_v262 : Cond.instanceMethod (pm_y 262) ∈ iv_T ∧ Cond.selects (pm_y 262).cls (pm_y 262) (pm_y 262) ∈ iv_T ∧ pm_h 262 = [] ∧ (parseMethodDescriptor (pm_y 262).desc).map (fun d => d.parameters.length) = some 0 := by
  rw [tb_y262]
  exact ⟨tb_g (tb_9 (List.mem_of_getElem? (i := 2) rfl)) rfl, tb_g (tb_9 (List.mem_of_getElem? (i := 3) rfl)) rfl, rfl, by decide +kernel⟩
theorem tl_LentNamesLaw_204_0 : iv_LV "LentNamesLaw" 204 262 1 12 := ⟨by rw [tb_y262]; exact tb_g (tb_9 (List.mem_of_getElem? (i := 1) rfl)) rfl, tb_v262.1, tb_v262.2.1, tb_v262.2.2.1, by decide, by decide, by decide, ⟨_, _, by rw [tb_y262]; rfl⟩, tb_v262.2.2.2⟩
theorem tl_LentNamesLaw_205_2 : iv_LS "LentNamesLaw" 205 302 4 := by
  unfold iv_LS
  rw [tb_y302]
  exact ⟨tb_g (tb_6 (List.mem_of_getElem? (i := 39) rfl)) rfl, tb_g (tb_6 (List.mem_of_getElem? (i := 40) rfl)) rfl, by decide +kernel⟩
theorem tb_v263 : Cond.instanceMethod (pm_y 263) ∈ iv_T ∧ Cond.selects (pm_y 263).cls (pm_y 263) (pm_y 263) ∈ iv_T ∧ pm_h 263 = [] ∧ (parseMethodDescriptor (pm_y 263).desc).map (fun d => d.parameters.length) = some 2 := by
  rw [tb_y263]
  exact ⟨tb_g (tb_9 (List.mem_of_getElem? (i := 14) rfl)) rfl, tb_g (tb_9 (List.mem_of_getElem? (i := 15) rfl)) rfl, rfl, by decide +kernel⟩
theorem tl_LentNamesLaw_207_0 : iv_LV "LentNamesLaw" 207 263 3 12 := ⟨by rw [tb_y263]; exact tb_g (tb_9 (List.mem_of_getElem? (i := 13) rfl)) rfl, tb_v263.1, tb_v263.2.1, tb_v263.2.2.1, by decide, by decide, by decide, ⟨_, _, by rw [tb_y263]; rfl⟩, tb_v263.2.2.2⟩
theorem tl_LentNamesLaw_208_0 : iv_LV "LentNamesLaw" 208 134 1 11 := ⟨by rw [tb_y134]; exact tb_g (tb_3 (List.mem_of_getElem? (i := 131) rfl)) rfl, tb_v134.1, tb_v134.2.1, tb_v134.2.2.1, by decide, by decide, by decide, ⟨_, _, by rw [tb_y134]; rfl⟩, tb_v134.2.2.2⟩
theorem tb_v264 : Cond.instanceMethod (pm_y 264) ∈ iv_T ∧ Cond.selects (pm_y 264).cls (pm_y 264) (pm_y 264) ∈ iv_T ∧ pm_h 264 = [] ∧ (parseMethodDescriptor (pm_y 264).desc).map (fun d => d.parameters.length) = some 0 := by
  rw [tb_y264]
  exact ⟨tb_g (tb_9 (List.mem_of_getElem? (i := 85) rfl)) rfl, tb_g (tb_9 (List.mem_of_getElem? (i := 86) rfl)) rfl, rfl, by decide +kernel⟩
theorem tl_LentNamesLaw_211_0 : iv_LV "LentNamesLaw" 211 264 1 12 := ⟨by rw [tb_y264]; exact tb_g (tb_9 (List.mem_of_getElem? (i := 84) rfl)) rfl, tb_v264.1, tb_v264.2.1, tb_v264.2.2.1, by decide, by decide, by decide, ⟨_, _, by rw [tb_y264]; rfl⟩, tb_v264.2.2.2⟩
theorem tl_LentNamesLaw_212_2 : iv_LS "LentNamesLaw" 212 303 3 := by
  unfold iv_LS
  rw [tb_y303]
  exact ⟨tb_g (tb_6 (List.mem_of_getElem? (i := 164) rfl)) rfl, tb_g (tb_6 (List.mem_of_getElem? (i := 165) rfl)) rfl, by decide +kernel⟩
theorem tb_v265 : Cond.instanceMethod (pm_y 265) ∈ iv_T ∧ Cond.selects (pm_y 265).cls (pm_y 265) (pm_y 265) ∈ iv_T ∧ pm_h 265 = [] ∧ (parseMethodDescriptor (pm_y 265).desc).map (fun d => d.parameters.length) = some 1 := by
  rw [tb_y265]
  exact ⟨tb_g (tb_9 (List.mem_of_getElem? (i := 89) rfl)) rfl, tb_g (tb_9 (List.mem_of_getElem? (i := 90) rfl)) rfl, rfl, by decide +kernel⟩
theorem tl_LentNamesLaw_214_0 : iv_LV "LentNamesLaw" 214 265 2 12 := ⟨by rw [tb_y265]; exact tb_g (tb_9 (List.mem_of_getElem? (i := 88) rfl)) rfl, tb_v265.1, tb_v265.2.1, tb_v265.2.2.1, by decide, by decide, by decide, ⟨_, _, by rw [tb_y265]; rfl⟩, tb_v265.2.2.2⟩
theorem tl_LentNamesLaw_215_2 : iv_LS "LentNamesLaw" 215 304 4 := by
  unfold iv_LS
  rw [tb_y304]
  exact ⟨tb_g (tb_6 (List.mem_of_getElem? (i := 171) rfl)) rfl, tb_g (tb_6 (List.mem_of_getElem? (i := 172) rfl)) rfl, by decide +kernel⟩
theorem tb_v266 : Cond.instanceMethod (pm_y 266) ∈ iv_T ∧ Cond.selects (pm_y 266).cls (pm_y 266) (pm_y 266) ∈ iv_T ∧ pm_h 266 = [] ∧ (parseMethodDescriptor (pm_y 266).desc).map (fun d => d.parameters.length) = some 2 := by
  rw [tb_y266]
  exact ⟨tb_g (tb_9 (List.mem_of_getElem? (i := 93) rfl)) rfl, tb_g (tb_9 (List.mem_of_getElem? (i := 94) rfl)) rfl, rfl, by decide +kernel⟩
theorem tl_LentNamesLaw_217_0 : iv_LV "LentNamesLaw" 217 266 3 12 := ⟨by rw [tb_y266]; exact tb_g (tb_9 (List.mem_of_getElem? (i := 92) rfl)) rfl, tb_v266.1, tb_v266.2.1, tb_v266.2.2.1, by decide, by decide, by decide, ⟨_, _, by rw [tb_y266]; rfl⟩, tb_v266.2.2.2⟩
theorem tl_LentNamesLaw_218_2 : iv_LS "LentNamesLaw" 218 305 3 := by
  unfold iv_LS
  rw [tb_y305]
  exact ⟨tb_g (tb_6 (List.mem_of_getElem? (i := 185) rfl)) rfl, tb_g (tb_6 (List.mem_of_getElem? (i := 186) rfl)) rfl, by decide +kernel⟩
theorem tb_v267 : Cond.instanceMethod (pm_y 267) ∈ iv_T ∧ Cond.selects (pm_y 267).cls (pm_y 267) (pm_y 267) ∈ iv_T ∧ pm_h 267 = [] ∧ (parseMethodDescriptor (pm_y 267).desc).map (fun d => d.parameters.length) = some 1 := by
  rw [tb_y267]
  exact ⟨tb_g (tb_9 (List.mem_of_getElem? (i := 97) rfl)) rfl, tb_g (tb_9 (List.mem_of_getElem? (i := 98) rfl)) rfl, rfl, by decide +kernel⟩
theorem tl_LentNamesLaw_220_0 : iv_LV "LentNamesLaw" 220 267 2 12 := ⟨by rw [tb_y267]; exact tb_g (tb_9 (List.mem_of_getElem? (i := 96) rfl)) rfl, tb_v267.1, tb_v267.2.1, tb_v267.2.2.1, by decide, by decide, by decide, ⟨_, _, by rw [tb_y267]; rfl⟩, tb_v267.2.2.2⟩
theorem tl_LentNamesLaw_221_2 : iv_LS "LentNamesLaw" 221 306 3 := by
  unfold iv_LS
  rw [tb_y306]
  exact ⟨tb_g (tb_6 (List.mem_of_getElem? (i := 194) rfl)) rfl, tb_g (tb_6 (List.mem_of_getElem? (i := 195) rfl)) rfl, by decide +kernel⟩
theorem tb_v239 : Cond.instanceMethod (pm_y 239) ∈ iv_T ∧ Cond.selects (pm_y 239).cls (pm_y 239) (pm_y 239) ∈ iv_T ∧ pm_h 239 = [] ∧ (parseMethodDescriptor (pm_y 239).desc).map (fun d => d.parameters.length) = some 1 := by
  rw [tb_y239]
  exact ⟨tb_g (tb_8 (List.mem_of_getElem? (i := 225) rfl)) rfl, tb_g (tb_8 (List.mem_of_getElem? (i := 226) rfl)) rfl, rfl, by decide +kernel⟩
theorem tl_LentNamesLaw_223_0 : iv_LV "LentNamesLaw" 223 239 2 12 := ⟨by rw [tb_y239]; exact tb_g (tb_8 (List.mem_of_getElem? (i := 224) rfl)) rfl, tb_v239.1, tb_v239.2.1, tb_v239.2.2.1, by decide, by decide, by decide, ⟨_, _, by rw [tb_y239]; rfl⟩, tb_v239.2.2.2⟩
theorem tl_LentNamesLaw_224_2 : iv_LS "LentNamesLaw" 224 307 4 := by
  unfold iv_LS
  rw [tb_y307]
  exact ⟨tb_g (tb_6 (List.mem_of_getElem? (i := 201) rfl)) rfl, tb_g (tb_6 (List.mem_of_getElem? (i := 202) rfl)) rfl, by decide +kernel⟩
theorem tb_v240 : Cond.instanceMethod (pm_y 240) ∈ iv_T ∧ Cond.selects (pm_y 240).cls (pm_y 240) (pm_y 240) ∈ iv_T ∧ pm_h 240 = [] ∧ (parseMethodDescriptor (pm_y 240).desc).map (fun d => d.parameters.length) = some 2 := by
  rw [tb_y240]
  exact ⟨tb_g (tb_8 (List.mem_of_getElem? (i := 230) rfl)) rfl, tb_g (tb_8 (List.mem_of_getElem? (i := 231) rfl)) rfl, rfl, by decide +kernel⟩
theorem tl_LentNamesLaw_226_0 : iv_LV "LentNamesLaw" 226 240 3 12 := ⟨by rw [tb_y240]; exact tb_g (tb_8 (List.mem_of_getElem? (i := 229) rfl)) rfl, tb_v240.1, tb_v240.2.1, tb_v240.2.2.1, by decide, by decide, by decide, ⟨_, _, by rw [tb_y240]; rfl⟩, tb_v240.2.2.2⟩
theorem tl_LentNamesLaw_227_2 : iv_LS "LentNamesLaw" 227 308 4 := by
  unfold iv_LS
  rw [tb_y308]
  exact ⟨tb_g (tb_6 (List.mem_of_getElem? (i := 208) rfl)) rfl, tb_g (tb_6 (List.mem_of_getElem? (i := 209) rfl)) rfl, by decide +kernel⟩
theorem tb_v241 : Cond.instanceMethod (pm_y 241) ∈ iv_T ∧ Cond.selects (pm_y 241).cls (pm_y 241) (pm_y 241) ∈ iv_T ∧ pm_h 241 = [] ∧ (parseMethodDescriptor (pm_y 241).desc).map (fun d => d.parameters.length) = some 2 := by
  rw [tb_y241]
  exact ⟨tb_g (tb_8 (List.mem_of_getElem? (i := 234) rfl)) rfl, tb_g (tb_8 (List.mem_of_getElem? (i := 235) rfl)) rfl, rfl, by decide +kernel⟩
theorem tl_LentNamesLaw_229_0 : iv_LV "LentNamesLaw" 229 241 3 12 := ⟨by rw [tb_y241]; exact tb_g (tb_8 (List.mem_of_getElem? (i := 233) rfl)) rfl, tb_v241.1, tb_v241.2.1, tb_v241.2.2.1, by decide, by decide, by decide, ⟨_, _, by rw [tb_y241]; rfl⟩, tb_v241.2.2.2⟩
theorem tb_v138 : Cond.instanceMethod (pm_y 138) ∈ iv_T ∧ Cond.selects (pm_y 138).cls (pm_y 138) (pm_y 138) ∈ iv_T ∧ pm_h 138 = [] ∧ (parseMethodDescriptor (pm_y 138).desc).map (fun d => d.parameters.length) = some 0 := by
  rw [tb_y138]
  exact ⟨tb_g (tb_3 (List.mem_of_getElem? (i := 140) rfl)) rfl, tb_g (tb_3 (List.mem_of_getElem? (i := 141) rfl)) rfl, rfl, by decide +kernel⟩
theorem tl_LentNamesLaw_230_0 : iv_LV "LentNamesLaw" 230 138 1 11 := ⟨by rw [tb_y138]; exact tb_g (tb_3 (List.mem_of_getElem? (i := 139) rfl)) rfl, tb_v138.1, tb_v138.2.1, tb_v138.2.2.1, by decide, by decide, by decide, ⟨_, _, by rw [tb_y138]; rfl⟩, tb_v138.2.2.2⟩
theorem tb_v155 : Cond.instanceMethod (pm_y 155) ∈ iv_T ∧ Cond.selects (pm_y 155).cls (pm_y 155) (pm_y 155) ∈ iv_T ∧ pm_h 155 = [] ∧ (parseMethodDescriptor (pm_y 155).desc).map (fun d => d.parameters.length) = some 0 := by
  rw [tb_y155]
  exact ⟨tb_g (tb_7 (List.mem_of_getElem? (i := 91) rfl)) rfl, tb_g (tb_7 (List.mem_of_getElem? (i := 92) rfl)) rfl, rfl, by decide +kernel⟩
theorem tl_LentNamesLaw_233_0 : iv_LV "LentNamesLaw" 233 155 1 12 := ⟨by rw [tb_y155]; exact tb_g (tb_7 (List.mem_of_getElem? (i := 90) rfl)) rfl, tb_v155.1, tb_v155.2.1, tb_v155.2.2.1, by decide, by decide, by decide, ⟨_, _, by rw [tb_y155]; rfl⟩, tb_v155.2.2.2⟩
theorem tb_v139 : Cond.instanceMethod (pm_y 139) ∈ iv_T ∧ Cond.selects (pm_y 139).cls (pm_y 139) (pm_y 139) ∈ iv_T ∧ pm_h 139 = [] ∧ (parseMethodDescriptor (pm_y 139).desc).map (fun d => d.parameters.length) = some 0 := by
  rw [tb_y139]
  exact ⟨tb_g (tb_3 (List.mem_of_getElem? (i := 162) rfl)) rfl, tb_g (tb_3 (List.mem_of_getElem? (i := 163) rfl)) rfl, rfl, by decide +kernel⟩
theorem tl_LentNamesLaw_234_0 : iv_LV "LentNamesLaw" 234 139 1 11 := ⟨by rw [tb_y139]; exact tb_g (tb_3 (List.mem_of_getElem? (i := 161) rfl)) rfl, tb_v139.1, tb_v139.2.1, tb_v139.2.2.1, by decide, by decide, by decide, ⟨_, _, by rw [tb_y139]; rfl⟩, tb_v139.2.2.2⟩
theorem tb_v156 : Cond.instanceMethod (pm_y 156) ∈ iv_T ∧ Cond.selects (pm_y 156).cls (pm_y 156) (pm_y 156) ∈ iv_T ∧ pm_h 156 = [] ∧ (parseMethodDescriptor (pm_y 156).desc).map (fun d => d.parameters.length) = some 0 := by
  rw [tb_y156]
  exact ⟨tb_g (tb_7 (List.mem_of_getElem? (i := 95) rfl)) rfl, tb_g (tb_7 (List.mem_of_getElem? (i := 96) rfl)) rfl, rfl, by decide +kernel⟩
theorem tl_LentNamesLaw_238_0 : iv_LV "LentNamesLaw" 238 156 1 12 := ⟨by rw [tb_y156]; exact tb_g (tb_7 (List.mem_of_getElem? (i := 94) rfl)) rfl, tb_v156.1, tb_v156.2.1, tb_v156.2.2.1, by decide, by decide, by decide, ⟨_, _, by rw [tb_y156]; rfl⟩, tb_v156.2.2.2⟩
theorem tb_v140 : Cond.instanceMethod (pm_y 140) ∈ iv_T ∧ Cond.selects (pm_y 140).cls (pm_y 140) (pm_y 140) ∈ iv_T ∧ pm_h 140 = [] ∧ (parseMethodDescriptor (pm_y 140).desc).map (fun d => d.parameters.length) = some 1 := by
  rw [tb_y140]
  exact ⟨tb_g (tb_3 (List.mem_of_getElem? (i := 166) rfl)) rfl, tb_g (tb_3 (List.mem_of_getElem? (i := 167) rfl)) rfl, rfl, by decide +kernel⟩
theorem tl_LentNamesLaw_239_0 : iv_LV "LentNamesLaw" 239 140 2 11 := ⟨by rw [tb_y140]; exact tb_g (tb_3 (List.mem_of_getElem? (i := 165) rfl)) rfl, tb_v140.1, tb_v140.2.1, tb_v140.2.2.1, by decide, by decide, by decide, ⟨_, _, by rw [tb_y140]; rfl⟩, tb_v140.2.2.2⟩
theorem tb_v268 : Cond.instanceMethod (pm_y 268) ∈ iv_T ∧ Cond.selects (pm_y 268).cls (pm_y 268) (pm_y 268) ∈ iv_T ∧ pm_h 268 = [] ∧ (parseMethodDescriptor (pm_y 268).desc).map (fun d => d.parameters.length) = some 1 := by
  rw [tb_y268]
  exact ⟨tb_g (tb_9 (List.mem_of_getElem? (i := 101) rfl)) rfl, tb_g (tb_9 (List.mem_of_getElem? (i := 102) rfl)) rfl, rfl, by decide +kernel⟩
theorem tl_LentNamesLaw_242_0 : iv_LV "LentNamesLaw" 242 268 2 12 := ⟨by rw [tb_y268]; exact tb_g (tb_9 (List.mem_of_getElem? (i := 100) rfl)) rfl, tb_v268.1, tb_v268.2.1, tb_v268.2.2.1, by decide, by decide, by decide, ⟨_, _, by rw [tb_y268]; rfl⟩, tb_v268.2.2.2⟩
theorem tl_LentNamesModel_85_2 : iv_LS "LentNamesModel" 85 153 3 := by
  unfold iv_LS
  rw [tb_y153]
  exact ⟨tb_g (tb_8 (List.mem_of_getElem? (i := 33) rfl)) rfl, tb_g (tb_8 (List.mem_of_getElem? (i := 34) rfl)) rfl, by decide +kernel⟩
theorem tb_v158 : Cond.instanceMethod (pm_y 158) ∈ iv_T ∧ Cond.selects (pm_y 158).cls (pm_y 158) (pm_y 158) ∈ iv_T ∧ pm_h 158 = [] ∧ (parseMethodDescriptor (pm_y 158).desc).map (fun d => d.parameters.length) = some 2 := by
  rw [tb_y158]
  exact ⟨tb_g (tb_8 (List.mem_of_getElem? (i := 46) rfl)) rfl, tb_g (tb_sel (tb_p6 (List.mem_of_getElem? (a := ((⟨"LentNamesModel", "none", "(II)Z"⟩ : MethodName), 36)) (i := 0) rfl))) rfl, rfl, by decide +kernel⟩
theorem tl_LentNamesModel_89_0 : iv_LV "LentNamesModel" 89 158 3 12 := ⟨by rw [tb_y158]; exact tb_g (tb_8 (List.mem_of_getElem? (i := 44) rfl)) rfl, tb_v158.1, tb_v158.2.1, tb_v158.2.2.1, by decide, by decide, by decide, ⟨_, _, by rw [tb_y158]; rfl⟩, tb_v158.2.2.2⟩
theorem tb_v167 : Cond.instanceMethod (pm_y 167) ∈ iv_T ∧ Cond.selects (pm_y 167).cls (pm_y 167) (pm_y 167) ∈ iv_T ∧ pm_h 167 = [] ∧ (parseMethodDescriptor (pm_y 167).desc).map (fun d => d.parameters.length) = some 2 := by
  rw [tb_y167]
  exact ⟨tb_g (tb_7 (List.mem_of_getElem? (i := 124) rfl)) rfl, tb_g (tb_sel (tb_p4 (List.mem_of_getElem? (a := ((⟨"LentNamesModel", "isAt", "(II)Z"⟩ : MethodName), 36)) (i := 4) rfl))) rfl, rfl, by decide +kernel⟩
theorem tl_LentNamesModel_102_0 : iv_LV "LentNamesModel" 102 167 3 12 := ⟨by rw [tb_y167]; exact tb_g (tb_7 (List.mem_of_getElem? (i := 122) rfl)) rfl, tb_v167.1, tb_v167.2.1, tb_v167.2.2.1, by decide, by decide, by decide, ⟨_, _, by rw [tb_y167]; rfl⟩, tb_v167.2.2.2⟩
theorem tb_v168 : Cond.instanceMethod (pm_y 168) ∈ iv_T ∧ Cond.selects (pm_y 168).cls (pm_y 168) (pm_y 168) ∈ iv_T ∧ pm_h 168 = [] ∧ (parseMethodDescriptor (pm_y 168).desc).map (fun d => d.parameters.length) = some 0 := by
  rw [tb_y168]
  exact ⟨tb_g (tb_7 (List.mem_of_getElem? (i := 120) rfl)) rfl, tb_g (tb_sel (tb_p4 (List.mem_of_getElem? (a := ((⟨"LentNamesModel", "blanks", "()V"⟩ : MethodName), 36)) (i := 3) rfl))) rfl, rfl, by decide +kernel⟩
theorem tl_LentNamesModel_108_0 : iv_LV "LentNamesModel" 108 168 1 12 := ⟨by rw [tb_y168]; exact tb_g (tb_7 (List.mem_of_getElem? (i := 118) rfl)) rfl, tb_v168.1, tb_v168.2.1, tb_v168.2.2.1, by decide, by decide, by decide, ⟨_, _, by rw [tb_y168]; rfl⟩, tb_v168.2.2.2⟩
theorem tb_v169 : Cond.instanceMethod (pm_y 169) ∈ iv_T ∧ Cond.selects (pm_y 169).cls (pm_y 169) (pm_y 169) ∈ iv_T ∧ pm_h 169 = [] ∧ (parseMethodDescriptor (pm_y 169).desc).map (fun d => d.parameters.length) = some 0 := by
  rw [tb_y169]
  exact ⟨tb_g (tb_7 (List.mem_of_getElem? (i := 128) rfl)) rfl, tb_g (tb_sel (tb_p4 (List.mem_of_getElem? (a := ((⟨"LentNamesModel", "letters", "()V"⟩ : MethodName), 36)) (i := 5) rfl))) rfl, rfl, by decide +kernel⟩
theorem tl_LentNamesModel_121_0 : iv_LV "LentNamesModel" 121 169 1 12 := ⟨by rw [tb_y169]; exact tb_g (tb_7 (List.mem_of_getElem? (i := 126) rfl)) rfl, tb_v169.1, tb_v169.2.1, tb_v169.2.2.1, by decide, by decide, by decide, ⟨_, _, by rw [tb_y169]; rfl⟩, tb_v169.2.2.2⟩
theorem tb_v170 : Cond.instanceMethod (pm_y 170) ∈ iv_T ∧ Cond.selects (pm_y 170).cls (pm_y 170) (pm_y 170) ∈ iv_T ∧ pm_h 170 = [] ∧ (parseMethodDescriptor (pm_y 170).desc).map (fun d => d.parameters.length) = some 1 := by
  rw [tb_y170]
  exact ⟨tb_g (tb_7 (List.mem_of_getElem? (i := 137) rfl)) rfl, tb_g (tb_sel (tb_p4 (List.mem_of_getElem? (a := ((⟨"LentNamesModel", "isWord", "(Ljava/lang/String;)Z"⟩ : MethodName), 36)) (i := 7) rfl))) rfl, rfl, by decide +kernel⟩
theorem tl_LentNamesModel_124_0 : iv_LV "LentNamesModel" 124 170 2 12 := ⟨by rw [tb_y170]; exact tb_g (tb_7 (List.mem_of_getElem? (i := 135) rfl)) rfl, tb_v170.1, tb_v170.2.1, tb_v170.2.2.1, by decide, by decide, by decide, ⟨_, _, by rw [tb_y170]; rfl⟩, tb_v170.2.2.2⟩
theorem tb_v157 : Cond.instanceMethod (pm_y 157) ∈ iv_T ∧ Cond.selects (pm_y 157).cls (pm_y 157) (pm_y 157) ∈ iv_T ∧ pm_h 157 = [] ∧ (parseMethodDescriptor (pm_y 157).desc).map (fun d => d.parameters.length) = some 0 := by
  rw [tb_y157]
  exact ⟨tb_g (tb_7 (List.mem_of_getElem? (i := 151) rfl)) rfl, tb_g (tb_sel (tb_p4 (List.mem_of_getElem? (a := ((⟨"LentNamesModel", "bodies", "()I"⟩ : MethodName), 36)) (i := 10) rfl))) rfl, rfl, by decide +kernel⟩
theorem tl_LentNamesModel_128_0 : iv_LV "LentNamesModel" 128 157 1 12 := ⟨by rw [tb_y157]; exact tb_g (tb_7 (List.mem_of_getElem? (i := 149) rfl)) rfl, tb_v157.1, tb_v157.2.1, tb_v157.2.2.1, by decide, by decide, by decide, ⟨_, _, by rw [tb_y157]; rfl⟩, tb_v157.2.2.2⟩
theorem tb_v174 : Cond.instanceMethod (pm_y 174) ∈ iv_T ∧ Cond.selects (pm_y 174).cls (pm_y 174) (pm_y 174) ∈ iv_T ∧ pm_h 174 = [] ∧ (parseMethodDescriptor (pm_y 174).desc).map (fun d => d.parameters.length) = some 2 := by
  rw [tb_y174]
  exact ⟨tb_g (tb_7 (List.mem_of_getElem? (i := 155) rfl)) rfl, tb_g (tb_sel (tb_p4 (List.mem_of_getElem? (a := ((⟨"LentNamesModel", "number", "(II)I"⟩ : MethodName), 36)) (i := 11) rfl))) rfl, rfl, by decide +kernel⟩
theorem tl_LentNamesModel_131_0 : iv_LV "LentNamesModel" 131 174 3 12 := ⟨by rw [tb_y174]; exact tb_g (tb_7 (List.mem_of_getElem? (i := 153) rfl)) rfl, tb_v174.1, tb_v174.2.1, tb_v174.2.2.1, by decide, by decide, by decide, ⟨_, _, by rw [tb_y174]; rfl⟩, tb_v174.2.2.2⟩
theorem tb_v176 : Cond.instanceMethod (pm_y 176) ∈ iv_T ∧ Cond.selects (pm_y 176).cls (pm_y 176) (pm_y 176) ∈ iv_T ∧ pm_h 176 = [] ∧ (parseMethodDescriptor (pm_y 176).desc).map (fun d => d.parameters.length) = some 2 := by
  rw [tb_y176]
  exact ⟨tb_g (tb_7 (List.mem_of_getElem? (i := 159) rfl)) rfl, tb_g (tb_sel (tb_p4 (List.mem_of_getElem? (a := ((⟨"LentNamesModel", "sets", "(II)Z"⟩ : MethodName), 36)) (i := 12) rfl))) rfl, rfl, by decide +kernel⟩
theorem tl_LentNamesModel_135_0 : iv_LV "LentNamesModel" 135 176 3 12 := ⟨by rw [tb_y176]; exact tb_g (tb_7 (List.mem_of_getElem? (i := 157) rfl)) rfl, tb_v176.1, tb_v176.2.1, tb_v176.2.2.1, by decide, by decide, by decide, ⟨_, _, by rw [tb_y176]; rfl⟩, tb_v176.2.2.2⟩
theorem tb_v177 : Cond.instanceMethod (pm_y 177) ∈ iv_T ∧ Cond.selects (pm_y 177).cls (pm_y 177) (pm_y 177) ∈ iv_T ∧ pm_h 177 = [] ∧ (parseMethodDescriptor (pm_y 177).desc).map (fun d => d.parameters.length) = some 1 := by
  rw [tb_y177]
  exact ⟨tb_g (tb_7 (List.mem_of_getElem? (i := 147) rfl)) rfl, tb_g (tb_sel (tb_p4 (List.mem_of_getElem? (a := ((⟨"LentNamesModel", "one", "(I)Z"⟩ : MethodName), 36)) (i := 9) rfl))) rfl, rfl, by decide +kernel⟩
theorem tl_LentNamesModel_138_0 : iv_LV "LentNamesModel" 138 177 2 12 := ⟨by rw [tb_y177]; exact tb_g (tb_7 (List.mem_of_getElem? (i := 145) rfl)) rfl, tb_v177.1, tb_v177.2.1, tb_v177.2.2.1, by decide, by decide, by decide, ⟨_, _, by rw [tb_y177]; rfl⟩, tb_v177.2.2.2⟩
theorem tb_v172 : Cond.instanceMethod (pm_y 172) ∈ iv_T ∧ Cond.selects (pm_y 172).cls (pm_y 172) (pm_y 172) ∈ iv_T ∧ pm_h 172 = [] ∧ (parseMethodDescriptor (pm_y 172).desc).map (fun d => d.parameters.length) = some 1 := by
  rw [tb_y172]
  exact ⟨tb_g (tb_7 (List.mem_of_getElem? (i := 164) rfl)) rfl, tb_g (tb_sel (tb_p4 (List.mem_of_getElem? (a := ((⟨"LentNamesModel", "needs", "(Ljava/lang/String;)Z"⟩ : MethodName), 36)) (i := 13) rfl))) rfl, rfl, by decide +kernel⟩
theorem tl_LentNamesModel_144_0 : iv_LV "LentNamesModel" 144 172 2 12 := ⟨by rw [tb_y172]; exact tb_g (tb_7 (List.mem_of_getElem? (i := 162) rfl)) rfl, tb_v172.1, tb_v172.2.1, tb_v172.2.2.1, by decide, by decide, by decide, ⟨_, _, by rw [tb_y172]; rfl⟩, tb_v172.2.2.2⟩
theorem tb_v178 : Cond.instanceMethod (pm_y 178) ∈ iv_T ∧ Cond.selects (pm_y 178).cls (pm_y 178) (pm_y 178) ∈ iv_T ∧ pm_h 178 = [] ∧ (parseMethodDescriptor (pm_y 178).desc).map (fun d => d.parameters.length) = some 2 := by
  rw [tb_y178]
  exact ⟨tb_g (tb_7 (List.mem_of_getElem? (i := 169) rfl)) rfl, tb_g (tb_sel (tb_p4 (List.mem_of_getElem? (a := ((⟨"LentNamesModel", "day", "(II)Z"⟩ : MethodName), 36)) (i := 14) rfl))) rfl, rfl, by decide +kernel⟩
theorem tl_LentNamesModel_149_0 : iv_LV "LentNamesModel" 149 178 3 12 := ⟨by rw [tb_y178]; exact tb_g (tb_7 (List.mem_of_getElem? (i := 167) rfl)) rfl, tb_v178.1, tb_v178.2.1, tb_v178.2.2.1, by decide, by decide, by decide, ⟨_, _, by rw [tb_y178]; rfl⟩, tb_v178.2.2.2⟩
theorem tb_v171 : Cond.instanceMethod (pm_y 171) ∈ iv_T ∧ Cond.selects (pm_y 171).cls (pm_y 171) (pm_y 171) ∈ iv_T ∧ pm_h 171 = [] ∧ (parseMethodDescriptor (pm_y 171).desc).map (fun d => d.parameters.length) = some 1 := by
  rw [tb_y171]
  exact ⟨tb_g (tb_7 (List.mem_of_getElem? (i := 175) rfl)) rfl, tb_g (tb_sel (tb_p4 (List.mem_of_getElem? (a := ((⟨"LentNamesModel", "passes", "(Ljava/lang/String;)Z"⟩ : MethodName), 36)) (i := 15) rfl))) rfl, rfl, by decide +kernel⟩
theorem tl_LentNamesModel_155_0 : iv_LV "LentNamesModel" 155 171 2 12 := ⟨by rw [tb_y171]; exact tb_g (tb_7 (List.mem_of_getElem? (i := 173) rfl)) rfl, tb_v171.1, tb_v171.2.1, tb_v171.2.2.1, by decide, by decide, by decide, ⟨_, _, by rw [tb_y171]; rfl⟩, tb_v171.2.2.2⟩
theorem tb_v179 : Cond.instanceMethod (pm_y 179) ∈ iv_T ∧ Cond.selects (pm_y 179).cls (pm_y 179) (pm_y 179) ∈ iv_T ∧ pm_h 179 = [] ∧ (parseMethodDescriptor (pm_y 179).desc).map (fun d => d.parameters.length) = some 0 := by
  rw [tb_y179]
  exact ⟨tb_g (tb_7 (List.mem_of_getElem? (i := 143) rfl)) rfl, tb_g (tb_sel (tb_p4 (List.mem_of_getElem? (a := ((⟨"LentNamesModel", "readLend", "()Z"⟩ : MethodName), 36)) (i := 8) rfl))) rfl, rfl, by decide +kernel⟩
theorem tl_LentNamesModel_185_0 : iv_LV "LentNamesModel" 185 179 1 12 := ⟨by rw [tb_y179]; exact tb_g (tb_7 (List.mem_of_getElem? (i := 141) rfl)) rfl, tb_v179.1, tb_v179.2.1, tb_v179.2.2.1, by decide, by decide, by decide, ⟨_, _, by rw [tb_y179]; rfl⟩, tb_v179.2.2.2⟩
theorem tb_v180 : Cond.instanceMethod (pm_y 180) ∈ iv_T ∧ Cond.selects (pm_y 180).cls (pm_y 180) (pm_y 180) ∈ iv_T ∧ pm_h 180 = [] ∧ (parseMethodDescriptor (pm_y 180).desc).map (fun d => d.parameters.length) = some 0 := by
  rw [tb_y180]
  exact ⟨tb_g (tb_7 (List.mem_of_getElem? (i := 181) rfl)) rfl, tb_g (tb_sel (tb_p5 (List.mem_of_getElem? (a := ((⟨"LentNamesModel", "readLate", "()Z"⟩ : MethodName), 36)) (i := 0) rfl))) rfl, rfl, by decide +kernel⟩
theorem tl_LentNamesModel_191_0 : iv_LV "LentNamesModel" 191 180 1 12 := ⟨by rw [tb_y180]; exact tb_g (tb_7 (List.mem_of_getElem? (i := 179) rfl)) rfl, tb_v180.1, tb_v180.2.1, tb_v180.2.2.1, by decide, by decide, by decide, ⟨_, _, by rw [tb_y180]; rfl⟩, tb_v180.2.2.2⟩
theorem tb_v181 : Cond.instanceMethod (pm_y 181) ∈ iv_T ∧ Cond.selects (pm_y 181).cls (pm_y 181) (pm_y 181) ∈ iv_T ∧ pm_h 181 = [] ∧ (parseMethodDescriptor (pm_y 181).desc).map (fun d => d.parameters.length) = some 0 := by
  rw [tb_y181]
  exact ⟨tb_g (tb_7 (List.mem_of_getElem? (i := 187) rfl)) rfl, tb_g (tb_sel (tb_p5 (List.mem_of_getElem? (a := ((⟨"LentNamesModel", "readDies", "()Z"⟩ : MethodName), 36)) (i := 1) rfl))) rfl, rfl, by decide +kernel⟩
theorem tl_LentNamesModel_196_0 : iv_LV "LentNamesModel" 196 181 1 12 := ⟨by rw [tb_y181]; exact tb_g (tb_7 (List.mem_of_getElem? (i := 185) rfl)) rfl, tb_v181.1, tb_v181.2.1, tb_v181.2.2.1, by decide, by decide, by decide, ⟨_, _, by rw [tb_y181]; rfl⟩, tb_v181.2.2.2⟩
theorem tb_v182 : Cond.instanceMethod (pm_y 182) ∈ iv_T ∧ Cond.selects (pm_y 182).cls (pm_y 182) (pm_y 182) ∈ iv_T ∧ pm_h 182 = [] ∧ (parseMethodDescriptor (pm_y 182).desc).map (fun d => d.parameters.length) = some 0 := by
  rw [tb_y182]
  exact ⟨tb_g (tb_7 (List.mem_of_getElem? (i := 193) rfl)) rfl, tb_g (tb_sel (tb_p5 (List.mem_of_getElem? (a := ((⟨"LentNamesModel", "readCourt", "()Z"⟩ : MethodName), 36)) (i := 2) rfl))) rfl, rfl, by decide +kernel⟩
theorem tl_LentNamesModel_201_0 : iv_LV "LentNamesModel" 201 182 1 12 := ⟨by rw [tb_y182]; exact tb_g (tb_7 (List.mem_of_getElem? (i := 191) rfl)) rfl, tb_v182.1, tb_v182.2.1, tb_v182.2.2.1, by decide, by decide, by decide, ⟨_, _, by rw [tb_y182]; rfl⟩, tb_v182.2.2.2⟩
theorem tb_v183 : Cond.instanceMethod (pm_y 183) ∈ iv_T ∧ Cond.selects (pm_y 183).cls (pm_y 183) (pm_y 183) ∈ iv_T ∧ pm_h 183 = [] ∧ (parseMethodDescriptor (pm_y 183).desc).map (fun d => d.parameters.length) = some 0 := by
  rw [tb_y183]
  exact ⟨tb_g (tb_7 (List.mem_of_getElem? (i := 198) rfl)) rfl, tb_g (tb_sel (tb_p5 (List.mem_of_getElem? (a := ((⟨"LentNamesModel", "readLetter", "()Z"⟩ : MethodName), 36)) (i := 3) rfl))) rfl, rfl, by decide +kernel⟩
theorem tl_LentNamesModel_206_0 : iv_LV "LentNamesModel" 206 183 1 12 := ⟨by rw [tb_y183]; exact tb_g (tb_7 (List.mem_of_getElem? (i := 196) rfl)) rfl, tb_v183.1, tb_v183.2.1, tb_v183.2.2.1, by decide, by decide, by decide, ⟨_, _, by rw [tb_y183]; rfl⟩, tb_v183.2.2.2⟩
theorem tb_v184 : Cond.instanceMethod (pm_y 184) ∈ iv_T ∧ Cond.selects (pm_y 184).cls (pm_y 184) (pm_y 184) ∈ iv_T ∧ pm_h 184 = [] ∧ (parseMethodDescriptor (pm_y 184).desc).map (fun d => d.parameters.length) = some 0 := by
  rw [tb_y184]
  exact ⟨tb_g (tb_7 (List.mem_of_getElem? (i := 204) rfl)) rfl, tb_g (tb_sel (tb_p5 (List.mem_of_getElem? (a := ((⟨"LentNamesModel", "readDebt", "()Z"⟩ : MethodName), 36)) (i := 4) rfl))) rfl, rfl, by decide +kernel⟩
theorem tl_LentNamesModel_211_0 : iv_LV "LentNamesModel" 211 184 1 12 := ⟨by rw [tb_y184]; exact tb_g (tb_7 (List.mem_of_getElem? (i := 202) rfl)) rfl, tb_v184.1, tb_v184.2.1, tb_v184.2.2.1, by decide, by decide, by decide, ⟨_, _, by rw [tb_y184]; rfl⟩, tb_v184.2.2.2⟩
theorem tb_v185 : Cond.instanceMethod (pm_y 185) ∈ iv_T ∧ Cond.selects (pm_y 185).cls (pm_y 185) (pm_y 185) ∈ iv_T ∧ pm_h 185 = [] ∧ (parseMethodDescriptor (pm_y 185).desc).map (fun d => d.parameters.length) = some 0 := by
  rw [tb_y185]
  exact ⟨tb_g (tb_7 (List.mem_of_getElem? (i := 213) rfl)) rfl, tb_g (tb_sel (tb_p5 (List.mem_of_getElem? (a := ((⟨"LentNamesModel", "readSeen", "()Z"⟩ : MethodName), 36)) (i := 5) rfl))) rfl, rfl, by decide +kernel⟩
theorem tl_LentNamesModel_216_0 : iv_LV "LentNamesModel" 216 185 1 12 := ⟨by rw [tb_y185]; exact tb_g (tb_7 (List.mem_of_getElem? (i := 211) rfl)) rfl, tb_v185.1, tb_v185.2.1, tb_v185.2.2.1, by decide, by decide, by decide, ⟨_, _, by rw [tb_y185]; rfl⟩, tb_v185.2.2.2⟩
theorem tb_v187 : Cond.instanceMethod (pm_y 187) ∈ iv_T ∧ Cond.selects (pm_y 187).cls (pm_y 187) (pm_y 187) ∈ iv_T ∧ pm_h 187 = [] ∧ (parseMethodDescriptor (pm_y 187).desc).map (fun d => d.parameters.length) = some 2 := by
  rw [tb_y187]
  exact ⟨tb_g (tb_8 (List.mem_of_getElem? (i := 4) rfl)) rfl, tb_g (tb_sel (tb_p5 (List.mem_of_getElem? (a := ((⟨"LentNamesModel", "emits", "(II)V"⟩ : MethodName), 36)) (i := 11) rfl))) rfl, rfl, by decide +kernel⟩
theorem tl_LentNamesModel_222_0 : iv_LV "LentNamesModel" 222 187 3 12 := ⟨by rw [tb_y187]; exact tb_g (tb_8 (List.mem_of_getElem? (i := 2) rfl)) rfl, tb_v187.1, tb_v187.2.1, tb_v187.2.2.1, by decide, by decide, by decide, ⟨_, _, by rw [tb_y187]; rfl⟩, tb_v187.2.2.2⟩
theorem tb_v188 : Cond.instanceMethod (pm_y 188) ∈ iv_T ∧ Cond.selects (pm_y 188).cls (pm_y 188) (pm_y 188) ∈ iv_T ∧ pm_h 188 = [] ∧ (parseMethodDescriptor (pm_y 188).desc).map (fun d => d.parameters.length) = some 0 := by
  rw [tb_y188]
  exact ⟨tb_g (tb_8 (List.mem_of_getElem? (i := 14) rfl)) rfl, tb_g (tb_sel (tb_p5 (List.mem_of_getElem? (a := ((⟨"LentNamesModel", "readPart", "()Z"⟩ : MethodName), 36)) (i := 13) rfl))) rfl, rfl, by decide +kernel⟩
theorem tl_LentNamesModel_234_0 : iv_LV "LentNamesModel" 234 188 1 12 := ⟨by rw [tb_y188]; exact tb_g (tb_8 (List.mem_of_getElem? (i := 12) rfl)) rfl, tb_v188.1, tb_v188.2.1, tb_v188.2.2.1, by decide, by decide, by decide, ⟨_, _, by rw [tb_y188]; rfl⟩, tb_v188.2.2.2⟩
theorem tb_v173 : Cond.instanceMethod (pm_y 173) ∈ iv_T ∧ Cond.selects (pm_y 173).cls (pm_y 173) (pm_y 173) ∈ iv_T ∧ pm_h 173 = [] ∧ (parseMethodDescriptor (pm_y 173).desc).map (fun d => d.parameters.length) = some 1 := by
  rw [tb_y173]
  exact ⟨tb_g (tb_7 (List.mem_of_getElem? (i := 239) rfl)) rfl, tb_g (tb_sel (tb_p5 (List.mem_of_getElem? (a := ((⟨"LentNamesModel", "sign", "(I)Z"⟩ : MethodName), 36)) (i := 10) rfl))) rfl, rfl, by decide +kernel⟩
theorem tl_LentNamesModel_237_0 : iv_LV "LentNamesModel" 237 173 2 12 := ⟨by rw [tb_y173]; exact tb_g (tb_7 (List.mem_of_getElem? (i := 237) rfl)) rfl, tb_v173.1, tb_v173.2.1, tb_v173.2.2.1, by decide, by decide, by decide, ⟨_, _, by rw [tb_y173]; rfl⟩, tb_v173.2.2.2⟩
theorem tb_v192 : Cond.instanceMethod (pm_y 192) ∈ iv_T ∧ Cond.selects (pm_y 192).cls (pm_y 192) (pm_y 192) ∈ iv_T ∧ pm_h 192 = [] ∧ (parseMethodDescriptor (pm_y 192).desc).map (fun d => d.parameters.length) = some 0 := by
  rw [tb_y192]
  exact ⟨tb_g (tb_7 (List.mem_of_getElem? (i := 227) rfl)) rfl, tb_g (tb_sel (tb_p5 (List.mem_of_getElem? (a := ((⟨"LentNamesModel", "readCond", "()Z"⟩ : MethodName), 36)) (i := 7) rfl))) rfl, rfl, by decide +kernel⟩
theorem tl_LentNamesModel_242_0 : iv_LV "LentNamesModel" 242 192 1 12 := ⟨by rw [tb_y192]; exact tb_g (tb_7 (List.mem_of_getElem? (i := 225) rfl)) rfl, tb_v192.1, tb_v192.2.1, tb_v192.2.2.1, by decide, by decide, by decide, ⟨_, _, by rw [tb_y192]; rfl⟩, tb_v192.2.2.2⟩
theorem tb_v190 : Cond.instanceMethod (pm_y 190) ∈ iv_T ∧ Cond.selects (pm_y 190).cls (pm_y 190) (pm_y 190) ∈ iv_T ∧ pm_h 190 = [] ∧ (parseMethodDescriptor (pm_y 190).desc).map (fun d => d.parameters.length) = some 0 := by
  rw [tb_y190]
  exact ⟨tb_g (tb_7 (List.mem_of_getElem? (i := 235) rfl)) rfl, tb_g (tb_sel (tb_p5 (List.mem_of_getElem? (a := ((⟨"LentNamesModel", "readAtom", "()Z"⟩ : MethodName), 36)) (i := 9) rfl))) rfl, rfl, by decide +kernel⟩
theorem tl_LentNamesModel_247_0 : iv_LV "LentNamesModel" 247 190 1 12 := ⟨by rw [tb_y190]; exact tb_g (tb_7 (List.mem_of_getElem? (i := 233) rfl)) rfl, tb_v190.1, tb_v190.2.1, tb_v190.2.2.1, by decide, by decide, by decide, ⟨_, _, by rw [tb_y190]; rfl⟩, tb_v190.2.2.2⟩
theorem tb_v189 : Cond.instanceMethod (pm_y 189) ∈ iv_T ∧ Cond.selects (pm_y 189).cls (pm_y 189) (pm_y 189) ∈ iv_T ∧ pm_h 189 = [] ∧ (parseMethodDescriptor (pm_y 189).desc).map (fun d => d.parameters.length) = some 0 := by
  rw [tb_y189]
  exact ⟨tb_g (tb_8 (List.mem_of_getElem? (i := 10) rfl)) rfl, tb_g (tb_sel (tb_p5 (List.mem_of_getElem? (a := ((⟨"LentNamesModel", "readSum", "()Z"⟩ : MethodName), 36)) (i := 12) rfl))) rfl, rfl, by decide +kernel⟩
theorem tl_LentNamesModel_254_0 : iv_LV "LentNamesModel" 254 189 1 12 := ⟨by rw [tb_y189]; exact tb_g (tb_8 (List.mem_of_getElem? (i := 8) rfl)) rfl, tb_v189.1, tb_v189.2.1, tb_v189.2.2.1, by decide, by decide, by decide, ⟨_, _, by rw [tb_y189]; rfl⟩, tb_v189.2.2.2⟩
theorem tb_v191 : Cond.instanceMethod (pm_y 191) ∈ iv_T ∧ Cond.selects (pm_y 191).cls (pm_y 191) (pm_y 191) ∈ iv_T ∧ pm_h 191 = [] ∧ (parseMethodDescriptor (pm_y 191).desc).map (fun d => d.parameters.length) = some 0 := by
  rw [tb_y191]
  exact ⟨tb_g (tb_7 (List.mem_of_getElem? (i := 231) rfl)) rfl, tb_g (tb_sel (tb_p5 (List.mem_of_getElem? (a := ((⟨"LentNamesModel", "readAllOf", "()Z"⟩ : MethodName), 36)) (i := 8) rfl))) rfl, rfl, by decide +kernel⟩
theorem tl_LentNamesModel_259_0 : iv_LV "LentNamesModel" 259 191 1 12 := ⟨by rw [tb_y191]; exact tb_g (tb_7 (List.mem_of_getElem? (i := 229) rfl)) rfl, tb_v191.1, tb_v191.2.1, tb_v191.2.2.1, by decide, by decide, by decide, ⟨_, _, by rw [tb_y191]; rfl⟩, tb_v191.2.2.2⟩
theorem tb_v186 : Cond.instanceMethod (pm_y 186) ∈ iv_T ∧ Cond.selects (pm_y 186).cls (pm_y 186) (pm_y 186) ∈ iv_T ∧ pm_h 186 = [] ∧ (parseMethodDescriptor (pm_y 186).desc).map (fun d => d.parameters.length) = some 0 := by
  rw [tb_y186]
  exact ⟨tb_g (tb_7 (List.mem_of_getElem? (i := 132) rfl)) rfl, tb_g (tb_sel (tb_p4 (List.mem_of_getElem? (a := ((⟨"LentNamesModel", "readTownLine", "()Z"⟩ : MethodName), 36)) (i := 6) rfl))) rfl, rfl, by decide +kernel⟩
theorem tl_LentNamesModel_268_0 : iv_LV "LentNamesModel" 268 186 1 12 := ⟨by rw [tb_y186]; exact tb_g (tb_7 (List.mem_of_getElem? (i := 130) rfl)) rfl, tb_v186.1, tb_v186.2.1, tb_v186.2.2.1, by decide, by decide, by decide, ⟨_, _, by rw [tb_y186]; rfl⟩, tb_v186.2.2.2⟩
theorem tb_v193 : Cond.instanceMethod (pm_y 193) ∈ iv_T ∧ Cond.selects (pm_y 193).cls (pm_y 193) (pm_y 193) ∈ iv_T ∧ pm_h 193 = [] ∧ (parseMethodDescriptor (pm_y 193).desc).map (fun d => d.parameters.length) = some 1 := by
  rw [tb_y193]
  exact ⟨tb_g (tb_7 (List.mem_of_getElem? (i := 220) rfl)) rfl, tb_g (tb_sel (tb_p5 (List.mem_of_getElem? (a := ((⟨"LentNamesModel", "readCustomLine", "(I)Z"⟩ : MethodName), 36)) (i := 6) rfl))) rfl, rfl, by decide +kernel⟩
theorem tl_LentNamesModel_271_0 : iv_LV "LentNamesModel" 271 193 2 12 := ⟨by rw [tb_y193]; exact tb_g (tb_7 (List.mem_of_getElem? (i := 218) rfl)) rfl, tb_v193.1, tb_v193.2.1, tb_v193.2.2.1, by decide, by decide, by decide, ⟨_, _, by rw [tb_y193]; rfl⟩, tb_v193.2.2.2⟩
theorem tb_v194 : Cond.instanceMethod (pm_y 194) ∈ iv_T ∧ Cond.selects (pm_y 194).cls (pm_y 194) (pm_y 194) ∈ iv_T ∧ pm_h 194 = [] ∧ (parseMethodDescriptor (pm_y 194).desc).map (fun d => d.parameters.length) = some 1 := by
  rw [tb_y194]
  exact ⟨tb_g (tb_7 (List.mem_of_getElem? (i := 116) rfl)) rfl, tb_g (tb_sel (tb_p4 (List.mem_of_getElem? (a := ((⟨"LentNamesModel", "readAll", "(Z)I"⟩ : MethodName), 36)) (i := 2) rfl))) rfl, rfl, by decide +kernel⟩
theorem tl_LentNamesModel_274_0 : iv_LV "LentNamesModel" 274 194 2 12 := ⟨by rw [tb_y194]; exact tb_g (tb_7 (List.mem_of_getElem? (i := 114) rfl)) rfl, tb_v194.1, tb_v194.2.1, tb_v194.2.2.1, by decide, by decide, by decide, ⟨_, _, by rw [tb_y194]; rfl⟩, tb_v194.2.2.2⟩
theorem tb_v152 : Cond.instanceMethod (pm_y 152) ∈ iv_T ∧ Cond.selects (pm_y 152).cls (pm_y 152) (pm_y 152) ∈ iv_T ∧ pm_h 152 = [] ∧ (parseMethodDescriptor (pm_y 152).desc).map (fun d => d.parameters.length) = some 2 := by
  rw [tb_y152]
  exact ⟨tb_g (tb_8 (List.mem_of_getElem? (i := 23) rfl)) rfl, tb_g (tb_sel (tb_p5 (List.mem_of_getElem? (a := ((⟨"LentNamesModel", "throwsIf", "(ZI)Z"⟩ : MethodName), 36)) (i := 14) rfl))) rfl, rfl, by decide +kernel⟩
theorem tl_LentNamesModel_278_0 : iv_LV "LentNamesModel" 278 152 3 12 := ⟨by rw [tb_y152]; exact tb_g (tb_8 (List.mem_of_getElem? (i := 21) rfl)) rfl, tb_v152.1, tb_v152.2.1, tb_v152.2.2.1, by decide, by decide, by decide, ⟨_, _, by rw [tb_y152]; rfl⟩, tb_v152.2.2.2⟩
theorem tb_v198 : Cond.instanceMethod (pm_y 198) ∈ iv_T ∧ Cond.selects (pm_y 198).cls (pm_y 198) (pm_y 198) ∈ iv_T ∧ pm_h 198 = [] ∧ (parseMethodDescriptor (pm_y 198).desc).map (fun d => d.parameters.length) = some 1 := by
  rw [tb_y198]
  exact ⟨tb_g (tb_8 (List.mem_of_getElem? (i := 105) rfl)) rfl, tb_g (tb_sel (tb_p6 (List.mem_of_getElem? (a := ((⟨"LentNamesModel", "holdsLine", "(I)Z"⟩ : MethodName), 36)) (i := 14) rfl))) rfl, rfl, by decide +kernel⟩
theorem tl_LentNamesModel_282_0 : iv_LV "LentNamesModel" 282 198 2 12 := ⟨by rw [tb_y198]; exact tb_g (tb_8 (List.mem_of_getElem? (i := 103) rfl)) rfl, tb_v198.1, tb_v198.2.1, tb_v198.2.2.1, by decide, by decide, by decide, ⟨_, _, by rw [tb_y198]; rfl⟩, tb_v198.2.2.2⟩
theorem tb_v161 : Cond.instanceMethod (pm_y 161) ∈ iv_T ∧ Cond.selects (pm_y 161).cls (pm_y 161) (pm_y 161) ∈ iv_T ∧ pm_h 161 = [] ∧ (parseMethodDescriptor (pm_y 161).desc).map (fun d => d.parameters.length) = some 2 := by
  rw [tb_y161]
  exact ⟨tb_g (tb_8 (List.mem_of_getElem? (i := 65) rfl)) rfl, tb_g (tb_sel (tb_p6 (List.mem_of_getElem? (a := ((⟨"LentNamesModel", "ofLoan", "(II)I"⟩ : MethodName), 36)) (i := 4) rfl))) rfl, rfl, by decide +kernel⟩
theorem tl_LentNamesModel_285_0 : iv_LV "LentNamesModel" 285 161 3 12 := ⟨by rw [tb_y161]; exact tb_g (tb_8 (List.mem_of_getElem? (i := 63) rfl)) rfl, tb_v161.1, tb_v161.2.1, tb_v161.2.2.1, by decide, by decide, by decide, ⟨_, _, by rw [tb_y161]; rfl⟩, tb_v161.2.2.2⟩
theorem tb_v202 : Cond.instanceMethod (pm_y 202) ∈ iv_T ∧ Cond.selects (pm_y 202).cls (pm_y 202) (pm_y 202) ∈ iv_T ∧ pm_h 202 = [] ∧ (parseMethodDescriptor (pm_y 202).desc).map (fun d => d.parameters.length) = some 2 := by
  rw [tb_y202]
  exact ⟨tb_g (tb_8 (List.mem_of_getElem? (i := 81) rfl)) rfl, tb_g (tb_sel (tb_p6 (List.mem_of_getElem? (a := ((⟨"LentNamesModel", "isOver", "(II)Z"⟩ : MethodName), 36)) (i := 8) rfl))) rfl, rfl, by decide +kernel⟩
theorem tl_LentNamesModel_288_0 : iv_LV "LentNamesModel" 288 202 3 12 := ⟨by rw [tb_y202]; exact tb_g (tb_8 (List.mem_of_getElem? (i := 79) rfl)) rfl, tb_v202.1, tb_v202.2.1, tb_v202.2.2.1, by decide, by decide, by decide, ⟨_, _, by rw [tb_y202]; rfl⟩, tb_v202.2.2.2⟩
theorem tb_v201 : Cond.instanceMethod (pm_y 201) ∈ iv_T ∧ Cond.selects (pm_y 201).cls (pm_y 201) (pm_y 201) ∈ iv_T ∧ pm_h 201 = [] ∧ (parseMethodDescriptor (pm_y 201).desc).map (fun d => d.parameters.length) = some 1 := by
  rw [tb_y201]
  exact ⟨tb_g (tb_8 (List.mem_of_getElem? (i := 61) rfl)) rfl, tb_g (tb_sel (tb_p6 (List.mem_of_getElem? (a := ((⟨"LentNamesModel", "lastDay", "(I)I"⟩ : MethodName), 36)) (i := 3) rfl))) rfl, rfl, by decide +kernel⟩
theorem tl_LentNamesModel_291_0 : iv_LV "LentNamesModel" 291 201 2 12 := ⟨by rw [tb_y201]; exact tb_g (tb_8 (List.mem_of_getElem? (i := 59) rfl)) rfl, tb_v201.1, tb_v201.2.1, tb_v201.2.2.1, by decide, by decide, by decide, ⟨_, _, by rw [tb_y201]; rfl⟩, tb_v201.2.2.2⟩
theorem tb_v205 : Cond.instanceMethod (pm_y 205) ∈ iv_T ∧ Cond.selects (pm_y 205).cls (pm_y 205) (pm_y 205) ∈ iv_T ∧ pm_h 205 = [] ∧ (parseMethodDescriptor (pm_y 205).desc).map (fun d => d.parameters.length) = some 3 := by
  rw [tb_y205]
  exact ⟨tb_g (tb_8 (List.mem_of_getElem? (i := 69) rfl)) rfl, tb_g (tb_sel (tb_p6 (List.mem_of_getElem? (a := ((⟨"LentNamesModel", "endsTo", "(III)V"⟩ : MethodName), 36)) (i := 5) rfl))) rfl, rfl, by decide +kernel⟩
theorem tl_LentNamesModel_295_0 : iv_LV "LentNamesModel" 295 205 4 12 := ⟨by rw [tb_y205]; exact tb_g (tb_8 (List.mem_of_getElem? (i := 67) rfl)) rfl, tb_v205.1, tb_v205.2.1, tb_v205.2.2.1, by decide, by decide, by decide, ⟨_, _, by rw [tb_y205]; rfl⟩, tb_v205.2.2.2⟩
theorem tb_v204 : Cond.instanceMethod (pm_y 204) ∈ iv_T ∧ Cond.selects (pm_y 204).cls (pm_y 204) (pm_y 204) ∈ iv_T ∧ pm_h 204 = [] ∧ (parseMethodDescriptor (pm_y 204).desc).map (fun d => d.parameters.length) = some 2 := by
  rw [tb_y204]
  exact ⟨tb_g (tb_8 (List.mem_of_getElem? (i := 77) rfl)) rfl, tb_g (tb_sel (tb_p6 (List.mem_of_getElem? (a := ((⟨"LentNamesModel", "isRight", "(II)Z"⟩ : MethodName), 36)) (i := 7) rfl))) rfl, rfl, by decide +kernel⟩
theorem tl_LentNamesModel_299_0 : iv_LV "LentNamesModel" 299 204 3 12 := ⟨by rw [tb_y204]; exact tb_g (tb_8 (List.mem_of_getElem? (i := 75) rfl)) rfl, tb_v204.1, tb_v204.2.1, tb_v204.2.2.1, by decide, by decide, by decide, ⟨_, _, by rw [tb_y204]; rfl⟩, tb_v204.2.2.2⟩
theorem tb_v203 : Cond.instanceMethod (pm_y 203) ∈ iv_T ∧ Cond.selects (pm_y 203).cls (pm_y 203) (pm_y 203) ∈ iv_T ∧ pm_h 203 = [] ∧ (parseMethodDescriptor (pm_y 203).desc).map (fun d => d.parameters.length) = some 1 := by
  rw [tb_y203]
  exact ⟨tb_g (tb_8 (List.mem_of_getElem? (i := 85) rfl)) rfl, tb_g (tb_sel (tb_p6 (List.mem_of_getElem? (a := ((⟨"LentNamesModel", "holder", "(I)I"⟩ : MethodName), 36)) (i := 9) rfl))) rfl, rfl, by decide +kernel⟩
theorem tl_LentNamesModel_302_0 : iv_LV "LentNamesModel" 302 203 2 12 := ⟨by rw [tb_y203]; exact tb_g (tb_8 (List.mem_of_getElem? (i := 83) rfl)) rfl, tb_v203.1, tb_v203.2.1, tb_v203.2.2.1, by decide, by decide, by decide, ⟨_, _, by rw [tb_y203]; rfl⟩, tb_v203.2.2.2⟩
theorem tb_v200 : Cond.instanceMethod (pm_y 200) ∈ iv_T ∧ Cond.selects (pm_y 200).cls (pm_y 200) (pm_y 200) ∈ iv_T ∧ pm_h 200 = [] ∧ (parseMethodDescriptor (pm_y 200).desc).map (fun d => d.parameters.length) = some 2 := by
  rw [tb_y200]
  exact ⟨tb_g (tb_8 (List.mem_of_getElem? (i := 89) rfl)) rfl, tb_g (tb_sel (tb_p6 (List.mem_of_getElem? (a := ((⟨"LentNamesModel", "alive", "(II)Z"⟩ : MethodName), 36)) (i := 10) rfl))) rfl, rfl, by decide +kernel⟩
theorem tl_LentNamesModel_305_0 : iv_LV "LentNamesModel" 305 200 3 12 := ⟨by rw [tb_y200]; exact tb_g (tb_8 (List.mem_of_getElem? (i := 87) rfl)) rfl, tb_v200.1, tb_v200.2.1, tb_v200.2.2.1, by decide, by decide, by decide, ⟨_, _, by rw [tb_y200]; rfl⟩, tb_v200.2.2.2⟩
theorem tb_v208 : Cond.instanceMethod (pm_y 208) ∈ iv_T ∧ Cond.selects (pm_y 208).cls (pm_y 208) (pm_y 208) ∈ iv_T ∧ pm_h 208 = [] ∧ (parseMethodDescriptor (pm_y 208).desc).map (fun d => d.parameters.length) = some 2 := by
  rw [tb_y208]
  exact ⟨tb_g (tb_8 (List.mem_of_getElem? (i := 97) rfl)) rfl, tb_g (tb_sel (tb_p6 (List.mem_of_getElem? (a := ((⟨"LentNamesModel", "bornBy", "(II)I"⟩ : MethodName), 36)) (i := 12) rfl))) rfl, rfl, by decide +kernel⟩
theorem tl_LentNamesModel_308_0 : iv_LV "LentNamesModel" 308 208 3 12 := ⟨by rw [tb_y208]; exact tb_g (tb_8 (List.mem_of_getElem? (i := 95) rfl)) rfl, tb_v208.1, tb_v208.2.1, tb_v208.2.2.1, by decide, by decide, by decide, ⟨_, _, by rw [tb_y208]; rfl⟩, tb_v208.2.2.2⟩
theorem tb_v199 : Cond.instanceMethod (pm_y 199) ∈ iv_T ∧ Cond.selects (pm_y 199).cls (pm_y 199) (pm_y 199) ∈ iv_T ∧ pm_h 199 = [] ∧ (parseMethodDescriptor (pm_y 199).desc).map (fun d => d.parameters.length) = some 0 := by
  rw [tb_y199]
  exact ⟨tb_g (tb_8 (List.mem_of_getElem? (i := 101) rfl)) rfl, tb_g (tb_sel (tb_p6 (List.mem_of_getElem? (a := ((⟨"LentNamesModel", "isGranted", "()Z"⟩ : MethodName), 36)) (i := 13) rfl))) rfl, rfl, by decide +kernel⟩
theorem tl_LentNamesModel_311_0 : iv_LV "LentNamesModel" 311 199 1 12 := ⟨by rw [tb_y199]; exact tb_g (tb_8 (List.mem_of_getElem? (i := 99) rfl)) rfl, tb_v199.1, tb_v199.2.1, tb_v199.2.2.1, by decide, by decide, by decide, ⟨_, _, by rw [tb_y199]; rfl⟩, tb_v199.2.2.2⟩
theorem tb_v206 : Cond.instanceMethod (pm_y 206) ∈ iv_T ∧ Cond.selects (pm_y 206).cls (pm_y 206) (pm_y 206) ∈ iv_T ∧ pm_h 206 = [] ∧ (parseMethodDescriptor (pm_y 206).desc).map (fun d => d.parameters.length) = some 2 := by
  rw [tb_y206]
  exact ⟨tb_g (tb_8 (List.mem_of_getElem? (i := 57) rfl)) rfl, tb_g (tb_sel (tb_p6 (List.mem_of_getElem? (a := ((⟨"LentNamesModel", "ends", "(II)V"⟩ : MethodName), 36)) (i := 2) rfl))) rfl, rfl, by decide +kernel⟩
theorem tl_LentNamesModel_314_0 : iv_LV "LentNamesModel" 314 206 3 12 := ⟨by rw [tb_y206]; exact tb_g (tb_8 (List.mem_of_getElem? (i := 55) rfl)) rfl, tb_v206.1, tb_v206.2.1, tb_v206.2.2.1, by decide, by decide, by decide, ⟨_, _, by rw [tb_y206]; rfl⟩, tb_v206.2.2.2⟩
theorem tb_v207 : Cond.instanceMethod (pm_y 207) ∈ iv_T ∧ Cond.selects (pm_y 207).cls (pm_y 207) (pm_y 207) ∈ iv_T ∧ pm_h 207 = [] ∧ (parseMethodDescriptor (pm_y 207).desc).map (fun d => d.parameters.length) = some 2 := by
  rw [tb_y207]
  exact ⟨tb_g (tb_8 (List.mem_of_getElem? (i := 73) rfl)) rfl, tb_g (tb_sel (tb_p6 (List.mem_of_getElem? (a := ((⟨"LentNamesModel", "judges", "(II)V"⟩ : MethodName), 36)) (i := 6) rfl))) rfl, rfl, by decide +kernel⟩
theorem tl_LentNamesModel_317_0 : iv_LV "LentNamesModel" 317 207 3 12 := ⟨by rw [tb_y207]; exact tb_g (tb_8 (List.mem_of_getElem? (i := 71) rfl)) rfl, tb_v207.1, tb_v207.2.1, tb_v207.2.2.1, by decide, by decide, by decide, ⟨_, _, by rw [tb_y207]; rfl⟩, tb_v207.2.2.2⟩
theorem tb_v209 : Cond.instanceMethod (pm_y 209) ∈ iv_T ∧ Cond.selects (pm_y 209).cls (pm_y 209) (pm_y 209) ∈ iv_T ∧ pm_h 209 = [] ∧ (parseMethodDescriptor (pm_y 209).desc).map (fun d => d.parameters.length) = some 2 := by
  rw [tb_y209]
  exact ⟨tb_g (tb_8 (List.mem_of_getElem? (i := 93) rfl)) rfl, tb_g (tb_sel (tb_p6 (List.mem_of_getElem? (a := ((⟨"LentNamesModel", "begins", "(II)V"⟩ : MethodName), 36)) (i := 11) rfl))) rfl, rfl, by decide +kernel⟩
theorem tl_LentNamesModel_320_0 : iv_LV "LentNamesModel" 320 209 3 12 := ⟨by rw [tb_y209]; exact tb_g (tb_8 (List.mem_of_getElem? (i := 91) rfl)) rfl, tb_v209.1, tb_v209.2.1, tb_v209.2.2.1, by decide, by decide, by decide, ⟨_, _, by rw [tb_y209]; rfl⟩, tb_v209.2.2.2⟩
theorem tb_v159 : Cond.instanceMethod (pm_y 159) ∈ iv_T ∧ Cond.selects (pm_y 159).cls (pm_y 159) (pm_y 159) ∈ iv_T ∧ pm_h 159 = [] ∧ (parseMethodDescriptor (pm_y 159).desc).map (fun d => d.parameters.length) = some 1 := by
  rw [tb_y159]
  exact ⟨tb_g (tb_8 (List.mem_of_getElem? (i := 42) rfl)) rfl, tb_g (tb_sel (tb_p5 (List.mem_of_getElem? (a := ((⟨"LentNamesModel", "noBody", "(I)Z"⟩ : MethodName), 36)) (i := 15) rfl))) rfl, rfl, by decide +kernel⟩
theorem tl_LentNamesModel_323_0 : iv_LV "LentNamesModel" 323 159 2 12 := ⟨by rw [tb_y159]; exact tb_g (tb_8 (List.mem_of_getElem? (i := 40) rfl)) rfl, tb_v159.1, tb_v159.2.1, tb_v159.2.2.1, by decide, by decide, by decide, ⟨_, _, by rw [tb_y159]; rfl⟩, tb_v159.2.2.2⟩
theorem tl_LentNamesModel_326_2 : iv_LS "LentNamesModel" 326 160 1 := by
  unfold iv_LS
  rw [tb_y160]
  exact ⟨tb_g (tb_8 (List.mem_of_getElem? (i := 48) rfl)) rfl, tb_g (tb_8 (List.mem_of_getElem? (i := 49) rfl)) rfl, by decide +kernel⟩
theorem tb_v210 : Cond.instanceMethod (pm_y 210) ∈ iv_T ∧ Cond.selects (pm_y 210).cls (pm_y 210) (pm_y 210) ∈ iv_T ∧ pm_h 210 = [] ∧ (parseMethodDescriptor (pm_y 210).desc).map (fun d => d.parameters.length) = some 0 := by
  rw [tb_y210]
  exact ⟨tb_g (tb_8 (List.mem_of_getElem? (i := 53) rfl)) rfl, tb_g (tb_sel (tb_p6 (List.mem_of_getElem? (a := ((⟨"LentNamesModel", "goesOn", "()V"⟩ : MethodName), 36)) (i := 1) rfl))) rfl, rfl, by decide +kernel⟩
theorem tl_LentNamesModel_329_0 : iv_LV "LentNamesModel" 329 210 1 12 := ⟨by rw [tb_y210]; exact tb_g (tb_8 (List.mem_of_getElem? (i := 51) rfl)) rfl, tb_v210.1, tb_v210.2.1, tb_v210.2.2.1, by decide, by decide, by decide, ⟨_, _, by rw [tb_y210]; rfl⟩, tb_v210.2.2.2⟩
theorem tb_v211 : Cond.instanceMethod (pm_y 211) ∈ iv_T ∧ Cond.selects (pm_y 211).cls (pm_y 211) (pm_y 211) ∈ iv_T ∧ pm_h 211 = [] ∧ (parseMethodDescriptor (pm_y 211).desc).map (fun d => d.parameters.length) = some 2 := by
  rw [tb_y211]
  exact ⟨tb_g (tb_8 (List.mem_of_getElem? (i := 109) rfl)) rfl, tb_g (tb_sel (tb_p6 (List.mem_of_getElem? (a := ((⟨"LentNamesModel", "base", "(II)I"⟩ : MethodName), 36)) (i := 15) rfl))) rfl, rfl, by decide +kernel⟩
theorem tl_LentNamesModel_332_0 : iv_LV "LentNamesModel" 332 211 3 12 := ⟨by rw [tb_y211]; exact tb_g (tb_8 (List.mem_of_getElem? (i := 107) rfl)) rfl, tb_v211.1, tb_v211.2.1, tb_v211.2.2.1, by decide, by decide, by decide, ⟨_, _, by rw [tb_y211]; rfl⟩, tb_v211.2.2.2⟩
theorem tb_v213 : Cond.instanceMethod (pm_y 213) ∈ iv_T ∧ Cond.selects (pm_y 213).cls (pm_y 213) (pm_y 213) ∈ iv_T ∧ pm_h 213 = [] ∧ (parseMethodDescriptor (pm_y 213).desc).map (fun d => d.parameters.length) = some 2 := by
  rw [tb_y213]
  exact ⟨tb_g (tb_8 (List.mem_of_getElem? (i := 117) rfl)) rfl, tb_g (tb_sel (tb_p7 (List.mem_of_getElem? (a := ((⟨"LentNamesModel", "namesOf", "(II)I"⟩ : MethodName), 36)) (i := 0) rfl))) rfl, rfl, by decide +kernel⟩
theorem tl_LentNamesModel_335_0 : iv_LV "LentNamesModel" 335 213 3 12 := ⟨by rw [tb_y213]; exact tb_g (tb_8 (List.mem_of_getElem? (i := 115) rfl)) rfl, tb_v213.1, tb_v213.2.1, tb_v213.2.2.1, by decide, by decide, by decide, ⟨_, _, by rw [tb_y213]; rfl⟩, tb_v213.2.2.2⟩
theorem tb_v217 : Cond.instanceMethod (pm_y 217) ∈ iv_T ∧ Cond.selects (pm_y 217).cls (pm_y 217) (pm_y 217) ∈ iv_T ∧ pm_h 217 = [] ∧ (parseMethodDescriptor (pm_y 217).desc).map (fun d => d.parameters.length) = some 2 := by
  rw [tb_y217]
  exact ⟨tb_g (tb_8 (List.mem_of_getElem? (i := 137) rfl)) rfl, tb_g (tb_sel (tb_p7 (List.mem_of_getElem? (a := ((⟨"LentNamesModel", "borneBy", "(II)I"⟩ : MethodName), 36)) (i := 2) rfl))) rfl, rfl, by decide +kernel⟩
theorem tl_LentNamesModel_338_0 : iv_LV "LentNamesModel" 338 217 3 12 := ⟨by rw [tb_y217]; exact tb_g (tb_8 (List.mem_of_getElem? (i := 135) rfl)) rfl, tb_v217.1, tb_v217.2.1, tb_v217.2.2.1, by decide, by decide, by decide, ⟨_, _, by rw [tb_y217]; rfl⟩, tb_v217.2.2.2⟩
theorem tb_v218 : Cond.instanceMethod (pm_y 218) ∈ iv_T ∧ Cond.selects (pm_y 218).cls (pm_y 218) (pm_y 218) ∈ iv_T ∧ pm_h 218 = [] ∧ (parseMethodDescriptor (pm_y 218).desc).map (fun d => d.parameters.length) = some 2 := by
  rw [tb_y218]
  exact ⟨tb_g (tb_8 (List.mem_of_getElem? (i := 133) rfl)) rfl, tb_g (tb_sel (tb_p7 (List.mem_of_getElem? (a := ((⟨"LentNamesModel", "isNameless", "(II)Z"⟩ : MethodName), 36)) (i := 1) rfl))) rfl, rfl, by decide +kernel⟩
theorem tl_LentNamesModel_341_0 : iv_LV "LentNamesModel" 341 218 3 12 := ⟨by rw [tb_y218]; exact tb_g (tb_8 (List.mem_of_getElem? (i := 131) rfl)) rfl, tb_v218.1, tb_v218.2.1, tb_v218.2.2.1, by decide, by decide, by decide, ⟨_, _, by rw [tb_y218]; rfl⟩, tb_v218.2.2.2⟩
theorem tb_v222 : Cond.instanceMethod (pm_y 222) ∈ iv_T ∧ Cond.selects (pm_y 222).cls (pm_y 222) (pm_y 222) ∈ iv_T ∧ pm_h 222 = [] ∧ (parseMethodDescriptor (pm_y 222).desc).map (fun d => d.parameters.length) = some 1 := by
  rw [tb_y222]
  exact ⟨tb_g (tb_8 (List.mem_of_getElem? (i := 154) rfl)) rfl, tb_g (tb_sel (tb_p7 (List.mem_of_getElem? (a := ((⟨"LentNamesModel", "isRefused", "(I)Z"⟩ : MethodName), 36)) (i := 3) rfl))) rfl, rfl, by decide +kernel⟩
theorem tl_LentNamesModel_347_0 : iv_LV "LentNamesModel" 347 222 2 12 := ⟨by rw [tb_y222]; exact tb_g (tb_8 (List.mem_of_getElem? (i := 152) rfl)) rfl, tb_v222.1, tb_v222.2.1, tb_v222.2.2.1, by decide, by decide, by decide, ⟨_, _, by rw [tb_y222]; rfl⟩, tb_v222.2.2.2⟩
theorem tb_v225 : Cond.instanceMethod (pm_y 225) ∈ iv_T ∧ Cond.selects (pm_y 225).cls (pm_y 225) (pm_y 225) ∈ iv_T ∧ pm_h 225 = [] ∧ (parseMethodDescriptor (pm_y 225).desc).map (fun d => d.parameters.length) = some 1 := by
  rw [tb_y225]
  exact ⟨tb_g (tb_8 (List.mem_of_getElem? (i := 166) rfl)) rfl, tb_g (tb_sel (tb_p7 (List.mem_of_getElem? (a := ((⟨"LentNamesModel", "noLetter", "(I)Z"⟩ : MethodName), 36)) (i := 4) rfl))) rfl, rfl, by decide +kernel⟩
theorem tl_LentNamesModel_350_0 : iv_LV "LentNamesModel" 350 225 2 12 := ⟨by rw [tb_y225]; exact tb_g (tb_8 (List.mem_of_getElem? (i := 164) rfl)) rfl, tb_v225.1, tb_v225.2.1, tb_v225.2.2.1, by decide, by decide, by decide, ⟨_, _, by rw [tb_y225]; rfl⟩, tb_v225.2.2.2⟩
theorem tb_v162 : Cond.instanceMethod (pm_y 162) ∈ iv_T ∧ Cond.selects (pm_y 162).cls (pm_y 162) (pm_y 162) ∈ iv_T ∧ pm_h 162 = [] ∧ (parseMethodDescriptor (pm_y 162).desc).map (fun d => d.parameters.length) = some 2 := by
  rw [tb_y162]
  exact ⟨tb_g (tb_8 (List.mem_of_getElem? (i := 170) rfl)) rfl, tb_g (tb_sel (tb_p7 (List.mem_of_getElem? (a := ((⟨"LentNamesModel", "ofLetter", "(II)I"⟩ : MethodName), 36)) (i := 5) rfl))) rfl, rfl, by decide +kernel⟩
theorem tl_LentNamesModel_353_0 : iv_LV "LentNamesModel" 353 162 3 12 := ⟨by rw [tb_y162]; exact tb_g (tb_8 (List.mem_of_getElem? (i := 168) rfl)) rfl, tb_v162.1, tb_v162.2.1, tb_v162.2.2.1, by decide, by decide, by decide, ⟨_, _, by rw [tb_y162]; rfl⟩, tb_v162.2.2.2⟩
theorem tb_v163 : Cond.instanceMethod (pm_y 163) ∈ iv_T ∧ Cond.selects (pm_y 163).cls (pm_y 163) (pm_y 163) ∈ iv_T ∧ pm_h 163 = [] ∧ (parseMethodDescriptor (pm_y 163).desc).map (fun d => d.parameters.length) = some 2 := by
  rw [tb_y163]
  exact ⟨tb_g (tb_8 (List.mem_of_getElem? (i := 186) rfl)) rfl, tb_g (tb_sel (tb_p7 (List.mem_of_getElem? (a := ((⟨"LentNamesModel", "ofDebt", "(II)I"⟩ : MethodName), 36)) (i := 8) rfl))) rfl, rfl, by decide +kernel⟩
theorem tl_LentNamesModel_356_0 : iv_LV "LentNamesModel" 356 163 3 12 := ⟨by rw [tb_y163]; exact tb_g (tb_8 (List.mem_of_getElem? (i := 184) rfl)) rfl, tb_v163.1, tb_v163.2.1, tb_v163.2.2.1, by decide, by decide, by decide, ⟨_, _, by rw [tb_y163]; rfl⟩, tb_v163.2.2.2⟩
theorem tb_v227 : Cond.instanceMethod (pm_y 227) ∈ iv_T ∧ Cond.selects (pm_y 227).cls (pm_y 227) (pm_y 227) ∈ iv_T ∧ pm_h 227 = [] ∧ (parseMethodDescriptor (pm_y 227).desc).map (fun d => d.parameters.length) = some 1 := by
  rw [tb_y227]
  exact ⟨tb_g (tb_8 (List.mem_of_getElem? (i := 178) rfl)) rfl, tb_g (tb_sel (tb_p7 (List.mem_of_getElem? (a := ((⟨"LentNamesModel", "noDebt", "(I)Z"⟩ : MethodName), 36)) (i := 6) rfl))) rfl, rfl, by decide +kernel⟩
theorem tl_LentNamesModel_359_0 : iv_LV "LentNamesModel" 359 227 2 12 := ⟨by rw [tb_y227]; exact tb_g (tb_8 (List.mem_of_getElem? (i := 176) rfl)) rfl, tb_v227.1, tb_v227.2.1, tb_v227.2.2.1, by decide, by decide, by decide, ⟨_, _, by rw [tb_y227]; rfl⟩, tb_v227.2.2.2⟩
theorem tb_v228 : Cond.instanceMethod (pm_y 228) ∈ iv_T ∧ Cond.selects (pm_y 228).cls (pm_y 228) (pm_y 228) ∈ iv_T ∧ pm_h 228 = [] ∧ (parseMethodDescriptor (pm_y 228).desc).map (fun d => d.parameters.length) = some 1 := by
  rw [tb_y228]
  exact ⟨tb_g (tb_8 (List.mem_of_getElem? (i := 182) rfl)) rfl, tb_g (tb_sel (tb_p7 (List.mem_of_getElem? (a := ((⟨"LentNamesModel", "payer", "(I)I"⟩ : MethodName), 36)) (i := 7) rfl))) rfl, rfl, by decide +kernel⟩
theorem tl_LentNamesModel_362_0 : iv_LV "LentNamesModel" 362 228 2 12 := ⟨by rw [tb_y228]; exact tb_g (tb_8 (List.mem_of_getElem? (i := 180) rfl)) rfl, tb_v228.1, tb_v228.2.1, tb_v228.2.2.1, by decide, by decide, by decide, ⟨_, _, by rw [tb_y228]; rfl⟩, tb_v228.2.2.2⟩
theorem tb_v232 : Cond.instanceMethod (pm_y 232) ∈ iv_T ∧ Cond.selects (pm_y 232).cls (pm_y 232) (pm_y 232) ∈ iv_T ∧ pm_h 232 = [] ∧ (parseMethodDescriptor (pm_y 232).desc).map (fun d => d.parameters.length) = some 0 := by
  rw [tb_y232]
  exact ⟨tb_g (tb_8 (List.mem_of_getElem? (i := 202) rfl)) rfl, tb_g (tb_sel (tb_p7 (List.mem_of_getElem? (a := ((⟨"LentNamesModel", "paysAll", "()V"⟩ : MethodName), 36)) (i := 9) rfl))) rfl, rfl, by decide +kernel⟩
theorem tl_LentNamesModel_368_0 : iv_LV "LentNamesModel" 368 232 1 12 := ⟨by rw [tb_y232]; exact tb_g (tb_8 (List.mem_of_getElem? (i := 200) rfl)) rfl, tb_v232.1, tb_v232.2.1, tb_v232.2.2.1, by decide, by decide, by decide, ⟨_, _, by rw [tb_y232]; rfl⟩, tb_v232.2.2.2⟩
theorem tb_v236 : Cond.instanceMethod (pm_y 236) ∈ iv_T ∧ Cond.selects (pm_y 236).cls (pm_y 236) (pm_y 236) ∈ iv_T ∧ pm_h 236 = [] ∧ (parseMethodDescriptor (pm_y 236).desc).map (fun d => d.parameters.length) = some 1 := by
  rw [tb_y236]
  exact ⟨tb_g (tb_8 (List.mem_of_getElem? (i := 218) rfl)) rfl, tb_g (tb_sel (tb_p7 (List.mem_of_getElem? (a := ((⟨"LentNamesModel", "handsOf", "(I)I"⟩ : MethodName), 36)) (i := 10) rfl))) rfl, rfl, by decide +kernel⟩
theorem tl_LentNamesModel_371_0 : iv_LV "LentNamesModel" 371 236 2 12 := ⟨by rw [tb_y236]; exact tb_g (tb_8 (List.mem_of_getElem? (i := 216) rfl)) rfl, tb_v236.1, tb_v236.2.1, tb_v236.2.2.1, by decide, by decide, by decide, ⟨_, _, by rw [tb_y236]; rfl⟩, tb_v236.2.2.2⟩
theorem tl_LentNamesModel_379_2 : iv_LS "LentNamesModel" 379 242 1 := by
  unfold iv_LS
  rw [tb_y242]
  exact ⟨tb_g (tb_9 (List.mem_of_getElem? (i := 59) rfl)) rfl, tb_g (tb_9 (List.mem_of_getElem? (i := 60) rfl)) rfl, by decide +kernel⟩
theorem tl_LentNamesModel_382_2 : iv_LS "LentNamesModel" 382 243 1 := by
  unfold iv_LS
  rw [tb_y243]
  exact ⟨tb_g (tb_9 (List.mem_of_getElem? (i := 62) rfl)) rfl, tb_g (tb_9 (List.mem_of_getElem? (i := 63) rfl)) rfl, by decide +kernel⟩
theorem tl_LentNamesModel_385_2 : iv_LS "LentNamesModel" 385 244 1 := by
  unfold iv_LS
  rw [tb_y244]
  exact ⟨tb_g (tb_9 (List.mem_of_getElem? (i := 53) rfl)) rfl, tb_g (tb_9 (List.mem_of_getElem? (i := 54) rfl)) rfl, by decide +kernel⟩
theorem tl_LentNamesModel_388_2 : iv_LS "LentNamesModel" 388 245 1 := by
  unfold iv_LS
  rw [tb_y245]
  exact ⟨tb_g (tb_9 (List.mem_of_getElem? (i := 56) rfl)) rfl, tb_g (tb_9 (List.mem_of_getElem? (i := 57) rfl)) rfl, by decide +kernel⟩
theorem tb_v164 : Cond.instanceMethod (pm_y 164) ∈ iv_T ∧ Cond.selects (pm_y 164).cls (pm_y 164) (pm_y 164) ∈ iv_T ∧ pm_h 164 = [] ∧ (parseMethodDescriptor (pm_y 164).desc).map (fun d => d.parameters.length) = some 2 := by
  rw [tb_y164]
  exact ⟨tb_g (tb_9 (List.mem_of_getElem? (i := 35) rfl)) rfl, tb_g (tb_sel (tb_p8 (List.mem_of_getElem? (a := ((⟨"LentNamesModel", "ofSight", "(II)I"⟩ : MethodName), 36)) (i := 1) rfl))) rfl, rfl, by decide +kernel⟩
theorem tl_LentNamesModel_391_0 : iv_LV "LentNamesModel" 391 164 3 12 := ⟨by rw [tb_y164]; exact tb_g (tb_9 (List.mem_of_getElem? (i := 33) rfl)) rfl, tb_v164.1, tb_v164.2.1, tb_v164.2.2.1, by decide, by decide, by decide, ⟨_, _, by rw [tb_y164]; rfl⟩, tb_v164.2.2.2⟩
theorem tb_v249 : Cond.instanceMethod (pm_y 249) ∈ iv_T ∧ Cond.selects (pm_y 249).cls (pm_y 249) (pm_y 249) ∈ iv_T ∧ pm_h 249 = [] ∧ (parseMethodDescriptor (pm_y 249).desc).map (fun d => d.parameters.length) = some 1 := by
  rw [tb_y249]
  exact ⟨tb_g (tb_9 (List.mem_of_getElem? (i := 31) rfl)) rfl, tb_g (tb_sel (tb_p8 (List.mem_of_getElem? (a := ((⟨"LentNamesModel", "isKnown", "(I)Z"⟩ : MethodName), 36)) (i := 0) rfl))) rfl, rfl, by decide +kernel⟩
theorem tl_LentNamesModel_403_0 : iv_LV "LentNamesModel" 403 249 2 12 := ⟨by rw [tb_y249]; exact tb_g (tb_9 (List.mem_of_getElem? (i := 29) rfl)) rfl, tb_v249.1, tb_v249.2.1, tb_v249.2.2.1, by decide, by decide, by decide, ⟨_, _, by rw [tb_y249]; rfl⟩, tb_v249.2.2.2⟩
theorem tb_v250 : Cond.instanceMethod (pm_y 250) ∈ iv_T ∧ Cond.selects (pm_y 250).cls (pm_y 250) (pm_y 250) ∈ iv_T ∧ pm_h 250 = [] ∧ (parseMethodDescriptor (pm_y 250).desc).map (fun d => d.parameters.length) = some 1 := by
  rw [tb_y250]
  exact ⟨tb_g (tb_9 (List.mem_of_getElem? (i := 39) rfl)) rfl, tb_g (tb_sel (tb_p8 (List.mem_of_getElem? (a := ((⟨"LentNamesModel", "agrees", "(I)Z"⟩ : MethodName), 36)) (i := 2) rfl))) rfl, rfl, by decide +kernel⟩
theorem tl_LentNamesModel_406_0 : iv_LV "LentNamesModel" 406 250 2 12 := ⟨by rw [tb_y250]; exact tb_g (tb_9 (List.mem_of_getElem? (i := 37) rfl)) rfl, tb_v250.1, tb_v250.2.1, tb_v250.2.2.1, by decide, by decide, by decide, ⟨_, _, by rw [tb_y250]; rfl⟩, tb_v250.2.2.2⟩
theorem tb_v252 : Cond.instanceMethod (pm_y 252) ∈ iv_T ∧ Cond.selects (pm_y 252).cls (pm_y 252) (pm_y 252) ∈ iv_T ∧ pm_h 252 = [] ∧ (parseMethodDescriptor (pm_y 252).desc).map (fun d => d.parameters.length) = some 1 := by
  rw [tb_y252]
  exact ⟨tb_g (tb_9 (List.mem_of_getElem? (i := 7) rfl)) rfl, tb_g (tb_sel (tb_p7 (List.mem_of_getElem? (a := ((⟨"LentNamesModel", "isWished", "(I)Z"⟩ : MethodName), 36)) (i := 11) rfl))) rfl, rfl, by decide +kernel⟩
theorem tl_LentNamesModel_409_0 : iv_LV "LentNamesModel" 409 252 2 12 := ⟨by rw [tb_y252]; exact tb_g (tb_9 (List.mem_of_getElem? (i := 5) rfl)) rfl, tb_v252.1, tb_v252.2.1, tb_v252.2.2.1, by decide, by decide, by decide, ⟨_, _, by rw [tb_y252]; rfl⟩, tb_v252.2.2.2⟩
theorem tb_v253 : Cond.instanceMethod (pm_y 253) ∈ iv_T ∧ Cond.selects (pm_y 253).cls (pm_y 253) (pm_y 253) ∈ iv_T ∧ pm_h 253 = [] ∧ (parseMethodDescriptor (pm_y 253).desc).map (fun d => d.parameters.length) = some 1 := by
  rw [tb_y253]
  exact ⟨tb_g (tb_9 (List.mem_of_getElem? (i := 11) rfl)) rfl, tb_g (tb_sel (tb_p7 (List.mem_of_getElem? (a := ((⟨"LentNamesModel", "isHad", "(I)Z"⟩ : MethodName), 36)) (i := 12) rfl))) rfl, rfl, by decide +kernel⟩
theorem tl_LentNamesModel_412_0 : iv_LV "LentNamesModel" 412 253 2 12 := ⟨by rw [tb_y253]; exact tb_g (tb_9 (List.mem_of_getElem? (i := 9) rfl)) rfl, tb_v253.1, tb_v253.2.1, tb_v253.2.2.1, by decide, by decide, by decide, ⟨_, _, by rw [tb_y253]; rfl⟩, tb_v253.2.2.2⟩
theorem tb_v251 : Cond.instanceMethod (pm_y 251) ∈ iv_T ∧ Cond.selects (pm_y 251).cls (pm_y 251) (pm_y 251) ∈ iv_T ∧ pm_h 251 = [] ∧ (parseMethodDescriptor (pm_y 251).desc).map (fun d => d.parameters.length) = some 1 := by
  rw [tb_y251]
  exact ⟨tb_g (tb_9 (List.mem_of_getElem? (i := 43) rfl)) rfl, tb_g (tb_sel (tb_p8 (List.mem_of_getElem? (a := ((⟨"LentNamesModel", "tooLong", "(I)I"⟩ : MethodName), 36)) (i := 3) rfl))) rfl, rfl, by decide +kernel⟩
theorem tl_LentNamesModel_415_0 : iv_LV "LentNamesModel" 415 251 2 12 := ⟨by rw [tb_y251]; exact tb_g (tb_9 (List.mem_of_getElem? (i := 41) rfl)) rfl, tb_v251.1, tb_v251.2.1, tb_v251.2.2.1, by decide, by decide, by decide, ⟨_, _, by rw [tb_y251]; rfl⟩, tb_v251.2.2.2⟩
theorem tb_v255 : Cond.instanceMethod (pm_y 255) ∈ iv_T ∧ Cond.selects (pm_y 255).cls (pm_y 255) (pm_y 255) ∈ iv_T ∧ pm_h 255 = [] ∧ (parseMethodDescriptor (pm_y 255).desc).map (fun d => d.parameters.length) = some 2 := by
  rw [tb_y255]
  exact ⟨tb_g (tb_9 (List.mem_of_getElem? (i := 75) rfl)) rfl, tb_g (tb_sel (tb_p8 (List.mem_of_getElem? (a := ((⟨"LentNamesModel", "isSeenDay", "(II)Z"⟩ : MethodName), 36)) (i := 8) rfl))) rfl, rfl, by decide +kernel⟩
theorem tl_LentNamesModel_418_0 : iv_LV "LentNamesModel" 418 255 3 12 := ⟨by rw [tb_y255]; exact tb_g (tb_9 (List.mem_of_getElem? (i := 73) rfl)) rfl, tb_v255.1, tb_v255.2.1, tb_v255.2.2.1, by decide, by decide, by decide, ⟨_, _, by rw [tb_y255]; rfl⟩, tb_v255.2.2.2⟩
theorem tb_v256 : Cond.instanceMethod (pm_y 256) ∈ iv_T ∧ Cond.selects (pm_y 256).cls (pm_y 256) (pm_y 256) ∈ iv_T ∧ pm_h 256 = [] ∧ (parseMethodDescriptor (pm_y 256).desc).map (fun d => d.parameters.length) = some 2 := by
  rw [tb_y256]
  exact ⟨tb_g (tb_9 (List.mem_of_getElem? (i := 71) rfl)) rfl, tb_g (tb_sel (tb_p8 (List.mem_of_getElem? (a := ((⟨"LentNamesModel", "isAsked", "(II)Z"⟩ : MethodName), 36)) (i := 7) rfl))) rfl, rfl, by decide +kernel⟩
theorem tl_LentNamesModel_421_0 : iv_LV "LentNamesModel" 421 256 3 12 := ⟨by rw [tb_y256]; exact tb_g (tb_9 (List.mem_of_getElem? (i := 69) rfl)) rfl, tb_v256.1, tb_v256.2.1, tb_v256.2.2.1, by decide, by decide, by decide, ⟨_, _, by rw [tb_y256]; rfl⟩, tb_v256.2.2.2⟩
theorem tb_v247 : Cond.instanceMethod (pm_y 247) ∈ iv_T ∧ Cond.selects (pm_y 247).cls (pm_y 247) (pm_y 247) ∈ iv_T ∧ pm_h 247 = [] ∧ (parseMethodDescriptor (pm_y 247).desc).map (fun d => d.parameters.length) = some 1 := by
  rw [tb_y247]
  exact ⟨tb_g (tb_9 (List.mem_of_getElem? (i := 79) rfl)) rfl, tb_g (tb_sel (tb_p8 (List.mem_of_getElem? (a := ((⟨"LentNamesModel", "canBe", "(I)Z"⟩ : MethodName), 36)) (i := 9) rfl))) rfl, rfl, by decide +kernel⟩
theorem tl_LentNamesModel_424_0 : iv_LV "LentNamesModel" 424 247 2 12 := ⟨by rw [tb_y247]; exact tb_g (tb_9 (List.mem_of_getElem? (i := 77) rfl)) rfl, tb_v247.1, tb_v247.2.1, tb_v247.2.2.1, by decide, by decide, by decide, ⟨_, _, by rw [tb_y247]; rfl⟩, tb_v247.2.2.2⟩
theorem tb_v254 : Cond.instanceMethod (pm_y 254) ∈ iv_T ∧ Cond.selects (pm_y 254).cls (pm_y 254) (pm_y 254) ∈ iv_T ∧ pm_h 254 = [] ∧ (parseMethodDescriptor (pm_y 254).desc).map (fun d => d.parameters.length) = some 1 := by
  rw [tb_y254]
  exact ⟨tb_g (tb_9 (List.mem_of_getElem? (i := 27) rfl)) rfl, tb_g (tb_sel (tb_p7 (List.mem_of_getElem? (a := ((⟨"LentNamesModel", "arrives", "(I)I"⟩ : MethodName), 36)) (i := 15) rfl))) rfl, rfl, by decide +kernel⟩
theorem tl_LentNamesModel_432_0 : iv_LV "LentNamesModel" 432 254 2 12 := ⟨by rw [tb_y254]; exact tb_g (tb_9 (List.mem_of_getElem? (i := 25) rfl)) rfl, tb_v254.1, tb_v254.2.1, tb_v254.2.2.1, by decide, by decide, by decide, ⟨_, _, by rw [tb_y254]; rfl⟩, tb_v254.2.2.2⟩
theorem tb_v258 : Cond.instanceMethod (pm_y 258) ∈ iv_T ∧ Cond.selects (pm_y 258).cls (pm_y 258) (pm_y 258) ∈ iv_T ∧ pm_h 258 = [] ∧ (parseMethodDescriptor (pm_y 258).desc).map (fun d => d.parameters.length) = some 1 := by
  rw [tb_y258]
  exact ⟨tb_g (tb_9 (List.mem_of_getElem? (i := 47) rfl)) rfl, tb_g (tb_sel (tb_p8 (List.mem_of_getElem? (a := ((⟨"LentNamesModel", "keepsFirst", "(I)V"⟩ : MethodName), 36)) (i := 4) rfl))) rfl, rfl, by decide +kernel⟩
theorem tl_LentNamesModel_435_0 : iv_LV "LentNamesModel" 435 258 2 12 := ⟨by rw [tb_y258]; exact tb_g (tb_9 (List.mem_of_getElem? (i := 45) rfl)) rfl, tb_v258.1, tb_v258.2.1, tb_v258.2.2.1, by decide, by decide, by decide, ⟨_, _, by rw [tb_y258]; rfl⟩, tb_v258.2.2.2⟩
theorem tb_v248 : Cond.instanceMethod (pm_y 248) ∈ iv_T ∧ Cond.selects (pm_y 248).cls (pm_y 248) (pm_y 248) ∈ iv_T ∧ pm_h 248 = [] ∧ (parseMethodDescriptor (pm_y 248).desc).map (fun d => d.parameters.length) = some 2 := by
  rw [tb_y248]
  exact ⟨tb_g (tb_9 (List.mem_of_getElem? (i := 51) rfl)) rfl, tb_g (tb_sel (tb_p8 (List.mem_of_getElem? (a := ((⟨"LentNamesModel", "lays", "(IZ)V"⟩ : MethodName), 36)) (i := 5) rfl))) rfl, rfl, by decide +kernel⟩
theorem tl_LentNamesModel_439_0 : iv_LV "LentNamesModel" 439 248 3 12 := ⟨by rw [tb_y248]; exact tb_g (tb_9 (List.mem_of_getElem? (i := 49) rfl)) rfl, tb_v248.1, tb_v248.2.1, tb_v248.2.2.1, by decide, by decide, by decide, ⟨_, _, by rw [tb_y248]; rfl⟩, tb_v248.2.2.2⟩
theorem tb_v257 : Cond.instanceMethod (pm_y 257) ∈ iv_T ∧ Cond.selects (pm_y 257).cls (pm_y 257) (pm_y 257) ∈ iv_T ∧ pm_h 257 = [] ∧ (parseMethodDescriptor (pm_y 257).desc).map (fun d => d.parameters.length) = some 1 := by
  rw [tb_y257]
  exact ⟨tb_g (tb_9 (List.mem_of_getElem? (i := 67) rfl)) rfl, tb_g (tb_sel (tb_p8 (List.mem_of_getElem? (a := ((⟨"LentNamesModel", "nextOf", "(I)I"⟩ : MethodName), 36)) (i := 6) rfl))) rfl, rfl, by decide +kernel⟩
theorem tl_LentNamesModel_443_0 : iv_LV "LentNamesModel" 443 257 2 12 := ⟨by rw [tb_y257]; exact tb_g (tb_9 (List.mem_of_getElem? (i := 65) rfl)) rfl, tb_v257.1, tb_v257.2.1, tb_v257.2.2.1, by decide, by decide, by decide, ⟨_, _, by rw [tb_y257]; rfl⟩, tb_v257.2.2.2⟩
theorem tb_v259 : Cond.instanceMethod (pm_y 259) ∈ iv_T ∧ Cond.selects (pm_y 259).cls (pm_y 259) (pm_y 259) ∈ iv_T ∧ pm_h 259 = [] ∧ (parseMethodDescriptor (pm_y 259).desc).map (fun d => d.parameters.length) = some 1 := by
  rw [tb_y259]
  exact ⟨tb_g (tb_9 (List.mem_of_getElem? (i := 23) rfl)) rfl, tb_g (tb_sel (tb_p7 (List.mem_of_getElem? (a := ((⟨"LentNamesModel", "goes", "(I)Z"⟩ : MethodName), 36)) (i := 14) rfl))) rfl, rfl, by decide +kernel⟩
theorem tl_LentNamesModel_446_0 : iv_LV "LentNamesModel" 446 259 2 12 := ⟨by rw [tb_y259]; exact tb_g (tb_9 (List.mem_of_getElem? (i := 21) rfl)) rfl, tb_v259.1, tb_v259.2.1, tb_v259.2.2.1, by decide, by decide, by decide, ⟨_, _, by rw [tb_y259]; rfl⟩, tb_v259.2.2.2⟩
theorem tb_v260 : Cond.instanceMethod (pm_y 260) ∈ iv_T ∧ Cond.selects (pm_y 260).cls (pm_y 260) (pm_y 260) ∈ iv_T ∧ pm_h 260 = [] ∧ (parseMethodDescriptor (pm_y 260).desc).map (fun d => d.parameters.length) = some 1 := by
  rw [tb_y260]
  exact ⟨tb_g (tb_9 (List.mem_of_getElem? (i := 19) rfl)) rfl, tb_g (tb_sel (tb_p7 (List.mem_of_getElem? (a := ((⟨"LentNamesModel", "needed", "(I)I"⟩ : MethodName), 36)) (i := 13) rfl))) rfl, rfl, by decide +kernel⟩
theorem tl_LentNamesModel_449_0 : iv_LV "LentNamesModel" 449 260 2 12 := ⟨by rw [tb_y260]; exact tb_g (tb_9 (List.mem_of_getElem? (i := 17) rfl)) rfl, tb_v260.1, tb_v260.2.1, tb_v260.2.2.1, by decide, by decide, by decide, ⟨_, _, by rw [tb_y260]; rfl⟩, tb_v260.2.2.2⟩
theorem tl_LentNamesModel_452_2 : iv_LS "LentNamesModel" 452 246 1 := by
  unfold iv_LS
  rw [tb_y246]
  exact ⟨tb_g (tb_9 (List.mem_of_getElem? (i := 81) rfl)) rfl, tb_g (tb_9 (List.mem_of_getElem? (i := 82) rfl)) rfl, by decide +kernel⟩
