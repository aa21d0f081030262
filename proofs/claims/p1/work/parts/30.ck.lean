/-! ===== the packed words are the code, method by method ===== -/
noncomputable abbrev iv_k (mi pc : Nat) : Bool := iv_ck kf km kw kt kq kb ki kz mi pc
theorem iv_cka {mi : Nat} (len : Nat) (h1 : pg_c mi < 2 ^ (96 * len)) (h2 : ∀ pc, pc < len → iv_k mi pc = true) : ∀ pc, iv_k mi pc = true := by
  intro pc
  rcases Nat.lt_or_ge pc len with h | h
  · exact h2 pc h
  · have e : pg_c mi >>> (96 * pc) = 0 := by
      rw [Nat.shiftRight_eq_div_pow]
      exact Nat.div_eq_of_lt (Nat.lt_of_lt_of_le h1 (Nat.pow_le_pow_right (by decide) (Nat.mul_le_mul_left 96 h)))
    have e2 : iv_wd mi pc = 0 := by
      show pg_c mi >>> (96 * pc) % _ = 0
      rw [e]
    unfold iv_k iv_ck
    rw [e2]
    rfl
theorem iv_ck0 {mi : Nat} (h1 : pg_c mi = 0) : ∀ pc, iv_k mi pc = true := iv_cka 0 (by rw [h1]; decide) (fun pc h => absurd h (Nat.not_lt_zero _))
theorem ck_0 : ∀ pc, iv_k 0 pc = true := iv_cka 13 (by decide +kernel) (by decide +kernel)
theorem ck_1 : ∀ pc, iv_k 1 pc = true := iv_cka 92 (by decide +kernel) (by decide +kernel)
theorem ck_2 : ∀ pc, iv_k 2 pc = true := iv_ck0 rfl
theorem ck_3 : ∀ pc, iv_k 3 pc = true := iv_cka 115 (by decide +kernel) (by decide +kernel)
theorem ck_4 : ∀ pc, iv_k 4 pc = true := iv_cka 63 (by decide +kernel) (by decide +kernel)
theorem ck_5 : ∀ pc, iv_k 5 pc = true := iv_cka 24 (by decide +kernel) (by decide +kernel)
theorem ck_6 : ∀ pc, iv_k 6 pc = true := iv_cka 24 (by decide +kernel) (by decide +kernel)
theorem ck_7 : ∀ pc, iv_k 7 pc = true := iv_cka 37 (by decide +kernel) (by decide +kernel)
theorem ck_8 : ∀ pc, iv_k 8 pc = true := iv_cka 43 (by decide +kernel) (by decide +kernel)
theorem ck_9 : ∀ pc, iv_k 9 pc = true := iv_cka 43 (by decide +kernel) (by decide +kernel)
theorem ck_10 : ∀ pc, iv_k 10 pc = true := iv_cka 38 (by decide +kernel) (by decide +kernel)
theorem ck_11 : ∀ pc, iv_k 11 pc = true := iv_ck0 rfl
theorem ck_12 : ∀ pc, iv_k 12 pc = true := iv_ck0 rfl
theorem ck_13 : ∀ pc, iv_k 13 pc = true := iv_ck0 rfl
theorem ck_14 : ∀ pc, iv_k 14 pc = true := iv_cka 39 (by decide +kernel) (by decide +kernel)
theorem ck_15 : ∀ pc, iv_k 15 pc = true := iv_cka 26 (by decide +kernel) (by decide +kernel)
theorem ck_16 : ∀ pc, iv_k 16 pc = true := iv_cka 132 (by decide +kernel) (by decide +kernel)
theorem ck_17 : ∀ pc, iv_k 17 pc = true := iv_cka 63 (by decide +kernel) (by decide +kernel)
theorem ck_18 : ∀ pc, iv_k 18 pc = true := iv_ck0 rfl
theorem ck_19 : ∀ pc, iv_k 19 pc = true := iv_ck0 rfl
theorem ck_20 : ∀ pc, iv_k 20 pc = true := iv_cka 80 (by decide +kernel) (by decide +kernel)
theorem ck_21 : ∀ pc, iv_k 21 pc = true := iv_cka 122 (by decide +kernel) (by decide +kernel)
theorem ck_22 : ∀ pc, iv_k 22 pc = true := iv_ck0 rfl
theorem ck_23 : ∀ pc, iv_k 23 pc = true := iv_ck0 rfl
theorem ck_24 : ∀ pc, iv_k 24 pc = true := iv_ck0 rfl
theorem ck_25 : ∀ pc, iv_k 25 pc = true := iv_ck0 rfl
theorem ck_26 : ∀ pc, iv_k 26 pc = true := iv_cka 112 (by decide +kernel) (by decide +kernel)
theorem ck_27 : ∀ pc, iv_k 27 pc = true := iv_cka 63 (by decide +kernel) (by decide +kernel)
theorem ck_28 : ∀ pc, iv_k 28 pc = true := iv_cka 26 (by decide +kernel) (by decide +kernel)
theorem ck_29 : ∀ pc, iv_k 29 pc = true := iv_ck0 rfl
theorem ck_30 : ∀ pc, iv_k 30 pc = true := iv_ck0 rfl
theorem ck_31 : ∀ pc, iv_k 31 pc = true := iv_cka 29 (by decide +kernel) (by decide +kernel)
theorem ck_32 : ∀ pc, iv_k 32 pc = true := iv_cka 38 (by decide +kernel) (by decide +kernel)
theorem ck_33 : ∀ pc, iv_k 33 pc = true := iv_ck0 rfl
theorem ck_34 : ∀ pc, iv_k 34 pc = true := iv_cka 22 (by decide +kernel) (by decide +kernel)
theorem ck_35 : ∀ pc, iv_k 35 pc = true := iv_cka 11 (by decide +kernel) (by decide +kernel)
theorem ck_36 : ∀ pc, iv_k 36 pc = true := iv_ck0 rfl
theorem ck_37 : ∀ pc, iv_k 37 pc = true := iv_cka 33 (by decide +kernel) (by decide +kernel)
theorem ck_38 : ∀ pc, iv_k 38 pc = true := iv_ck0 rfl
theorem ck_39 : ∀ pc, iv_k 39 pc = true := iv_ck0 rfl
theorem ck_40 : ∀ pc, iv_k 40 pc = true := iv_ck0 rfl
theorem ck_41 : ∀ pc, iv_k 41 pc = true := iv_ck0 rfl
theorem ck_42 : ∀ pc, iv_k 42 pc = true := iv_ck0 rfl
theorem ck_43 : ∀ pc, iv_k 43 pc = true := iv_cka 15 (by decide +kernel) (by decide +kernel)
theorem ck_44 : ∀ pc, iv_k 44 pc = true := iv_cka 31 (by decide +kernel) (by decide +kernel)
theorem ck_45 : ∀ pc, iv_k 45 pc = true := iv_ck0 rfl
theorem ck_46 : ∀ pc, iv_k 46 pc = true := iv_ck0 rfl
theorem ck_47 : ∀ pc, iv_k 47 pc = true := iv_ck0 rfl
theorem ck_48 : ∀ pc, iv_k 48 pc = true := iv_ck0 rfl
theorem ck_49 : ∀ pc, iv_k 49 pc = true := iv_ck0 rfl
theorem ck_50 : ∀ pc, iv_k 50 pc = true := iv_ck0 rfl
theorem ck_51 : ∀ pc, iv_k 51 pc = true := iv_ck0 rfl
theorem ck_52 : ∀ pc, iv_k 52 pc = true := iv_cka 6 (by decide +kernel) (by decide +kernel)
theorem ck_53 : ∀ pc, iv_k 53 pc = true := iv_cka 2 (by decide +kernel) (by decide +kernel)
theorem ck_54 : ∀ pc, iv_k 54 pc = true := iv_ck0 rfl
theorem ck_55 : ∀ pc, iv_k 55 pc = true := iv_cka 24 (by decide +kernel) (by decide +kernel)
theorem ck_56 : ∀ pc, iv_k 56 pc = true := iv_cka 20 (by decide +kernel) (by decide +kernel)
theorem ck_57 : ∀ pc, iv_k 57 pc = true := iv_cka 103 (by decide +kernel) (by decide +kernel)
theorem ck_58 : ∀ pc, iv_k 58 pc = true := iv_cka 131 (by decide +kernel) (by decide +kernel)
theorem ck_59 : ∀ pc, iv_k 59 pc = true := iv_cka 6 (by decide +kernel) (by decide +kernel)
theorem ck_60 : ∀ pc, iv_k 60 pc = true := iv_cka 2 (by decide +kernel) (by decide +kernel)
theorem ck_61 : ∀ pc, iv_k 61 pc = true := iv_ck0 rfl
theorem ck_62 : ∀ pc, iv_k 62 pc = true := iv_cka 109 (by decide +kernel) (by decide +kernel)
theorem ck_63 : ∀ pc, iv_k 63 pc = true := iv_cka 90 (by decide +kernel) (by decide +kernel)
theorem ck_64 : ∀ pc, iv_k 64 pc = true := iv_ck0 rfl
theorem ck_65 : ∀ pc, iv_k 65 pc = true := iv_cka 19 (by decide +kernel) (by decide +kernel)
theorem ck_66 : ∀ pc, iv_k 66 pc = true := iv_ck0 rfl
theorem ck_67 : ∀ pc, iv_k 67 pc = true := iv_ck0 rfl
theorem ck_68 : ∀ pc, iv_k 68 pc = true := iv_cka 52 (by decide +kernel) (by decide +kernel)
theorem ck_69 : ∀ pc, iv_k 69 pc = true := iv_ck0 rfl
theorem ck_70 : ∀ pc, iv_k 70 pc = true := iv_cka 35 (by decide +kernel) (by decide +kernel)
theorem ck_71 : ∀ pc, iv_k 71 pc = true := iv_cka 14 (by decide +kernel) (by decide +kernel)
theorem ck_72 : ∀ pc, iv_k 72 pc = true := iv_cka 50 (by decide +kernel) (by decide +kernel)
theorem ck_73 : ∀ pc, iv_k 73 pc = true := iv_cka 6 (by decide +kernel) (by decide +kernel)
theorem ck_74 : ∀ pc, iv_k 74 pc = true := iv_cka 17 (by decide +kernel) (by decide +kernel)
theorem ck_75 : ∀ pc, iv_k 75 pc = true := iv_ck0 rfl
theorem ck_76 : ∀ pc, iv_k 76 pc = true := iv_ck0 rfl
theorem ck_77 : ∀ pc, iv_k 77 pc = true := iv_ck0 rfl
theorem ck_78 : ∀ pc, iv_k 78 pc = true := iv_ck0 rfl
theorem ck_79 : ∀ pc, iv_k 79 pc = true := iv_ck0 rfl
theorem ck_80 : ∀ pc, iv_k 80 pc = true := iv_cka 44 (by decide +kernel) (by decide +kernel)
theorem ck_81 : ∀ pc, iv_k 81 pc = true := iv_ck0 rfl
theorem ck_82 : ∀ pc, iv_k 82 pc = true := iv_ck0 rfl
theorem ck_83 : ∀ pc, iv_k 83 pc = true := iv_cka 116 (by decide +kernel) (by decide +kernel)
theorem ck_84 : ∀ pc, iv_k 84 pc = true := iv_cka 110 (by decide +kernel) (by decide +kernel)
theorem ck_85 : ∀ pc, iv_k 85 pc = true := iv_cka 22 (by decide +kernel) (by decide +kernel)
theorem ck_86 : ∀ pc, iv_k 86 pc = true := iv_cka 17 (by decide +kernel) (by decide +kernel)
theorem ck_87 : ∀ pc, iv_k 87 pc = true := iv_cka 42 (by decide +kernel) (by decide +kernel)
theorem ck_88 : ∀ pc, iv_k 88 pc = true := iv_cka 34 (by decide +kernel) (by decide +kernel)
theorem ck_89 : ∀ pc, iv_k 89 pc = true := iv_cka 39 (by decide +kernel) (by decide +kernel)
theorem ck_90 : ∀ pc, iv_k 90 pc = true := iv_cka 29 (by decide +kernel) (by decide +kernel)
theorem ck_91 : ∀ pc, iv_k 91 pc = true := iv_cka 15 (by decide +kernel) (by decide +kernel)
theorem ck_92 : ∀ pc, iv_k 92 pc = true := iv_cka 24 (by decide +kernel) (by decide +kernel)
theorem ck_93 : ∀ pc, iv_k 93 pc = true := iv_ck0 rfl
theorem ck_94 : ∀ pc, iv_k 94 pc = true := iv_ck0 rfl
theorem ck_95 : ∀ pc, iv_k 95 pc = true := iv_ck0 rfl
theorem ck_96 : ∀ pc, iv_k 96 pc = true := iv_ck0 rfl
theorem ck_97 : ∀ pc, iv_k 97 pc = true := iv_ck0 rfl
theorem ck_98 : ∀ pc, iv_k 98 pc = true := iv_ck0 rfl
theorem ck_99 : ∀ pc, iv_k 99 pc = true := iv_ck0 rfl
theorem ck_100 : ∀ pc, iv_k 100 pc = true := iv_ck0 rfl
theorem ck_101 : ∀ pc, iv_k 101 pc = true := iv_ck0 rfl
theorem ck_102 : ∀ pc, iv_k 102 pc = true := iv_ck0 rfl
theorem ck_103 : ∀ pc, iv_k 103 pc = true := iv_cka 160 (by decide +kernel) (by decide +kernel)
theorem ck_104 : ∀ pc, iv_k 104 pc = true := iv_cka 68 (by decide +kernel) (by decide +kernel)
theorem ck_105 : ∀ pc, iv_k 105 pc = true := iv_cka 27 (by decide +kernel) (by decide +kernel)
theorem ck_106 : ∀ pc, iv_k 106 pc = true := iv_cka 93 (by decide +kernel) (by decide +kernel)
theorem ck_107 : ∀ pc, iv_k 107 pc = true := iv_cka 5 (by decide +kernel) (by decide +kernel)
theorem ck_108 : ∀ pc, iv_k 108 pc = true := iv_cka 64 (by decide +kernel) (by decide +kernel)
theorem ck_109 : ∀ pc, iv_k 109 pc = true := iv_cka 54 (by decide +kernel) (by decide +kernel)
theorem ck_110 : ∀ pc, iv_k 110 pc = true := iv_cka 19 (by decide +kernel) (by decide +kernel)
theorem ck_111 : ∀ pc, iv_k 111 pc = true := iv_cka 19 (by decide +kernel) (by decide +kernel)
theorem ck_112 : ∀ pc, iv_k 112 pc = true := iv_cka 19 (by decide +kernel) (by decide +kernel)
theorem ck_113 : ∀ pc, iv_k 113 pc = true := iv_cka 20 (by decide +kernel) (by decide +kernel)
theorem ck_114 : ∀ pc, iv_k 114 pc = true := iv_cka 14 (by decide +kernel) (by decide +kernel)
theorem ck_115 : ∀ pc, iv_k 115 pc = true := iv_cka 46 (by decide +kernel) (by decide +kernel)
theorem ck_116 : ∀ pc, iv_k 116 pc = true := iv_cka 23 (by decide +kernel) (by decide +kernel)
theorem ck_117 : ∀ pc, iv_k 117 pc = true := iv_cka 49 (by decide +kernel) (by decide +kernel)
theorem ck_118 : ∀ pc, iv_k 118 pc = true := iv_cka 27 (by decide +kernel) (by decide +kernel)
theorem ck_119 : ∀ pc, iv_k 119 pc = true := iv_cka 32 (by decide +kernel) (by decide +kernel)
theorem ck_120 : ∀ pc, iv_k 120 pc = true := iv_cka 67 (by decide +kernel) (by decide +kernel)
theorem ck_121 : ∀ pc, iv_k 121 pc = true := iv_cka 44 (by decide +kernel) (by decide +kernel)
theorem ck_122 : ∀ pc, iv_k 122 pc = true := iv_cka 9 (by decide +kernel) (by decide +kernel)
theorem ck_123 : ∀ pc, iv_k 123 pc = true := iv_cka 84 (by decide +kernel) (by decide +kernel)
theorem ck_124 : ∀ pc, iv_k 124 pc = true := iv_cka 9 (by decide +kernel) (by decide +kernel)
theorem ck_125 : ∀ pc, iv_k 125 pc = true := iv_cka 9 (by decide +kernel) (by decide +kernel)
theorem ck_126 : ∀ pc, iv_k 126 pc = true := iv_cka 93 (by decide +kernel) (by decide +kernel)
theorem ck_127 : ∀ pc, iv_k 127 pc = true := iv_cka 67 (by decide +kernel) (by decide +kernel)
theorem ck_128 : ∀ pc, iv_k 128 pc = true := iv_cka 9 (by decide +kernel) (by decide +kernel)
theorem ck_129 : ∀ pc, iv_k 129 pc = true := iv_cka 58 (by decide +kernel) (by decide +kernel)
theorem ck_130 : ∀ pc, iv_k 130 pc = true := iv_cka 49 (by decide +kernel) (by decide +kernel)
theorem ck_131 : ∀ pc, iv_k 131 pc = true := iv_cka 30 (by decide +kernel) (by decide +kernel)
theorem ck_132 : ∀ pc, iv_k 132 pc = true := iv_cka 23 (by decide +kernel) (by decide +kernel)
theorem ck_133 : ∀ pc, iv_k 133 pc = true := iv_cka 9 (by decide +kernel) (by decide +kernel)
theorem ck_134 : ∀ pc, iv_k 134 pc = true := iv_cka 43 (by decide +kernel) (by decide +kernel)
theorem ck_135 : ∀ pc, iv_k 135 pc = true := iv_cka 9 (by decide +kernel) (by decide +kernel)
theorem ck_136 : ∀ pc, iv_k 136 pc = true := iv_cka 79 (by decide +kernel) (by decide +kernel)
theorem ck_137 : ∀ pc, iv_k 137 pc = true := iv_cka 81 (by decide +kernel) (by decide +kernel)
theorem ck_138 : ∀ pc, iv_k 138 pc = true := iv_cka 17 (by decide +kernel) (by decide +kernel)
theorem ck_139 : ∀ pc, iv_k 139 pc = true := iv_cka 9 (by decide +kernel) (by decide +kernel)
theorem ck_140 : ∀ pc, iv_k 140 pc = true := iv_cka 180 (by decide +kernel) (by decide +kernel)
theorem ck_141 : ∀ pc, iv_k 141 pc = true := iv_cka 28 (by decide +kernel) (by decide +kernel)
theorem ck_142 : ∀ pc, iv_k 142 pc = true := iv_cka 19 (by decide +kernel) (by decide +kernel)
theorem ck_143 : ∀ pc, iv_k 143 pc = true := iv_cka 26 (by decide +kernel) (by decide +kernel)
theorem ck_144 : ∀ pc, iv_k 144 pc = true := iv_cka 27 (by decide +kernel) (by decide +kernel)
theorem ck_145 : ∀ pc, iv_k 145 pc = true := iv_cka 27 (by decide +kernel) (by decide +kernel)
theorem ck_146 : ∀ pc, iv_k 146 pc = true := iv_cka 22 (by decide +kernel) (by decide +kernel)
theorem ck_147 : ∀ pc, iv_k 147 pc = true := iv_cka 13 (by decide +kernel) (by decide +kernel)
theorem ck_148 : ∀ pc, iv_k 148 pc = true := iv_cka 15 (by decide +kernel) (by decide +kernel)
theorem ck_149 : ∀ pc, iv_k 149 pc = true := iv_cka 7 (by decide +kernel) (by decide +kernel)
theorem ck_150 : ∀ pc, iv_k 150 pc = true := iv_cka 7 (by decide +kernel) (by decide +kernel)
theorem ck_151 : ∀ pc, iv_k 151 pc = true := iv_ck0 rfl
theorem ck_152 : ∀ pc, iv_k 152 pc = true := iv_cka 5 (by decide +kernel) (by decide +kernel)
theorem ck_153 : ∀ pc, iv_k 153 pc = true := iv_cka 11 (by decide +kernel) (by decide +kernel)
theorem ck_154 : ∀ pc, iv_k 154 pc = true := iv_cka 16 (by decide +kernel) (by decide +kernel)
theorem ck_155 : ∀ pc, iv_k 155 pc = true := iv_cka 214 (by decide +kernel) (by decide +kernel)
theorem ck_156 : ∀ pc, iv_k 156 pc = true := iv_cka 38 (by decide +kernel) (by decide +kernel)
theorem ck_157 : ∀ pc, iv_k 157 pc = true := iv_cka 14 (by decide +kernel) (by decide +kernel)
theorem ck_158 : ∀ pc, iv_k 158 pc = true := iv_cka 7 (by decide +kernel) (by decide +kernel)
theorem ck_159 : ∀ pc, iv_k 159 pc = true := iv_cka 22 (by decide +kernel) (by decide +kernel)
theorem ck_160 : ∀ pc, iv_k 160 pc = true := iv_cka 7 (by decide +kernel) (by decide +kernel)
theorem ck_161 : ∀ pc, iv_k 161 pc = true := iv_cka 16 (by decide +kernel) (by decide +kernel)
theorem ck_162 : ∀ pc, iv_k 162 pc = true := iv_ck0 rfl
theorem ck_163 : ∀ pc, iv_k 163 pc = true := iv_ck0 rfl
theorem ck_164 : ∀ pc, iv_k 164 pc = true := iv_ck0 rfl
theorem ck_165 : ∀ pc, iv_k 165 pc = true := iv_ck0 rfl
theorem ck_166 : ∀ pc, iv_k 166 pc = true := iv_cka 122 (by decide +kernel) (by decide +kernel)
theorem ck_167 : ∀ pc, iv_k 167 pc = true := iv_cka 26 (by decide +kernel) (by decide +kernel)
theorem ck_168 : ∀ pc, iv_k 168 pc = true := iv_cka 43 (by decide +kernel) (by decide +kernel)
theorem ck_169 : ∀ pc, iv_k 169 pc = true := iv_cka 33 (by decide +kernel) (by decide +kernel)
theorem ck_170 : ∀ pc, iv_k 170 pc = true := iv_ck0 rfl
theorem ck_171 : ∀ pc, iv_k 171 pc = true := iv_ck0 rfl
theorem ck_172 : ∀ pc, iv_k 172 pc = true := iv_ck0 rfl
theorem ck_173 : ∀ pc, iv_k 173 pc = true := iv_ck0 rfl
theorem ck_174 : ∀ pc, iv_k 174 pc = true := iv_ck0 rfl
theorem ck_175 : ∀ pc, iv_k 175 pc = true := iv_ck0 rfl
theorem ck_176 : ∀ pc, iv_k 176 pc = true := iv_cka 10 (by decide +kernel) (by decide +kernel)
theorem ck_177 : ∀ pc, iv_k 177 pc = true := iv_ck0 rfl
theorem ck_178 : ∀ pc, iv_k 178 pc = true := iv_ck0 rfl
theorem ck_179 : ∀ pc, iv_k 179 pc = true := iv_ck0 rfl
theorem ck_180 : ∀ pc, iv_k 180 pc = true := iv_ck0 rfl
theorem ck_181 : ∀ pc, iv_k 181 pc = true := iv_ck0 rfl
theorem ck_182 : ∀ pc, iv_k 182 pc = true := iv_ck0 rfl
theorem ck_183 : ∀ pc, iv_k 183 pc = true := iv_ck0 rfl
theorem ck_184 : ∀ pc, iv_k 184 pc = true := iv_ck0 rfl
theorem ck_185 : ∀ pc, iv_k 185 pc = true := iv_ck0 rfl
theorem ck_186 : ∀ pc, iv_k 186 pc = true := iv_ck0 rfl
theorem ck_187 : ∀ pc, iv_k 187 pc = true := iv_ck0 rfl
theorem ck_188 : ∀ pc, iv_k 188 pc = true := iv_ck0 rfl
theorem ck_189 : ∀ pc, iv_k 189 pc = true := iv_ck0 rfl
theorem ck_190 : ∀ pc, iv_k 190 pc = true := iv_ck0 rfl
theorem ck_191 : ∀ pc, iv_k 191 pc = true := iv_ck0 rfl
theorem ck_192 : ∀ pc, iv_k 192 pc = true := iv_ck0 rfl
theorem ck_193 : ∀ pc, iv_k 193 pc = true := iv_ck0 rfl
theorem ck_194 : ∀ pc, iv_k 194 pc = true := iv_ck0 rfl
theorem ck_195 : ∀ pc, iv_k 195 pc = true := iv_cka 40 (by decide +kernel) (by decide +kernel)
theorem ck_196 : ∀ pc, iv_k 196 pc = true := iv_cka 141 (by decide +kernel) (by decide +kernel)
theorem ck_197 : ∀ pc, iv_k 197 pc = true := iv_cka 100 (by decide +kernel) (by decide +kernel)
theorem ck_198 : ∀ pc, iv_k 198 pc = true := iv_cka 59 (by decide +kernel) (by decide +kernel)
theorem ck_199 : ∀ pc, iv_k 199 pc = true := iv_ck0 rfl
theorem ck_200 : ∀ pc, iv_k 200 pc = true := iv_ck0 rfl
theorem ck_201 : ∀ pc, iv_k 201 pc = true := iv_cka 19 (by decide +kernel) (by decide +kernel)
theorem ck_202 : ∀ pc, iv_k 202 pc = true := iv_ck0 rfl
theorem ck_203 : ∀ pc, iv_k 203 pc = true := iv_ck0 rfl
theorem ck_204 : ∀ pc, iv_k 204 pc = true := iv_cka 37 (by decide +kernel) (by decide +kernel)
theorem ck_205 : ∀ pc, iv_k 205 pc = true := iv_ck0 rfl
theorem ck_206 : ∀ pc, iv_k 206 pc = true := iv_cka 46 (by decide +kernel) (by decide +kernel)
theorem ck_207 : ∀ pc, iv_k 207 pc = true := iv_cka 45 (by decide +kernel) (by decide +kernel)
theorem ck_208 : ∀ pc, iv_k 208 pc = true := iv_ck0 rfl
theorem ck_209 : ∀ pc, iv_k 209 pc = true := iv_ck0 rfl
theorem ck_210 : ∀ pc, iv_k 210 pc = true := iv_ck0 rfl
theorem ck_211 : ∀ pc, iv_k 211 pc = true := iv_cka 356 (by decide +kernel) (by decide +kernel)
theorem ck_212 : ∀ pc, iv_k 212 pc = true := iv_cka 12 (by decide +kernel) (by decide +kernel)
theorem ck_213 : ∀ pc, iv_k 213 pc = true := iv_cka 46 (by decide +kernel) (by decide +kernel)
theorem ck_214 : ∀ pc, iv_k 214 pc = true := iv_cka 44 (by decide +kernel) (by decide +kernel)
theorem ck_215 : ∀ pc, iv_k 215 pc = true := iv_cka 46 (by decide +kernel) (by decide +kernel)
theorem ck_216 : ∀ pc, iv_k 216 pc = true := iv_cka 136 (by decide +kernel) (by decide +kernel)
theorem ck_217 : ∀ pc, iv_k 217 pc = true := iv_cka 94 (by decide +kernel) (by decide +kernel)
theorem ck_218 : ∀ pc, iv_k 218 pc = true := iv_cka 35 (by decide +kernel) (by decide +kernel)
theorem ck_219 : ∀ pc, iv_k 219 pc = true := iv_cka 60 (by decide +kernel) (by decide +kernel)
theorem ck_220 : ∀ pc, iv_k 220 pc = true := iv_cka 61 (by decide +kernel) (by decide +kernel)
theorem ck_221 : ∀ pc, iv_k 221 pc = true := iv_cka 70 (by decide +kernel) (by decide +kernel)
theorem ck_222 : ∀ pc, iv_k 222 pc = true := iv_cka 48 (by decide +kernel) (by decide +kernel)
theorem ck_223 : ∀ pc, iv_k 223 pc = true := iv_ck0 rfl
theorem ck_224 : ∀ pc, iv_k 224 pc = true := iv_cka 44 (by decide +kernel) (by decide +kernel)
theorem ck_225 : ∀ pc, iv_k 225 pc = true := iv_cka 96 (by decide +kernel) (by decide +kernel)
theorem ck_226 : ∀ pc, iv_k 226 pc = true := iv_cka 7 (by decide +kernel) (by decide +kernel)
theorem ck_227 : ∀ pc, iv_k 227 pc = true := iv_cka 42 (by decide +kernel) (by decide +kernel)
theorem ck_228 : ∀ pc, iv_k 228 pc = true := iv_cka 7 (by decide +kernel) (by decide +kernel)
theorem ck_229 : ∀ pc, iv_k 229 pc = true := iv_ck0 rfl
theorem ck_230 : ∀ pc, iv_k 230 pc = true := iv_cka 20 (by decide +kernel) (by decide +kernel)
theorem ck_231 : ∀ pc, iv_k 231 pc = true := iv_cka 68 (by decide +kernel) (by decide +kernel)
theorem ck_232 : ∀ pc, iv_k 232 pc = true := iv_cka 66 (by decide +kernel) (by decide +kernel)
theorem ck_233 : ∀ pc, iv_k 233 pc = true := iv_cka 139 (by decide +kernel) (by decide +kernel)
theorem ck_234 : ∀ pc, iv_k 234 pc = true := iv_cka 31 (by decide +kernel) (by decide +kernel)
theorem ck_235 : ∀ pc, iv_k 235 pc = true := iv_cka 14 (by decide +kernel) (by decide +kernel)
theorem ck_236 : ∀ pc, iv_k 236 pc = true := iv_cka 20 (by decide +kernel) (by decide +kernel)
theorem ck_237 : ∀ pc, iv_k 237 pc = true := iv_cka 43 (by decide +kernel) (by decide +kernel)
theorem ck_238 : ∀ pc, iv_k 238 pc = true := iv_cka 80 (by decide +kernel) (by decide +kernel)
theorem ck_239 : ∀ pc, iv_k 239 pc = true := iv_cka 48 (by decide +kernel) (by decide +kernel)
theorem ck_240 : ∀ pc, iv_k 240 pc = true := iv_cka 66 (by decide +kernel) (by decide +kernel)
theorem ck_241 : ∀ pc, iv_k 241 pc = true := iv_cka 79 (by decide +kernel) (by decide +kernel)
theorem ck_242 : ∀ pc, iv_k 242 pc = true := iv_cka 59 (by decide +kernel) (by decide +kernel)
theorem ck_243 : ∀ pc, iv_k 243 pc = true := iv_ck0 rfl
theorem ck_244 : ∀ pc, iv_k 244 pc = true := iv_ck0 rfl
theorem ck_245 : ∀ pc, iv_k 245 pc = true := iv_ck0 rfl
theorem ck_246 : ∀ pc, iv_k 246 pc = true := iv_ck0 rfl
theorem ck_247 : ∀ pc, iv_k 247 pc = true := iv_ck0 rfl
theorem ck_248 : ∀ pc, iv_k 248 pc = true := iv_ck0 rfl
theorem ck_249 : ∀ pc, iv_k 249 pc = true := iv_ck0 rfl
theorem ck_250 : ∀ pc, iv_k 250 pc = true := iv_ck0 rfl
theorem ck_251 : ∀ pc, iv_k 251 pc = true := iv_ck0 rfl
theorem ck_252 : ∀ pc, iv_k 252 pc = true := iv_cka 45 (by decide +kernel) (by decide +kernel)
theorem ck_253 : ∀ pc, iv_k 253 pc = true := iv_ck0 rfl
theorem ck_254 : ∀ pc, iv_k 254 pc = true := iv_ck0 rfl
theorem ck_255 : ∀ pc, iv_k 255 pc = true := iv_cka 152 (by decide +kernel) (by decide +kernel)
theorem ck_256 : ∀ pc, iv_k 256 pc = true := iv_ck0 rfl
theorem ck_257 : ∀ pc, iv_k 257 pc = true := iv_ck0 rfl
theorem ck_258 : ∀ pc, iv_k 258 pc = true := iv_ck0 rfl
theorem ck_259 : ∀ pc, iv_k 259 pc = true := iv_cka 69 (by decide +kernel) (by decide +kernel)
theorem ck_260 : ∀ pc, iv_k 260 pc = true := iv_cka 188 (by decide +kernel) (by decide +kernel)
theorem ck_261 : ∀ pc, iv_k 261 pc = true := iv_cka 36 (by decide +kernel) (by decide +kernel)
theorem ck_262 : ∀ pc, iv_k 262 pc = true := iv_cka 41 (by decide +kernel) (by decide +kernel)
theorem ck_263 : ∀ pc, iv_k 263 pc = true := iv_cka 57 (by decide +kernel) (by decide +kernel)
theorem ck_264 : ∀ pc, iv_k 264 pc = true := iv_cka 83 (by decide +kernel) (by decide +kernel)
theorem ck_265 : ∀ pc, iv_k 265 pc = true := iv_cka 49 (by decide +kernel) (by decide +kernel)
theorem ck_266 : ∀ pc, iv_k 266 pc = true := iv_cka 21 (by decide +kernel) (by decide +kernel)
theorem ck_267 : ∀ pc, iv_k 267 pc = true := iv_cka 106 (by decide +kernel) (by decide +kernel)
theorem ck_268 : ∀ pc, iv_k 268 pc = true := iv_cka 128 (by decide +kernel) (by decide +kernel)
theorem ck_269 : ∀ pc, iv_k 269 pc = true := iv_cka 295 (by decide +kernel) (by decide +kernel)
theorem ck_270 : ∀ pc, iv_k 270 pc = true := iv_cka 56 (by decide +kernel) (by decide +kernel)
theorem ck_271 : ∀ pc, iv_k 271 pc = true := iv_cka 6 (by decide +kernel) (by decide +kernel)
theorem ck_272 : ∀ pc, iv_k 272 pc = true := iv_cka 144 (by decide +kernel) (by decide +kernel)
theorem ck_273 : ∀ pc, iv_k 273 pc = true := iv_cka 42 (by decide +kernel) (by decide +kernel)
theorem ck_274 : ∀ pc, iv_k 274 pc = true := iv_ck0 rfl
theorem ck_275 : ∀ pc, iv_k 275 pc = true := iv_cka 62 (by decide +kernel) (by decide +kernel)
theorem ck_276 : ∀ pc, iv_k 276 pc = true := iv_ck0 rfl
theorem ck_277 : ∀ pc, iv_k 277 pc = true := iv_ck0 rfl
theorem ck_278 : ∀ pc, iv_k 278 pc = true := iv_ck0 rfl
theorem ck_279 : ∀ pc, iv_k 279 pc = true := iv_ck0 rfl
theorem ck_280 : ∀ pc, iv_k 280 pc = true := iv_cka 96 (by decide +kernel) (by decide +kernel)
theorem ck_281 : ∀ pc, iv_k 281 pc = true := iv_ck0 rfl
theorem ck_282 : ∀ pc, iv_k 282 pc = true := iv_ck0 rfl
theorem ck_283 : ∀ pc, iv_k 283 pc = true := iv_cka 19 (by decide +kernel) (by decide +kernel)
theorem ck_284 : ∀ pc, iv_k 284 pc = true := iv_cka 16 (by decide +kernel) (by decide +kernel)
theorem ck_285 : ∀ pc, iv_k 285 pc = true := iv_cka 19 (by decide +kernel) (by decide +kernel)
theorem ck_286 : ∀ pc, iv_k 286 pc = true := iv_cka 19 (by decide +kernel) (by decide +kernel)
theorem ck_287 : ∀ pc, iv_k 287 pc = true := iv_cka 19 (by decide +kernel) (by decide +kernel)
theorem ck_288 : ∀ pc, iv_k 288 pc = true := iv_cka 21 (by decide +kernel) (by decide +kernel)
theorem ck_289 : ∀ pc, iv_k 289 pc = true := iv_cka 17 (by decide +kernel) (by decide +kernel)
theorem ck_290 : ∀ pc, iv_k 290 pc = true := iv_cka 17 (by decide +kernel) (by decide +kernel)
theorem ck_291 : ∀ pc, iv_k 291 pc = true := iv_cka 26 (by decide +kernel) (by decide +kernel)
theorem ck_292 : ∀ pc, iv_k 292 pc = true := iv_cka 17 (by decide +kernel) (by decide +kernel)
theorem ck_293 : ∀ pc, iv_k 293 pc = true := iv_cka 19 (by decide +kernel) (by decide +kernel)
theorem ck_294 : ∀ pc, iv_k 294 pc = true := iv_cka 17 (by decide +kernel) (by decide +kernel)
theorem ck_295 : ∀ pc, iv_k 295 pc = true := iv_cka 15 (by decide +kernel) (by decide +kernel)
theorem ck_296 : ∀ pc, iv_k 296 pc = true := iv_cka 17 (by decide +kernel) (by decide +kernel)
theorem ck_297 : ∀ pc, iv_k 297 pc = true := iv_cka 16 (by decide +kernel) (by decide +kernel)
theorem ck_298 : ∀ pc, iv_k 298 pc = true := iv_cka 23 (by decide +kernel) (by decide +kernel)
theorem ck_299 : ∀ pc, iv_k 299 pc = true := iv_cka 17 (by decide +kernel) (by decide +kernel)
theorem ck_300 : ∀ pc, iv_k 300 pc = true := iv_cka 15 (by decide +kernel) (by decide +kernel)
theorem ck_301 : ∀ pc, iv_k 301 pc = true := iv_cka 19 (by decide +kernel) (by decide +kernel)
theorem ck_302 : ∀ pc, iv_k 302 pc = true := iv_cka 17 (by decide +kernel) (by decide +kernel)
theorem ck_303 : ∀ pc, iv_k 303 pc = true := iv_cka 19 (by decide +kernel) (by decide +kernel)
theorem ck_304 : ∀ pc, iv_k 304 pc = true := iv_cka 15 (by decide +kernel) (by decide +kernel)
theorem ck_305 : ∀ pc, iv_k 305 pc = true := iv_cka 23 (by decide +kernel) (by decide +kernel)
theorem ck_306 : ∀ pc, iv_k 306 pc = true := iv_cka 17 (by decide +kernel) (by decide +kernel)
theorem ck_307 : ∀ pc, iv_k 307 pc = true := iv_cka 17 (by decide +kernel) (by decide +kernel)
theorem ck_308 : ∀ pc, iv_k 308 pc = true := iv_cka 19 (by decide +kernel) (by decide +kernel)
theorem ck_309 : ∀ pc, iv_k 309 pc = true := iv_cka 19 (by decide +kernel) (by decide +kernel)
