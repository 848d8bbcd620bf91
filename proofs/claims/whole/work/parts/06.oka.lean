def okP (k : Nat) : Prop := ∀ t ∈ lbl k, okL k t (blk k t) = true
theorem okP_of {k : Nat} (h : okM k = true) : okP k := by
  unfold okM at h
  rw [Bool.and_eq_true] at h
  exact fun t ht => List.all_eq_true.mp h.1 t ht
theorem okM_0_0 : okL 0 0 (blk 0 0) = true := by decide +kernel
theorem okM_0_18 : okL 0 18 (blk 0 18) = true := by decide +kernel
theorem okM_0_212 : okL 0 212 (blk 0 212) = true := by decide +kernel
theorem okM_0_275 : okL 0 275 (blk 0 275) = true := by decide +kernel
theorem okM_0_298 : okL 0 298 (blk 0 298) = true := by decide +kernel
theorem okM_0_311 : okL 0 311 (blk 0 311) = true := by decide +kernel
theorem okM_0_334 : okL 0 334 (blk 0 334) = true := by decide +kernel
theorem okM_0_367 : okL 0 367 (blk 0 367) = true := by decide +kernel
theorem okM_0_400 : okL 0 400 (blk 0 400) = true := by decide +kernel
theorem okM_0_433 : okL 0 433 (blk 0 433) = true := by decide +kernel
theorem okM_0_466 : okL 0 466 (blk 0 466) = true := by decide +kernel
theorem okM_0_489 : okL 0 489 (blk 0 489) = true := by decide +kernel
theorem okM_0_522 : okL 0 522 (blk 0 522) = true := by decide +kernel
theorem okM_0_555 : okL 0 555 (blk 0 555) = true := by decide +kernel
theorem okM_0_588 : okL 0 588 (blk 0 588) = true := by decide +kernel
theorem okM_0_621 : okL 0 621 (blk 0 621) = true := by decide +kernel
theorem okM_0_644 : okL 0 644 (blk 0 644) = true := by decide +kernel
theorem okM_0_667 : okL 0 667 (blk 0 667) = true := by decide +kernel
theorem okM_0_680 : okL 0 680 (blk 0 680) = true := by decide +kernel
theorem okM_0_693 : okL 0 693 (blk 0 693) = true := by decide +kernel
theorem okM_0_706 : okL 0 706 (blk 0 706) = true := by decide +kernel
theorem okM_0_719 : okL 0 719 (blk 0 719) = true := by decide +kernel
theorem okM_0_742 : okL 0 742 (blk 0 742) = true := by decide +kernel
theorem okM_0_775 : okL 0 775 (blk 0 775) = true := by decide +kernel
theorem okM_0_788 : okL 0 788 (blk 0 788) = true := by decide +kernel
theorem okM_0_811 : okL 0 811 (blk 0 811) = true := by decide +kernel
theorem okM_0_834 : okL 0 834 (blk 0 834) = true := by decide +kernel
theorem okM_0_857 : okL 0 857 (blk 0 857) = true := by decide +kernel
theorem okM_0_890 : okL 0 890 (blk 0 890) = true := by decide +kernel
theorem okM_0_914 : okL 0 914 (blk 0 914) = true := by decide +kernel
theorem okM_0_937 : okL 0 937 (blk 0 937) = true := by decide +kernel
theorem okM_0_970 : okL 0 970 (blk 0 970) = true := by decide +kernel
theorem okM_0_1003 : okL 0 1003 (blk 0 1003) = true := by decide +kernel
theorem okM_0_1036 : okL 0 1036 (blk 0 1036) = true := by decide +kernel
theorem okM_0_1079 : okL 0 1079 (blk 0 1079) = true := by decide +kernel
theorem okM_0_1102 : okL 0 1102 (blk 0 1102) = true := by decide +kernel
theorem okM_0_1145 : okL 0 1145 (blk 0 1145) = true := by decide +kernel
theorem okM_0_1168 : okL 0 1168 (blk 0 1168) = true := by decide +kernel
theorem okM_0_1191 : okL 0 1191 (blk 0 1191) = true := by decide +kernel
theorem okM_0_1234 : okL 0 1234 (blk 0 1234) = true := by decide +kernel
theorem okM_0_1277 : okL 0 1277 (blk 0 1277) = true := by decide +kernel
theorem okM_0_1300 : okL 0 1300 (blk 0 1300) = true := by decide +kernel
theorem okM_0_1323 : okL 0 1323 (blk 0 1323) = true := by decide +kernel
theorem okM_0_1346 : okL 0 1346 (blk 0 1346) = true := by decide +kernel
theorem okM_0_1352 : okL 0 1352 (blk 0 1352) = true := by decide +kernel
theorem okM_0 : okP 0 := show ∀ t ∈ lb_0, okL 0 t (blk 0 t) = true from List.forall_mem_cons.mpr ⟨okM_0_0, List.forall_mem_cons.mpr ⟨okM_0_18, List.forall_mem_cons.mpr ⟨okM_0_212, List.forall_mem_cons.mpr ⟨okM_0_275, List.forall_mem_cons.mpr ⟨okM_0_298, List.forall_mem_cons.mpr ⟨okM_0_311, List.forall_mem_cons.mpr ⟨okM_0_334, List.forall_mem_cons.mpr ⟨okM_0_367, List.forall_mem_cons.mpr ⟨okM_0_400, List.forall_mem_cons.mpr ⟨okM_0_433, List.forall_mem_cons.mpr ⟨okM_0_466, List.forall_mem_cons.mpr ⟨okM_0_489, List.forall_mem_cons.mpr ⟨okM_0_522, List.forall_mem_cons.mpr ⟨okM_0_555, List.forall_mem_cons.mpr ⟨okM_0_588, List.forall_mem_cons.mpr ⟨okM_0_621, List.forall_mem_cons.mpr ⟨okM_0_644, List.forall_mem_cons.mpr ⟨okM_0_667, List.forall_mem_cons.mpr ⟨okM_0_680, List.forall_mem_cons.mpr ⟨okM_0_693, List.forall_mem_cons.mpr ⟨okM_0_706, List.forall_mem_cons.mpr ⟨okM_0_719, List.forall_mem_cons.mpr ⟨okM_0_742, List.forall_mem_cons.mpr ⟨okM_0_775, List.forall_mem_cons.mpr ⟨okM_0_788, List.forall_mem_cons.mpr ⟨okM_0_811, List.forall_mem_cons.mpr ⟨okM_0_834, List.forall_mem_cons.mpr ⟨okM_0_857, List.forall_mem_cons.mpr ⟨okM_0_890, List.forall_mem_cons.mpr ⟨okM_0_914, List.forall_mem_cons.mpr ⟨okM_0_937, List.forall_mem_cons.mpr ⟨okM_0_970, List.forall_mem_cons.mpr ⟨okM_0_1003, List.forall_mem_cons.mpr ⟨okM_0_1036, List.forall_mem_cons.mpr ⟨okM_0_1079, List.forall_mem_cons.mpr ⟨okM_0_1102, List.forall_mem_cons.mpr ⟨okM_0_1145, List.forall_mem_cons.mpr ⟨okM_0_1168, List.forall_mem_cons.mpr ⟨okM_0_1191, List.forall_mem_cons.mpr ⟨okM_0_1234, List.forall_mem_cons.mpr ⟨okM_0_1277, List.forall_mem_cons.mpr ⟨okM_0_1300, List.forall_mem_cons.mpr ⟨okM_0_1323, List.forall_mem_cons.mpr ⟨okM_0_1346, List.forall_mem_cons.mpr ⟨okM_0_1352, fun _ h => absurd h List.not_mem_nil⟩⟩⟩⟩⟩⟩⟩⟩⟩⟩⟩⟩⟩⟩⟩⟩⟩⟩⟩⟩⟩⟩⟩⟩⟩⟩⟩⟩⟩⟩⟩⟩⟩⟩⟩⟩⟩⟩⟩⟩⟩⟩⟩⟩⟩
theorem okM_1 : okP 1 := okP_of (by decide +kernel)
theorem okM_2 : okP 2 := okP_of (by decide +kernel)
theorem okM_3 : okP 3 := okP_of (by decide +kernel)
theorem okM_4 : okP 4 := okP_of (by decide +kernel)
theorem okM_5 : okP 5 := okP_of (by decide +kernel)
theorem okM_6 : okP 6 := okP_of (by decide +kernel)
theorem okM_7 : okP 7 := okP_of (by decide +kernel)
theorem okM_8 : okP 8 := okP_of (by decide +kernel)
theorem okM_9 : okP 9 := okP_of (by decide +kernel)
theorem okM_10 : okP 10 := okP_of (by decide +kernel)
theorem okM_11 : okP 11 := okP_of (by decide +kernel)
theorem okM_12 : okP 12 := okP_of (by decide +kernel)
theorem okM_13 : okP 13 := okP_of (by decide +kernel)
theorem okM_14 : okP 14 := okP_of (by decide +kernel)
theorem okM_15 : okP 15 := okP_of (by decide +kernel)
theorem okM_16 : okP 16 := okP_of (by decide +kernel)
theorem okM_17 : okP 17 := okP_of (by decide +kernel)
theorem okM_18 : okP 18 := okP_of (by decide +kernel)
theorem okM_19 : okP 19 := okP_of (by decide +kernel)
theorem okM_20 : okP 20 := okP_of (by decide +kernel)
theorem okM_21 : okP 21 := okP_of (by decide +kernel)
theorem okM_22 : okP 22 := okP_of (by decide +kernel)
theorem okM_23 : okP 23 := okP_of (by decide +kernel)
theorem okM_24 : okP 24 := okP_of (by decide +kernel)
theorem okM_25 : okP 25 := okP_of (by decide +kernel)
theorem okM_26 : okP 26 := okP_of (by decide +kernel)
theorem okM_27 : okP 27 := okP_of (by decide +kernel)
theorem okM_28 : okP 28 := okP_of (by decide +kernel)
theorem okM_29 : okP 29 := okP_of (by decide +kernel)
theorem okM_30 : okP 30 := okP_of (by decide +kernel)
theorem okM_31 : okP 31 := okP_of (by decide +kernel)
theorem okM_32 : okP 32 := okP_of (by decide +kernel)
theorem okM_33 : okP 33 := okP_of (by decide +kernel)
theorem okM_34 : okP 34 := okP_of (by decide +kernel)
theorem okM_35 : okP 35 := okP_of (by decide +kernel)
theorem okM_36 : okP 36 := okP_of (by decide +kernel)
theorem okM_37 : okP 37 := okP_of (by decide +kernel)
theorem okM_38 : okP 38 := okP_of (by decide +kernel)
theorem okM_39 : okP 39 := okP_of (by decide +kernel)
theorem okM_40 : okP 40 := okP_of (by decide +kernel)
theorem okM_41 : okP 41 := okP_of (by decide +kernel)
theorem okM_42 : okP 42 := okP_of (by decide +kernel)
theorem okM_43 : okP 43 := okP_of (by decide +kernel)
theorem okM_44 : okP 44 := okP_of (by decide +kernel)
theorem okM_45 : okP 45 := okP_of (by decide +kernel)
theorem okM_46 : okP 46 := okP_of (by decide +kernel)
theorem okM_47 : okP 47 := okP_of (by decide +kernel)
theorem okM_48 : okP 48 := okP_of (by decide +kernel)
theorem okM_49 : okP 49 := okP_of (by decide +kernel)
theorem okM_50 : okP 50 := okP_of (by decide +kernel)
theorem okM_51 : okP 51 := okP_of (by decide +kernel)
theorem okM_52 : okP 52 := okP_of (by decide +kernel)
theorem okM_53 : okP 53 := okP_of (by decide +kernel)
theorem okM_54 : okP 54 := okP_of (by decide +kernel)
theorem okM_55 : okP 55 := okP_of (by decide +kernel)
theorem okM_56 : okP 56 := okP_of (by decide +kernel)
theorem okM_57 : okP 57 := okP_of (by decide +kernel)
theorem okM_58 : okP 58 := okP_of (by decide +kernel)
theorem okM_59 : okP 59 := okP_of (by decide +kernel)
theorem okM_60 : okP 60 := okP_of (by decide +kernel)
theorem okM_61 : okP 61 := okP_of (by decide +kernel)
theorem okM_62 : okP 62 := okP_of (by decide +kernel)
theorem okM_63 : okP 63 := okP_of (by decide +kernel)
theorem okM_64 : okP 64 := okP_of (by decide +kernel)
theorem okM_65 : okP 65 := okP_of (by decide +kernel)
theorem okM_66 : okP 66 := okP_of (by decide +kernel)
theorem okM_67 : okP 67 := okP_of (by decide +kernel)
theorem okM_68 : okP 68 := okP_of (by decide +kernel)
theorem okM_69 : okP 69 := okP_of (by decide +kernel)
theorem okM_70 : okP 70 := okP_of (by decide +kernel)
theorem okM_71 : okP 71 := okP_of (by decide +kernel)
theorem okM_72 : okP 72 := okP_of (by decide +kernel)
theorem okM_73 : okP 73 := okP_of (by decide +kernel)
theorem okM_74 : okP 74 := okP_of (by decide +kernel)
theorem okM_75 : okP 75 := okP_of (by decide +kernel)
theorem okM_76 : okP 76 := okP_of (by decide +kernel)
theorem okM_77 : okP 77 := okP_of (by decide +kernel)
theorem okM_78 : okP 78 := okP_of (by decide +kernel)
theorem okM_79 : okP 79 := okP_of (by decide +kernel)
theorem okM_80 : okP 80 := okP_of (by decide +kernel)
theorem okM_81 : okP 81 := okP_of (by decide +kernel)
theorem okM_82 : okP 82 := okP_of (by decide +kernel)
theorem okM_83 : okP 83 := okP_of (by decide +kernel)
theorem okM_84 : okP 84 := okP_of (by decide +kernel)
theorem okM_85 : okP 85 := okP_of (by decide +kernel)
theorem okM_86 : okP 86 := okP_of (by decide +kernel)
theorem okM_87 : okP 87 := okP_of (by decide +kernel)
theorem okM_88 : okP 88 := okP_of (by decide +kernel)
theorem okM_89 : okP 89 := okP_of (by decide +kernel)
theorem okM_90 : okP 90 := okP_of (by decide +kernel)
theorem okM_91 : okP 91 := okP_of (by decide +kernel)
theorem okM_92 : okP 92 := okP_of (by decide +kernel)
theorem okM_93 : okP 93 := okP_of (by decide +kernel)
theorem okM_94 : okP 94 := okP_of (by decide +kernel)
theorem okM_95 : okP 95 := okP_of (by decide +kernel)
theorem okM_96 : okP 96 := okP_of (by decide +kernel)
theorem okM_97 : okP 97 := okP_of (by decide +kernel)
theorem okM_98 : okP 98 := okP_of (by decide +kernel)
theorem okM_99 : okP 99 := okP_of (by decide +kernel)
theorem okM_100 : okP 100 := okP_of (by decide +kernel)
theorem okM_101 : okP 101 := okP_of (by decide +kernel)
theorem okM_102 : okP 102 := okP_of (by decide +kernel)
theorem okM_103 : okP 103 := okP_of (by decide +kernel)
theorem okM_104 : okP 104 := okP_of (by decide +kernel)
theorem okM_105 : okP 105 := okP_of (by decide +kernel)
theorem okM_106 : okP 106 := okP_of (by decide +kernel)
theorem okM_107 : okP 107 := okP_of (by decide +kernel)
theorem okM_108 : okP 108 := okP_of (by decide +kernel)
theorem okM_109 : okP 109 := okP_of (by decide +kernel)
theorem okM_110 : okP 110 := okP_of (by decide +kernel)
theorem okM_111 : okP 111 := okP_of (by decide +kernel)
theorem okM_112 : okP 112 := okP_of (by decide +kernel)
theorem okM_113 : okP 113 := okP_of (by decide +kernel)
theorem okM_114 : okP 114 := okP_of (by decide +kernel)
theorem okM_115 : okP 115 := okP_of (by decide +kernel)
theorem okM_116 : okP 116 := okP_of (by decide +kernel)
theorem okM_117 : okP 117 := okP_of (by decide +kernel)
theorem okM_118 : okP 118 := okP_of (by decide +kernel)
theorem okM_119 : okP 119 := okP_of (by decide +kernel)
theorem okM_120 : okP 120 := okP_of (by decide +kernel)
theorem okM_121 : okP 121 := okP_of (by decide +kernel)
theorem okM_122 : okP 122 := okP_of (by decide +kernel)
theorem okM_123 : okP 123 := okP_of (by decide +kernel)
theorem okM_124 : okP 124 := okP_of (by decide +kernel)
theorem okM_125 : okP 125 := okP_of (by decide +kernel)
theorem okM_126 : okP 126 := okP_of (by decide +kernel)
theorem okM_127 : okP 127 := okP_of (by decide +kernel)
theorem okM_128 : okP 128 := okP_of (by decide +kernel)
theorem okM_129 : okP 129 := okP_of (by decide +kernel)
theorem okM_130 : okP 130 := okP_of (by decide +kernel)
theorem okM_131 : okP 131 := okP_of (by decide +kernel)
theorem okM_132 : okP 132 := okP_of (by decide +kernel)
theorem okM_133 : okP 133 := okP_of (by decide +kernel)
theorem okM_134 : okP 134 := okP_of (by decide +kernel)
theorem okM_135 : okP 135 := okP_of (by decide +kernel)
theorem okM_136 : okP 136 := okP_of (by decide +kernel)
theorem okM_137 : okP 137 := okP_of (by decide +kernel)
theorem okM_138 : okP 138 := okP_of (by decide +kernel)
theorem okM_139 : okP 139 := okP_of (by decide +kernel)
theorem okM_140 : okP 140 := okP_of (by decide +kernel)
theorem okM_141 : okP 141 := okP_of (by decide +kernel)
theorem okM_142 : okP 142 := okP_of (by decide +kernel)
theorem okM_143 : okP 143 := okP_of (by decide +kernel)
theorem okM_144 : okP 144 := okP_of (by decide +kernel)
theorem okM_145 : okP 145 := okP_of (by decide +kernel)
theorem okM_146 : okP 146 := okP_of (by decide +kernel)
theorem okM_147 : okP 147 := okP_of (by decide +kernel)
theorem okM_148 : okP 148 := okP_of (by decide +kernel)
theorem okM_149 : okP 149 := okP_of (by decide +kernel)
theorem okM_150 : okP 150 := okP_of (by decide +kernel)
theorem okM_151 : okP 151 := okP_of (by decide +kernel)
theorem okM_152 : okP 152 := okP_of (by decide +kernel)
theorem okM_153 : okP 153 := okP_of (by decide +kernel)
theorem okM_154 : okP 154 := okP_of (by decide +kernel)
theorem okM_155 : okP 155 := okP_of (by decide +kernel)
theorem okM_156 : okP 156 := okP_of (by decide +kernel)
theorem okM_157 : okP 157 := okP_of (by decide +kernel)
theorem okM_158 : okP 158 := okP_of (by decide +kernel)
theorem okM_159 : okP 159 := okP_of (by decide +kernel)
theorem okM_160 : okP 160 := okP_of (by decide +kernel)
theorem okM_161 : okP 161 := okP_of (by decide +kernel)
theorem okM_162 : okP 162 := okP_of (by decide +kernel)
theorem okM_163 : okP 163 := okP_of (by decide +kernel)
theorem okM_164 : okP 164 := okP_of (by decide +kernel)
theorem okM_165 : okP 165 := okP_of (by decide +kernel)
theorem okM_166 : okP 166 := okP_of (by decide +kernel)
theorem okM_167 : okP 167 := okP_of (by decide +kernel)
theorem okM_168 : okP 168 := okP_of (by decide +kernel)
theorem okM_169 : okP 169 := okP_of (by decide +kernel)
theorem okM_170 : okP 170 := okP_of (by decide +kernel)
theorem okM_171 : okP 171 := okP_of (by decide +kernel)
theorem okM_172 : okP 172 := okP_of (by decide +kernel)
theorem okM_173 : okP 173 := okP_of (by decide +kernel)
theorem okM_174 : okP 174 := okP_of (by decide +kernel)
theorem okM_175 : okP 175 := okP_of (by decide +kernel)
theorem okM_176 : okP 176 := okP_of (by decide +kernel)
theorem okM_177 : okP 177 := okP_of (by decide +kernel)
theorem okM_178 : okP 178 := okP_of (by decide +kernel)
theorem okM_179 : okP 179 := okP_of (by decide +kernel)
theorem okM_180 : okP 180 := okP_of (by decide +kernel)
theorem okM_181 : okP 181 := okP_of (by decide +kernel)
theorem okM_182 : okP 182 := okP_of (by decide +kernel)
theorem okM_183 : okP 183 := okP_of (by decide +kernel)
theorem okM_184 : okP 184 := okP_of (by decide +kernel)
theorem okM_185 : okP 185 := okP_of (by decide +kernel)
theorem okM_186 : okP 186 := okP_of (by decide +kernel)
theorem okM_187 : okP 187 := okP_of (by decide +kernel)
theorem okM_188 : okP 188 := okP_of (by decide +kernel)
theorem okM_189 : okP 189 := okP_of (by decide +kernel)
theorem okM_190 : okP 190 := okP_of (by decide +kernel)
theorem okM_191 : okP 191 := okP_of (by decide +kernel)
theorem okM_192 : okP 192 := okP_of (by decide +kernel)
theorem okM_193 : okP 193 := okP_of (by decide +kernel)
theorem okM_194 : okP 194 := okP_of (by decide +kernel)
theorem okM_195 : okP 195 := okP_of (by decide +kernel)
theorem okM_196 : okP 196 := okP_of (by decide +kernel)
theorem okM_197 : okP 197 := okP_of (by decide +kernel)
theorem okM_198 : okP 198 := okP_of (by decide +kernel)
theorem okM_199 : okP 199 := okP_of (by decide +kernel)
theorem okM_200 : okP 200 := okP_of (by decide +kernel)
theorem okM_201 : okP 201 := okP_of (by decide +kernel)
theorem okM_202 : okP 202 := okP_of (by decide +kernel)
theorem okM_203 : okP 203 := okP_of (by decide +kernel)
theorem okM_204_0 : okL 204 0 (blk 204 0) = true := by decide +kernel
theorem okM_204 : okP 204 := show ∀ t ∈ lb_204, okL 204 t (blk 204 t) = true from List.forall_mem_cons.mpr ⟨okM_204_0, fun _ h => absurd h List.not_mem_nil⟩
theorem okM_205 : okP 205 := okP_of (by decide +kernel)
theorem okM_206 : okP 206 := okP_of (by decide +kernel)
theorem okM_207 : okP 207 := okP_of (by decide +kernel)
theorem okM_208 : okP 208 := okP_of (by decide +kernel)
theorem okM_209_0 : okL 209 0 (blk 209 0) = true := by decide +kernel
theorem okM_209_13 : okL 209 13 (blk 209 13) = true := by decide +kernel
theorem okM_209_100 : okL 209 100 (blk 209 100) = true := by decide +kernel
theorem okM_209_101 : okL 209 101 (blk 209 101) = true := by decide +kernel
theorem okM_209_119 : okL 209 119 (blk 209 119) = true := by decide +kernel
theorem okM_209_142 : okL 209 142 (blk 209 142) = true := by decide +kernel
theorem okM_209_144 : okL 209 144 (blk 209 144) = true := by decide +kernel
theorem okM_209_173 : okL 209 173 (blk 209 173) = true := by decide +kernel
theorem okM_209_175 : okL 209 175 (blk 209 175) = true := by decide +kernel
theorem okM_209_199 : okL 209 199 (blk 209 199) = true := by decide +kernel
theorem okM_209_245 : okL 209 245 (blk 209 245) = true := by decide +kernel
theorem okM_209_251 : okL 209 251 (blk 209 251) = true := by decide +kernel
theorem okM_209_253 : okL 209 253 (blk 209 253) = true := by decide +kernel
theorem okM_209_283 : okL 209 283 (blk 209 283) = true := by decide +kernel
theorem okM_209_285 : okL 209 285 (blk 209 285) = true := by decide +kernel
theorem okM_209_376 : okL 209 376 (blk 209 376) = true := by decide +kernel
theorem okM_209_382 : okL 209 382 (blk 209 382) = true := by decide +kernel
theorem okM_209_419 : okL 209 419 (blk 209 419) = true := by decide +kernel
theorem okM_209_448 : okL 209 448 (blk 209 448) = true := by decide +kernel
theorem okM_209_449 : okL 209 449 (blk 209 449) = true := by decide +kernel
theorem okM_209_466 : okL 209 466 (blk 209 466) = true := by decide +kernel
theorem okM_209_493 : okL 209 493 (blk 209 493) = true := by decide +kernel
theorem okM_209_511 : okL 209 511 (blk 209 511) = true := by decide +kernel
theorem okM_209 : okP 209 := show ∀ t ∈ lb_209, okL 209 t (blk 209 t) = true from List.forall_mem_cons.mpr ⟨okM_209_0, List.forall_mem_cons.mpr ⟨okM_209_13, List.forall_mem_cons.mpr ⟨okM_209_100, List.forall_mem_cons.mpr ⟨okM_209_101, List.forall_mem_cons.mpr ⟨okM_209_119, List.forall_mem_cons.mpr ⟨okM_209_142, List.forall_mem_cons.mpr ⟨okM_209_144, List.forall_mem_cons.mpr ⟨okM_209_173, List.forall_mem_cons.mpr ⟨okM_209_175, List.forall_mem_cons.mpr ⟨okM_209_199, List.forall_mem_cons.mpr ⟨okM_209_245, List.forall_mem_cons.mpr ⟨okM_209_251, List.forall_mem_cons.mpr ⟨okM_209_253, List.forall_mem_cons.mpr ⟨okM_209_283, List.forall_mem_cons.mpr ⟨okM_209_285, List.forall_mem_cons.mpr ⟨okM_209_376, List.forall_mem_cons.mpr ⟨okM_209_382, List.forall_mem_cons.mpr ⟨okM_209_419, List.forall_mem_cons.mpr ⟨okM_209_448, List.forall_mem_cons.mpr ⟨okM_209_449, List.forall_mem_cons.mpr ⟨okM_209_466, List.forall_mem_cons.mpr ⟨okM_209_493, List.forall_mem_cons.mpr ⟨okM_209_511, fun _ h => absurd h List.not_mem_nil⟩⟩⟩⟩⟩⟩⟩⟩⟩⟩⟩⟩⟩⟩⟩⟩⟩⟩⟩⟩⟩⟩⟩
theorem okM_210 : okP 210 := okP_of (by decide +kernel)
theorem okM_211_0 : okL 211 0 (blk 211 0) = true := by decide +kernel
theorem okM_211_20 : okL 211 20 (blk 211 20) = true := by decide +kernel
theorem okM_211_33 : okL 211 33 (blk 211 33) = true := by decide +kernel
theorem okM_211_71 : okL 211 71 (blk 211 71) = true := by decide +kernel
theorem okM_211_78 : okL 211 78 (blk 211 78) = true := by decide +kernel
theorem okM_211_113 : okL 211 113 (blk 211 113) = true := by decide +kernel
theorem okM_211_119 : okL 211 119 (blk 211 119) = true := by decide +kernel
theorem okM_211_130 : okL 211 130 (blk 211 130) = true := by decide +kernel
theorem okM_211_131 : okL 211 131 (blk 211 131) = true := by decide +kernel
theorem okM_211_137 : okL 211 137 (blk 211 137) = true := by decide +kernel
theorem okM_211_144 : okL 211 144 (blk 211 144) = true := by decide +kernel
theorem okM_211_180 : okL 211 180 (blk 211 180) = true := by decide +kernel
theorem okM_211_186 : okL 211 186 (blk 211 186) = true := by decide +kernel
theorem okM_211_203 : okL 211 203 (blk 211 203) = true := by decide +kernel
theorem okM_211_207 : okL 211 207 (blk 211 207) = true := by decide +kernel
theorem okM_211_208 : okL 211 208 (blk 211 208) = true := by decide +kernel
theorem okM_211_214 : okL 211 214 (blk 211 214) = true := by decide +kernel
theorem okM_211_228 : okL 211 228 (blk 211 228) = true := by decide +kernel
theorem okM_211_229 : okL 211 229 (blk 211 229) = true := by decide +kernel
theorem okM_211_232 : okL 211 232 (blk 211 232) = true := by decide +kernel
theorem okM_211_250 : okL 211 250 (blk 211 250) = true := by decide +kernel
theorem okM_211 : okP 211 := show ∀ t ∈ lb_211, okL 211 t (blk 211 t) = true from List.forall_mem_cons.mpr ⟨okM_211_0, List.forall_mem_cons.mpr ⟨okM_211_20, List.forall_mem_cons.mpr ⟨okM_211_33, List.forall_mem_cons.mpr ⟨okM_211_71, List.forall_mem_cons.mpr ⟨okM_211_78, List.forall_mem_cons.mpr ⟨okM_211_113, List.forall_mem_cons.mpr ⟨okM_211_119, List.forall_mem_cons.mpr ⟨okM_211_130, List.forall_mem_cons.mpr ⟨okM_211_131, List.forall_mem_cons.mpr ⟨okM_211_137, List.forall_mem_cons.mpr ⟨okM_211_144, List.forall_mem_cons.mpr ⟨okM_211_180, List.forall_mem_cons.mpr ⟨okM_211_186, List.forall_mem_cons.mpr ⟨okM_211_203, List.forall_mem_cons.mpr ⟨okM_211_207, List.forall_mem_cons.mpr ⟨okM_211_208, List.forall_mem_cons.mpr ⟨okM_211_214, List.forall_mem_cons.mpr ⟨okM_211_228, List.forall_mem_cons.mpr ⟨okM_211_229, List.forall_mem_cons.mpr ⟨okM_211_232, List.forall_mem_cons.mpr ⟨okM_211_250, fun _ h => absurd h List.not_mem_nil⟩⟩⟩⟩⟩⟩⟩⟩⟩⟩⟩⟩⟩⟩⟩⟩⟩⟩⟩⟩⟩
theorem okM_212 : okP 212 := okP_of (by decide +kernel)
theorem okM_213 : okP 213 := okP_of (by decide +kernel)
theorem okM_214 : okP 214 := okP_of (by decide +kernel)
theorem okM_215 : okP 215 := okP_of (by decide +kernel)
theorem okM_216 : okP 216 := okP_of (by decide +kernel)
theorem okM_217 : okP 217 := okP_of (by decide +kernel)
theorem okM_218 : okP 218 := okP_of (by decide +kernel)
theorem okM_219 : okP 219 := okP_of (by decide +kernel)
theorem okM_220 : okP 220 := okP_of (by decide +kernel)
theorem okM_221 : okP 221 := okP_of (by decide +kernel)
theorem okM_222 : okP 222 := okP_of (by decide +kernel)
theorem okM_223 : okP 223 := okP_of (by decide +kernel)
theorem okM_224 : okP 224 := okP_of (by decide +kernel)
theorem okM_225 : okP 225 := okP_of (by decide +kernel)
theorem okM_226 : okP 226 := okP_of (by decide +kernel)
theorem okM_227 : okP 227 := okP_of (by decide +kernel)
theorem okM_228 : okP 228 := okP_of (by decide +kernel)
theorem okM_229 : okP 229 := okP_of (by decide +kernel)
theorem okM_230 : okP 230 := okP_of (by decide +kernel)
theorem okM_231_0 : okL 231 0 (blk 231 0) = true := by decide +kernel
theorem okM_231_24 : okL 231 24 (blk 231 24) = true := by decide +kernel
theorem okM_231_41 : okL 231 41 (blk 231 41) = true := by decide +kernel
theorem okM_231_45 : okL 231 45 (blk 231 45) = true := by decide +kernel
theorem okM_231_57 : okL 231 57 (blk 231 57) = true := by decide +kernel
theorem okM_231_65 : okL 231 65 (blk 231 65) = true := by decide +kernel
theorem okM_231_88 : okL 231 88 (blk 231 88) = true := by decide +kernel
theorem okM_231_98 : okL 231 98 (blk 231 98) = true := by decide +kernel
theorem okM_231_103 : okL 231 103 (blk 231 103) = true := by decide +kernel
theorem okM_231_122 : okL 231 122 (blk 231 122) = true := by decide +kernel
theorem okM_231_130 : okL 231 130 (blk 231 130) = true := by decide +kernel
theorem okM_231_193 : okL 231 193 (blk 231 193) = true := by decide +kernel
theorem okM_231_201 : okL 231 201 (blk 231 201) = true := by decide +kernel
theorem okM_231_225 : okL 231 225 (blk 231 225) = true := by decide +kernel
theorem okM_231_249 : okL 231 249 (blk 231 249) = true := by decide +kernel
theorem okM_231_262 : okL 231 262 (blk 231 262) = true := by decide +kernel
theorem okM_231 : okP 231 := show ∀ t ∈ lb_231, okL 231 t (blk 231 t) = true from List.forall_mem_cons.mpr ⟨okM_231_0, List.forall_mem_cons.mpr ⟨okM_231_24, List.forall_mem_cons.mpr ⟨okM_231_41, List.forall_mem_cons.mpr ⟨okM_231_45, List.forall_mem_cons.mpr ⟨okM_231_57, List.forall_mem_cons.mpr ⟨okM_231_65, List.forall_mem_cons.mpr ⟨okM_231_88, List.forall_mem_cons.mpr ⟨okM_231_98, List.forall_mem_cons.mpr ⟨okM_231_103, List.forall_mem_cons.mpr ⟨okM_231_122, List.forall_mem_cons.mpr ⟨okM_231_130, List.forall_mem_cons.mpr ⟨okM_231_193, List.forall_mem_cons.mpr ⟨okM_231_201, List.forall_mem_cons.mpr ⟨okM_231_225, List.forall_mem_cons.mpr ⟨okM_231_249, List.forall_mem_cons.mpr ⟨okM_231_262, fun _ h => absurd h List.not_mem_nil⟩⟩⟩⟩⟩⟩⟩⟩⟩⟩⟩⟩⟩⟩⟩⟩
theorem okM_232 : okP 232 := okP_of (by decide +kernel)
theorem okM_233 : okP 233 := okP_of (by decide +kernel)
theorem okM_234 : okP 234 := okP_of (by decide +kernel)
theorem okM_235 : okP 235 := okP_of (by decide +kernel)
theorem okM_236 : okP 236 := okP_of (by decide +kernel)
theorem okM_237 : okP 237 := okP_of (by decide +kernel)
theorem okM_238 : okP 238 := okP_of (by decide +kernel)
theorem okM_239 : okP 239 := okP_of (by decide +kernel)
theorem okM_240 : okP 240 := okP_of (by decide +kernel)
theorem okM_241 : okP 241 := okP_of (by decide +kernel)
theorem okM_242 : okP 242 := okP_of (by decide +kernel)
theorem okM_243 : okP 243 := okP_of (by decide +kernel)
theorem okM_244 : okP 244 := okP_of (by decide +kernel)
theorem okM_245 : okP 245 := okP_of (by decide +kernel)
theorem okM_246 : okP 246 := okP_of (by decide +kernel)
theorem okM_247 : okP 247 := okP_of (by decide +kernel)
theorem okM_248 : okP 248 := okP_of (by decide +kernel)
theorem okM_249 : okP 249 := okP_of (by decide +kernel)
theorem okM_250 : okP 250 := okP_of (by decide +kernel)
theorem okM_251 : okP 251 := okP_of (by decide +kernel)
theorem okM_252 : okP 252 := okP_of (by decide +kernel)
theorem okM_253 : okP 253 := okP_of (by decide +kernel)
theorem okM_254 : okP 254 := okP_of (by decide +kernel)
theorem okM_255 : okP 255 := okP_of (by decide +kernel)
theorem okM_256 : okP 256 := okP_of (by decide +kernel)
theorem okM_257 : okP 257 := okP_of (by decide +kernel)
theorem okM_258 : okP 258 := okP_of (by decide +kernel)
theorem okM_259 : okP 259 := okP_of (by decide +kernel)
theorem okM_260 : okP 260 := okP_of (by decide +kernel)
theorem okM_261 : okP 261 := okP_of (by decide +kernel)
theorem okM_262 : okP 262 := okP_of (by decide +kernel)
theorem okM_263 : okP 263 := okP_of (by decide +kernel)
theorem okM_264 : okP 264 := okP_of (by decide +kernel)
theorem okM_265 : okP 265 := okP_of (by decide +kernel)
theorem okM_266 : okP 266 := okP_of (by decide +kernel)
theorem okM_267 : okP 267 := okP_of (by decide +kernel)
theorem okM_268 : okP 268 := okP_of (by decide +kernel)
theorem okM_269 : okP 269 := okP_of (by decide +kernel)
theorem okM_270 : okP 270 := okP_of (by decide +kernel)
theorem okM_271 : okP 271 := okP_of (by decide +kernel)
theorem okM_272 : okP 272 := okP_of (by decide +kernel)
theorem okM_273 : okP 273 := okP_of (by decide +kernel)
theorem okM_274 : okP 274 := okP_of (by decide +kernel)
theorem okM_275 : okP 275 := okP_of (by decide +kernel)
theorem okM_276 : okP 276 := okP_of (by decide +kernel)
theorem okM_277 : okP 277 := okP_of (by decide +kernel)
theorem okM_278 : okP 278 := okP_of (by decide +kernel)
theorem okM_279 : okP 279 := okP_of (by decide +kernel)
theorem okM_280 : okP 280 := okP_of (by decide +kernel)
theorem okM_281 : okP 281 := okP_of (by decide +kernel)
theorem okM_282 : okP 282 := okP_of (by decide +kernel)
theorem okM_283 : okP 283 := okP_of (by decide +kernel)
theorem okM_284 : okP 284 := okP_of (by decide +kernel)
theorem okM_285 : okP 285 := okP_of (by decide +kernel)
theorem okM_286 : okP 286 := okP_of (by decide +kernel)
theorem okM_287 : okP 287 := okP_of (by decide +kernel)
theorem okM_288 : okP 288 := okP_of (by decide +kernel)
theorem okM_289 : okP 289 := okP_of (by decide +kernel)
theorem okM_290 : okP 290 := okP_of (by decide +kernel)
theorem okM_291 : okP 291 := okP_of (by decide +kernel)
theorem okM_292 : okP 292 := okP_of (by decide +kernel)
theorem okM_293 : okP 293 := okP_of (by decide +kernel)
theorem okM_294 : okP 294 := okP_of (by decide +kernel)
theorem okM_295 : okP 295 := okP_of (by decide +kernel)
theorem okM_296 : okP 296 := okP_of (by decide +kernel)
theorem okM_297 : okP 297 := okP_of (by decide +kernel)
theorem okM_298 : okP 298 := okP_of (by decide +kernel)
theorem okM_299 : okP 299 := okP_of (by decide +kernel)
theorem okM_300 : okP 300 := okP_of (by decide +kernel)
theorem okM_301 : okP 301 := okP_of (by decide +kernel)
theorem okM_302 : okP 302 := okP_of (by decide +kernel)
theorem okM_303 : okP 303 := okP_of (by decide +kernel)
theorem okM_304 : okP 304 := okP_of (by decide +kernel)
theorem okM_305 : okP 305 := okP_of (by decide +kernel)
theorem okM_306 : okP 306 := okP_of (by decide +kernel)
theorem okM_307 : okP 307 := okP_of (by decide +kernel)
theorem okM_308 : okP 308 := okP_of (by decide +kernel)
theorem okM_309 : okP 309 := okP_of (by decide +kernel)
theorem okM_310 : okP 310 := okP_of (by decide +kernel)
theorem okM_311 : okP 311 := okP_of (by decide +kernel)
theorem okM_312 : okP 312 := okP_of (by decide +kernel)
theorem okM_313 : okP 313 := okP_of (by decide +kernel)
theorem okM_314 : okP 314 := okP_of (by decide +kernel)
theorem okM_315 : okP 315 := okP_of (by decide +kernel)
theorem okM_316 : okP 316 := okP_of (by decide +kernel)
theorem okM_317 : okP 317 := okP_of (by decide +kernel)
theorem okM_318 : okP 318 := okP_of (by decide +kernel)
theorem okM_319 : okP 319 := okP_of (by decide +kernel)
theorem okM_320 : okP 320 := okP_of (by decide +kernel)
theorem okM_321 : okP 321 := okP_of (by decide +kernel)
theorem okM_322 : okP 322 := okP_of (by decide +kernel)
theorem okM_323 : okP 323 := okP_of (by decide +kernel)
theorem okM_324 : okP 324 := okP_of (by decide +kernel)
theorem okM_325 : okP 325 := okP_of (by decide +kernel)
theorem okM_326 : okP 326 := okP_of (by decide +kernel)
theorem okM_327 : okP 327 := okP_of (by decide +kernel)
