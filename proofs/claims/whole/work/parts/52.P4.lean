theorem px_ue (f : Nat → Int32) (k : Nat) (v : Int32) : upd f k v k = v := if_pos rfl
theorem px_un (f : Nat → Int32) {k j : Nat} (v : Int32) (h : j ≠ k) : upd f k v j = f j := if_neg h
theorem d_M_go_0 : cd_D_aload b_M_go 0 0 1 := Or.inr ⟨0, ⟨by decide +kernel, rfl⟩, rfl⟩
theorem d_M_go_1 : cd_D 3 b_M_go 1 (.getfield 195) 4 := ⟨by decide +kernel, rfl⟩
theorem d_M_go_4 : cd_D_aload b_M_go 4 0 5 := Or.inr ⟨0, ⟨by decide +kernel, rfl⟩, rfl⟩
theorem d_M_go_5 : cd_D 3 b_M_go 5 (.getfield 191) 8 := ⟨by decide +kernel, rfl⟩
theorem d_M_go_8 : cd_D_icmp_ge b_M_go 8 38 11 := ⟨30, by decide +kernel, by decide, rfl⟩
theorem d_M_go_11 : cd_D_aload b_M_go 11 0 12 := Or.inr ⟨0, ⟨by decide +kernel, rfl⟩, rfl⟩
theorem d_M_go_12 : cd_D 3 b_M_go 12 (.getfield 22) 15 := ⟨by decide +kernel, rfl⟩
theorem d_M_go_15 : cd_D_aload b_M_go 15 0 16 := Or.inr ⟨0, ⟨by decide +kernel, rfl⟩, rfl⟩
theorem d_M_go_16 : cd_D 3 b_M_go 16 (.getfield 195) 19 := ⟨by decide +kernel, rfl⟩
theorem d_M_go_19 : cd_D 1 b_M_go 19 .iaload 20 := ⟨by decide +kernel, rfl⟩
theorem d_M_go_20 : cd_Dk b_M_go 20 (nI 32) 22 := Or.inr (Or.inl ⟨32, ⟨by decide +kernel, rfl⟩, by decide +kernel⟩)
theorem d_M_go_22 : cd_D_icmp_ne b_M_go 22 38 25 := ⟨16, by decide +kernel, by decide, rfl⟩
theorem d_M_go_25 : cd_D_aload b_M_go 25 0 26 := Or.inr ⟨0, ⟨by decide +kernel, rfl⟩, rfl⟩
theorem d_M_go_26 : cd_D 1 b_M_go 26 .dup 27 := ⟨by decide +kernel, rfl⟩
theorem d_M_go_27 : cd_D 3 b_M_go 27 (.getfield 195) 30 := ⟨by decide +kernel, rfl⟩
theorem d_M_go_30 : cd_Dk b_M_go 30 (nI 1) 31 := Or.inl ⟨1, ⟨by decide +kernel, rfl⟩, by decide +kernel⟩
theorem d_M_go_31 : cd_D 1 b_M_go 31 .iadd 32 := ⟨by decide +kernel, rfl⟩
theorem d_M_go_32 : cd_D 3 b_M_go 32 (.putfield 195) 35 := ⟨by decide +kernel, rfl⟩
theorem d_M_go_35 : cd_D_goto b_M_go 35 0 := ⟨-35, by decide +kernel, by decide⟩
theorem d_M_go_38 : cd_D_aload b_M_go 38 0 39 := Or.inr ⟨0, ⟨by decide +kernel, rfl⟩, rfl⟩
theorem d_M_go_39 : cd_D_aload b_M_go 39 0 40 := Or.inr ⟨0, ⟨by decide +kernel, rfl⟩, rfl⟩
theorem d_M_go_40 : cd_D 3 b_M_go 40 (.getfield 195) 43 := ⟨by decide +kernel, rfl⟩
theorem d_M_go_43 : cd_D 3 b_M_go 43 (.putfield 198) 46 := ⟨by decide +kernel, rfl⟩
theorem d_M_go_46 : cd_D_aload b_M_go 46 0 47 := Or.inr ⟨0, ⟨by decide +kernel, rfl⟩, rfl⟩
theorem d_M_go_47 : cd_D 3 b_M_go 47 (.getfield 198) 50 := ⟨by decide +kernel, rfl⟩
theorem d_M_go_50 : cd_D_aload b_M_go 50 0 51 := Or.inr ⟨0, ⟨by decide +kernel, rfl⟩, rfl⟩
theorem d_M_go_51 : cd_D 3 b_M_go 51 (.getfield 201) 54 := ⟨by decide +kernel, rfl⟩
theorem d_M_go_54 : cd_D_icmp_ne b_M_go 54 61 57 := ⟨7, by decide +kernel, by decide, rfl⟩
theorem d_M_go_57 : cd_Dk b_M_go 57 (nI 1) 58 := Or.inl ⟨1, ⟨by decide +kernel, rfl⟩, by decide +kernel⟩
theorem d_M_go_58 : cd_D_goto b_M_go 58 62 := ⟨4, by decide +kernel, by decide⟩
theorem d_M_go_61 : cd_Dk b_M_go 61 (nI 0) 62 := Or.inl ⟨0, ⟨by decide +kernel, rfl⟩, by decide +kernel⟩
theorem d_M_go_62 : cd_D_istore b_M_go 62 1 63 := Or.inr ⟨1, ⟨by decide +kernel, rfl⟩, rfl⟩
theorem d_M_go_63 : cd_D_aload b_M_go 63 0 64 := Or.inr ⟨0, ⟨by decide +kernel, rfl⟩, rfl⟩
theorem d_M_go_64 : cd_D 3 b_M_go 64 (.getfield 198) 67 := ⟨by decide +kernel, rfl⟩
theorem d_M_go_67 : cd_D_aload b_M_go 67 0 68 := Or.inr ⟨0, ⟨by decide +kernel, rfl⟩, rfl⟩
theorem d_M_go_68 : cd_D 3 b_M_go 68 (.getfield 191) 71 := ⟨by decide +kernel, rfl⟩
theorem d_M_go_71 : cd_D_icmp_ne b_M_go 71 82 74 := ⟨11, by decide +kernel, by decide, rfl⟩
theorem d_M_go_74 : cd_D_aload b_M_go 74 0 75 := Or.inr ⟨0, ⟨by decide +kernel, rfl⟩, rfl⟩
theorem d_M_go_75 : cd_Dk b_M_go 75 (nI 0) 76 := Or.inl ⟨0, ⟨by decide +kernel, rfl⟩, by decide +kernel⟩
theorem d_M_go_76 : cd_D 3 b_M_go 76 (.putfield 204) 79 := ⟨by decide +kernel, rfl⟩
theorem d_M_go_79 : cd_D_goto b_M_go 79 303 := ⟨224, by decide +kernel, by decide⟩
theorem d_M_go_82 : cd_D_aload b_M_go 82 0 83 := Or.inr ⟨0, ⟨by decide +kernel, rfl⟩, rfl⟩
theorem d_M_go_83 : cd_D_aload b_M_go 83 0 84 := Or.inr ⟨0, ⟨by decide +kernel, rfl⟩, rfl⟩
theorem d_M_go_84 : cd_D 3 b_M_go 84 (.getfield 198) 87 := ⟨by decide +kernel, rfl⟩
theorem d_M_go_87 : cd_D 3 b_M_go 87 (.invokevirtual 207) 90 := ⟨by decide +kernel, rfl⟩
theorem d_M_go_90 : cd_D_if_eq b_M_go 90 154 93 := ⟨64, by decide +kernel, by decide, rfl⟩
theorem d_M_go_93 : cd_D_aload b_M_go 93 0 94 := Or.inr ⟨0, ⟨by decide +kernel, rfl⟩, rfl⟩
theorem d_M_go_94 : cd_D_aload b_M_go 94 0 95 := Or.inr ⟨0, ⟨by decide +kernel, rfl⟩, rfl⟩
theorem d_M_go_95 : cd_D 3 b_M_go 95 (.getfield 195) 98 := ⟨by decide +kernel, rfl⟩
theorem d_M_go_98 : cd_D 3 b_M_go 98 (.invokevirtual 207) 101 := ⟨by decide +kernel, rfl⟩
theorem d_M_go_101 : cd_D_if_eq b_M_go 101 117 104 := ⟨16, by decide +kernel, by decide, rfl⟩
theorem d_M_go_104 : cd_D_aload b_M_go 104 0 105 := Or.inr ⟨0, ⟨by decide +kernel, rfl⟩, rfl⟩
theorem d_M_go_105 : cd_D 1 b_M_go 105 .dup 106 := ⟨by decide +kernel, rfl⟩
theorem d_M_go_106 : cd_D 3 b_M_go 106 (.getfield 195) 109 := ⟨by decide +kernel, rfl⟩
theorem d_M_go_109 : cd_Dk b_M_go 109 (nI 1) 110 := Or.inl ⟨1, ⟨by decide +kernel, rfl⟩, by decide +kernel⟩
theorem d_M_go_110 : cd_D 1 b_M_go 110 .iadd 111 := ⟨by decide +kernel, rfl⟩
theorem d_M_go_111 : cd_D 3 b_M_go 111 (.putfield 195) 114 := ⟨by decide +kernel, rfl⟩
theorem d_M_go_114 : cd_D_goto b_M_go 114 93 := ⟨-21, by decide +kernel, by decide⟩
theorem d_M_go_117 : cd_D_aload b_M_go 117 0 118 := Or.inr ⟨0, ⟨by decide +kernel, rfl⟩, rfl⟩
theorem d_M_go_118 : cd_D_iload b_M_go 118 1 119 := Or.inr ⟨1, ⟨by decide +kernel, rfl⟩, rfl⟩
theorem d_M_go_119 : cd_D_if_eq b_M_go 119 126 122 := ⟨7, by decide +kernel, by decide, rfl⟩
theorem d_M_go_122 : cd_Dk b_M_go 122 (nI 4) 123 := Or.inl ⟨4, ⟨by decide +kernel, rfl⟩, by decide +kernel⟩
theorem d_M_go_123 : cd_D_goto b_M_go 123 127 := ⟨4, by decide +kernel, by decide⟩
theorem d_M_go_126 : cd_Dk b_M_go 126 (nI 1) 127 := Or.inl ⟨1, ⟨by decide +kernel, rfl⟩, by decide +kernel⟩
theorem d_M_go_127 : cd_D 3 b_M_go 127 (.putfield 204) 130 := ⟨by decide +kernel, rfl⟩
theorem d_M_go_130 : cd_D_aload b_M_go 130 0 131 := Or.inr ⟨0, ⟨by decide +kernel, rfl⟩, rfl⟩
theorem d_M_go_131 : cd_D_aload b_M_go 131 0 132 := Or.inr ⟨0, ⟨by decide +kernel, rfl⟩, rfl⟩
theorem d_M_go_132 : cd_D 3 b_M_go 132 (.getfield 22) 135 := ⟨by decide +kernel, rfl⟩
theorem d_M_go_135 : cd_D_aload b_M_go 135 0 136 := Or.inr ⟨0, ⟨by decide +kernel, rfl⟩, rfl⟩
theorem d_M_go_136 : cd_D 3 b_M_go 136 (.getfield 198) 139 := ⟨by decide +kernel, rfl⟩
theorem d_M_go_139 : cd_D 1 b_M_go 139 .iaload 140 := ⟨by decide +kernel, rfl⟩
theorem d_M_go_140 : cd_D 3 b_M_go 140 (.putfield 210) 143 := ⟨by decide +kernel, rfl⟩
theorem d_M_go_143 : cd_D_aload b_M_go 143 0 144 := Or.inr ⟨0, ⟨by decide +kernel, rfl⟩, rfl⟩
theorem d_M_go_144 : cd_D_aload b_M_go 144 0 145 := Or.inr ⟨0, ⟨by decide +kernel, rfl⟩, rfl⟩
theorem d_M_go_145 : cd_D 3 b_M_go 145 (.getfield 195) 148 := ⟨by decide +kernel, rfl⟩
theorem d_M_go_148 : cd_D 3 b_M_go 148 (.putfield 201) 151 := ⟨by decide +kernel, rfl⟩
theorem d_M_go_151 : cd_D_goto b_M_go 151 303 := ⟨152, by decide +kernel, by decide⟩
theorem d_M_go_154 : cd_D_aload b_M_go 154 0 155 := Or.inr ⟨0, ⟨by decide +kernel, rfl⟩, rfl⟩
theorem d_M_go_155 : cd_D_aload b_M_go 155 0 156 := Or.inr ⟨0, ⟨by decide +kernel, rfl⟩, rfl⟩
theorem d_M_go_156 : cd_D 3 b_M_go 156 (.getfield 198) 159 := ⟨by decide +kernel, rfl⟩
theorem d_M_go_159 : cd_D 3 b_M_go 159 (.invokevirtual 213) 162 := ⟨by decide +kernel, rfl⟩
theorem d_M_go_162 : cd_D_if_eq b_M_go 162 275 165 := ⟨113, by decide +kernel, by decide, rfl⟩
theorem d_M_go_165 : cd_D_aload b_M_go 165 0 166 := Or.inr ⟨0, ⟨by decide +kernel, rfl⟩, rfl⟩
theorem d_M_go_166 : cd_Dk b_M_go 166 (nI 0) 167 := Or.inl ⟨0, ⟨by decide +kernel, rfl⟩, by decide +kernel⟩
theorem d_M_go_167 : cd_D 3 b_M_go 167 (.putfield 210) 170 := ⟨by decide +kernel, rfl⟩
theorem d_M_go_170 : cd_D_aload b_M_go 170 0 171 := Or.inr ⟨0, ⟨by decide +kernel, rfl⟩, rfl⟩
theorem d_M_go_171 : cd_D_aload b_M_go 171 0 172 := Or.inr ⟨0, ⟨by decide +kernel, rfl⟩, rfl⟩
theorem d_M_go_172 : cd_D 3 b_M_go 172 (.getfield 195) 175 := ⟨by decide +kernel, rfl⟩
theorem d_M_go_175 : cd_D 3 b_M_go 175 (.invokevirtual 213) 178 := ⟨by decide +kernel, rfl⟩
theorem d_M_go_178 : cd_D_if_eq b_M_go 178 238 181 := ⟨60, by decide +kernel, by decide, rfl⟩
theorem d_M_go_181 : cd_D_aload b_M_go 181 0 182 := Or.inr ⟨0, ⟨by decide +kernel, rfl⟩, rfl⟩
theorem d_M_go_182 : cd_D_aload b_M_go 182 0 183 := Or.inr ⟨0, ⟨by decide +kernel, rfl⟩, rfl⟩
theorem d_M_go_183 : cd_D 3 b_M_go 183 (.getfield 195) 186 := ⟨by decide +kernel, rfl⟩
theorem d_M_go_186 : cd_D_aload b_M_go 186 0 187 := Or.inr ⟨0, ⟨by decide +kernel, rfl⟩, rfl⟩
theorem d_M_go_187 : cd_D 3 b_M_go 187 (.getfield 198) 190 := ⟨by decide +kernel, rfl⟩
theorem d_M_go_190 : cd_D 1 b_M_go 190 .isub 191 := ⟨by decide +kernel, rfl⟩
theorem d_M_go_191 : cd_Dk b_M_go 191 (nI 4) 192 := Or.inl ⟨4, ⟨by decide +kernel, rfl⟩, by decide +kernel⟩
theorem d_M_go_192 : cd_D_icmp_ge b_M_go 192 218 195 := ⟨26, by decide +kernel, by decide, rfl⟩
theorem d_M_go_195 : cd_Dk b_M_go 195 (nI 10) 197 := Or.inr (Or.inl ⟨10, ⟨by decide +kernel, rfl⟩, by decide +kernel⟩)
theorem d_M_go_197 : cd_D_aload b_M_go 197 0 198 := Or.inr ⟨0, ⟨by decide +kernel, rfl⟩, rfl⟩
theorem d_M_go_198 : cd_D 3 b_M_go 198 (.getfield 210) 201 := ⟨by decide +kernel, rfl⟩
theorem d_M_go_201 : cd_D 1 b_M_go 201 .imul 202 := ⟨by decide +kernel, rfl⟩
theorem d_M_go_202 : cd_D_aload b_M_go 202 0 203 := Or.inr ⟨0, ⟨by decide +kernel, rfl⟩, rfl⟩
theorem d_M_go_203 : cd_D 3 b_M_go 203 (.getfield 22) 206 := ⟨by decide +kernel, rfl⟩
theorem d_M_go_206 : cd_D_aload b_M_go 206 0 207 := Or.inr ⟨0, ⟨by decide +kernel, rfl⟩, rfl⟩
theorem d_M_go_207 : cd_D 3 b_M_go 207 (.getfield 195) 210 := ⟨by decide +kernel, rfl⟩
theorem d_M_go_210 : cd_D 1 b_M_go 210 .iaload 211 := ⟨by decide +kernel, rfl⟩
theorem d_M_go_211 : cd_D 1 b_M_go 211 .iadd 212 := ⟨by decide +kernel, rfl⟩
theorem d_M_go_212 : cd_Dk b_M_go 212 (nI 48) 214 := Or.inr (Or.inl ⟨48, ⟨by decide +kernel, rfl⟩, by decide +kernel⟩)
theorem d_M_go_214 : cd_D 1 b_M_go 214 .isub 215 := ⟨by decide +kernel, rfl⟩
theorem d_M_go_215 : cd_D_goto b_M_go 215 222 := ⟨7, by decide +kernel, by decide⟩
theorem d_M_go_218 : cd_D_aload b_M_go 218 0 219 := Or.inr ⟨0, ⟨by decide +kernel, rfl⟩, rfl⟩
theorem d_M_go_219 : cd_D 3 b_M_go 219 (.getfield 210) 222 := ⟨by decide +kernel, rfl⟩
theorem d_M_go_222 : cd_D 3 b_M_go 222 (.putfield 210) 225 := ⟨by decide +kernel, rfl⟩
theorem d_M_go_225 : cd_D_aload b_M_go 225 0 226 := Or.inr ⟨0, ⟨by decide +kernel, rfl⟩, rfl⟩
theorem d_M_go_226 : cd_D 1 b_M_go 226 .dup 227 := ⟨by decide +kernel, rfl⟩
theorem d_M_go_227 : cd_D 3 b_M_go 227 (.getfield 195) 230 := ⟨by decide +kernel, rfl⟩
theorem d_M_go_230 : cd_Dk b_M_go 230 (nI 1) 231 := Or.inl ⟨1, ⟨by decide +kernel, rfl⟩, by decide +kernel⟩
theorem d_M_go_231 : cd_D 1 b_M_go 231 .iadd 232 := ⟨by decide +kernel, rfl⟩
theorem d_M_go_232 : cd_D 3 b_M_go 232 (.putfield 195) 235 := ⟨by decide +kernel, rfl⟩
theorem d_M_go_235 : cd_D_goto b_M_go 235 170 := ⟨-65, by decide +kernel, by decide⟩
theorem d_M_go_238 : cd_D_aload b_M_go 238 0 239 := Or.inr ⟨0, ⟨by decide +kernel, rfl⟩, rfl⟩
theorem d_M_go_239 : cd_D_iload b_M_go 239 1 240 := Or.inr ⟨1, ⟨by decide +kernel, rfl⟩, rfl⟩
theorem d_M_go_240 : cd_D_if_ne b_M_go 240 256 243 := ⟨16, by decide +kernel, by decide, rfl⟩
theorem d_M_go_243 : cd_D_aload b_M_go 243 0 244 := Or.inr ⟨0, ⟨by decide +kernel, rfl⟩, rfl⟩
theorem d_M_go_244 : cd_D 3 b_M_go 244 (.getfield 195) 247 := ⟨by decide +kernel, rfl⟩
theorem d_M_go_247 : cd_D_aload b_M_go 247 0 248 := Or.inr ⟨0, ⟨by decide +kernel, rfl⟩, rfl⟩
theorem d_M_go_248 : cd_D 3 b_M_go 248 (.getfield 198) 251 := ⟨by decide +kernel, rfl⟩
theorem d_M_go_251 : cd_D 1 b_M_go 251 .isub 252 := ⟨by decide +kernel, rfl⟩
theorem d_M_go_252 : cd_Dk b_M_go 252 (nI 4) 253 := Or.inl ⟨4, ⟨by decide +kernel, rfl⟩, by decide +kernel⟩
theorem d_M_go_253 : cd_D_icmp_le b_M_go 253 260 256 := ⟨7, by decide +kernel, by decide, rfl⟩
theorem d_M_go_256 : cd_Dk b_M_go 256 (nI 4) 257 := Or.inl ⟨4, ⟨by decide +kernel, rfl⟩, by decide +kernel⟩
theorem d_M_go_257 : cd_D_goto b_M_go 257 261 := ⟨4, by decide +kernel, by decide⟩
theorem d_M_go_260 : cd_Dk b_M_go 260 (nI 2) 261 := Or.inl ⟨2, ⟨by decide +kernel, rfl⟩, by decide +kernel⟩
theorem d_M_go_261 : cd_D 3 b_M_go 261 (.putfield 204) 264 := ⟨by decide +kernel, rfl⟩
theorem d_M_go_264 : cd_D_aload b_M_go 264 0 265 := Or.inr ⟨0, ⟨by decide +kernel, rfl⟩, rfl⟩
theorem d_M_go_265 : cd_D_aload b_M_go 265 0 266 := Or.inr ⟨0, ⟨by decide +kernel, rfl⟩, rfl⟩
theorem d_M_go_266 : cd_D 3 b_M_go 266 (.getfield 195) 269 := ⟨by decide +kernel, rfl⟩
theorem d_M_go_269 : cd_D 3 b_M_go 269 (.putfield 201) 272 := ⟨by decide +kernel, rfl⟩
theorem d_M_go_272 : cd_D_goto b_M_go 272 303 := ⟨31, by decide +kernel, by decide⟩
theorem d_M_go_275 : cd_D_aload b_M_go 275 0 276 := Or.inr ⟨0, ⟨by decide +kernel, rfl⟩, rfl⟩
theorem d_M_go_276 : cd_Dk b_M_go 276 (nI 3) 277 := Or.inl ⟨3, ⟨by decide +kernel, rfl⟩, by decide +kernel⟩
theorem d_M_go_277 : cd_D 3 b_M_go 277 (.putfield 204) 280 := ⟨by decide +kernel, rfl⟩
theorem d_M_go_280 : cd_D_aload b_M_go 280 0 281 := Or.inr ⟨0, ⟨by decide +kernel, rfl⟩, rfl⟩
theorem d_M_go_281 : cd_D_aload b_M_go 281 0 282 := Or.inr ⟨0, ⟨by decide +kernel, rfl⟩, rfl⟩
theorem d_M_go_282 : cd_D 3 b_M_go 282 (.getfield 22) 285 := ⟨by decide +kernel, rfl⟩
theorem d_M_go_285 : cd_D_aload b_M_go 285 0 286 := Or.inr ⟨0, ⟨by decide +kernel, rfl⟩, rfl⟩
theorem d_M_go_286 : cd_D 3 b_M_go 286 (.getfield 198) 289 := ⟨by decide +kernel, rfl⟩
theorem d_M_go_289 : cd_D 1 b_M_go 289 .iaload 290 := ⟨by decide +kernel, rfl⟩
theorem d_M_go_290 : cd_D 3 b_M_go 290 (.putfield 210) 293 := ⟨by decide +kernel, rfl⟩
theorem d_M_go_293 : cd_D_aload b_M_go 293 0 294 := Or.inr ⟨0, ⟨by decide +kernel, rfl⟩, rfl⟩
theorem d_M_go_294 : cd_D 1 b_M_go 294 .dup 295 := ⟨by decide +kernel, rfl⟩
theorem d_M_go_295 : cd_D 3 b_M_go 295 (.getfield 195) 298 := ⟨by decide +kernel, rfl⟩
theorem d_M_go_298 : cd_Dk b_M_go 298 (nI 1) 299 := Or.inl ⟨1, ⟨by decide +kernel, rfl⟩, by decide +kernel⟩
theorem d_M_go_299 : cd_D 1 b_M_go 299 .iadd 300 := ⟨by decide +kernel, rfl⟩
theorem d_M_go_300 : cd_D 3 b_M_go 300 (.putfield 195) 303 := ⟨by decide +kernel, rfl⟩
theorem d_M_go_303 : cd_D 1 b_M_go 303 .return_ 304 := ⟨by decide +kernel, rfl⟩
theorem c_M_go {l : Launch} {w : cd_WT} {S : cd_Sp} {I : cd_Mem} {m : Nat} (hM : cd_MO w S m) {B : Nat → Nat} {L p : Nat} (hL : I m 6 = nI L) (hT : px_TP (I (m + 5)) B L) (hp : I m 7 = nI p) (hpL : p ≤ L) (bw : Prop) [Decidable bw] (hbw : px_bw (I m) bw p) : cd_C l w m_M_go 1 0 0 [.ref m] S I (cd_Pv S (fun I' => ∃ Q, I' = cd_set I m Q ∧ px_GO (I m) Q B (px_tk B L bw p))) := by
  refine cd_intro (by decide) (by simp [Value.category]) (Nat.le_of_ble_eq_true rfl) ?_
  intro X hO hE
  show cd_J w X 0 0 S I 0 [some (.ref m), none] []
  have hT1 := hT.1
  have hsb := px_sk_b B hpL
  obtain ⟨s, hs⟩ : ∃ s, s = px_sk B L p := ⟨_, rfl⟩
  rw [← hs] at hsb
  have main : ∀ Q : Nat → Int32, (∀ k, k ≠ 7 → Q k = I m k) → Q 7 = nI s → cd_J w X 0 0 S (cd_set I m Q) 38 [some (.ref m), none] [] := by
    intro Q hA h7
    have h6 : Q 6 = nI L := (hA 6 (by decide)).trans hL
    have h11 : Q 11 = I m 11 := hA 11 (by decide)
    have finB : ∀ (n : Nat) (Q2 : Nat → Int32), px_ltr B L s → n = px_lr B L s → (∀ k, k ≠ 7 → k ≠ 8 → Q2 k = I m k) → Q2 8 = nI s → Q2 7 = nI n → cd_J w X 0 0 S (cd_set I m Q2) 117 [some (.ref m), some (.int (cd_bI (bw ∧ s = p)))] [] := by
      intro n Q2 hl hn hA2 h8 h7
      have hTs := (hT.2 s hl.1).1
      have hbd := px_lr_b B hl
      have e1 : px_tk B L bw p = (s, if bw ∧ s = p then 4 else 1, n) := by
        unfold px_tk
        rw [← hs, if_neg (by omega), if_pos hl, hn]
      refine r_aload hO d_M_go_117 rfl ?_
      refine r_iload hO d_M_go_118 rfl ?_
      refine r_if_eqB hO d_M_go_119 (fun c_119 => ?_) (fun c_119 => ?_)
      · refine r_k hO d_M_go_126 ?_
        refine r_putI hO f_M_204 rfl hM.2.1 hM.1 d_M_go_127 ?_
        try simp (disch := omega) only [cd_set_eq, cd_set_ne, cd_set_set]
        refine r_aload hO d_M_go_130 rfl ?_
        refine r_aload hO d_M_go_131 rfl ?_
        refine r_getR hO f_M_22 rfl hM.2.1 (mo_r5 hM) d_M_go_132 ?_
        try simp (disch := omega) only [cd_set_eq, cd_set_ne, cd_set_set]
        refine r_aload hO d_M_go_135 rfl ?_
        refine r_getI hO f_M_198 rfl hM.2.1 d_M_go_136 ?_
        try simp (disch := omega) only [cd_set_eq, cd_set_ne, cd_set_set]
        refine r_tops (show _ = nI s from h8) ?_
        refine r_iald hO (mo_s5 hM) (by omega) (by decide) d_M_go_139 ?_
        try simp (disch := omega) only [cd_set_eq, cd_set_ne, cd_set_set]
        rw [hTs]
        refine r_putI hO f_M_210 rfl hM.2.1 hM.1 d_M_go_140 ?_
        try simp (disch := omega) only [cd_set_eq, cd_set_ne, cd_set_set]
        refine r_aload hO d_M_go_143 rfl ?_
        refine r_aload hO d_M_go_144 rfl ?_
        refine r_getI hO f_M_195 rfl hM.2.1 d_M_go_145 ?_
        try simp (disch := omega) only [cd_set_eq, cd_set_ne, cd_set_set]
        refine r_tops (show _ = nI n from h7) ?_
        refine r_putI hO f_M_201 rfl hM.2.1 hM.1 d_M_go_148 ?_
        try simp (disch := omega) only [cd_set_eq, cd_set_ne, cd_set_set]
        refine r_goto hO d_M_go_151 ?_
        refine r_vret hO hE (Nat.zero_le _) (Nat.zero_le _) d_M_go_303 ?_
        exact ⟨rfl, rfl, _, rfl, by rw [e1, if_neg c_119]; exact ⟨(fun k k7 k8 k9 k10 k11 => by simp only [upd, k7, k8, k9, k10, k11, if_false]; exact hA2 k k7 k8), h8, rfl, h7, fun _ => rfl, fun q => absurd (show 1 = 2 from q) (by decide), fun _ => rfl, fun q => absurd (show 1 = 3 from q) (by decide)⟩⟩
      · refine r_k hO d_M_go_122 ?_
        refine r_goto hO d_M_go_123 ?_
        refine r_putI hO f_M_204 rfl hM.2.1 hM.1 d_M_go_127 ?_
        try simp (disch := omega) only [cd_set_eq, cd_set_ne, cd_set_set]
        refine r_aload hO d_M_go_130 rfl ?_
        refine r_aload hO d_M_go_131 rfl ?_
        refine r_getR hO f_M_22 rfl hM.2.1 (mo_r5 hM) d_M_go_132 ?_
        try simp (disch := omega) only [cd_set_eq, cd_set_ne, cd_set_set]
        refine r_aload hO d_M_go_135 rfl ?_
        refine r_getI hO f_M_198 rfl hM.2.1 d_M_go_136 ?_
        try simp (disch := omega) only [cd_set_eq, cd_set_ne, cd_set_set]
        refine r_tops (show _ = nI s from h8) ?_
        refine r_iald hO (mo_s5 hM) (by omega) (by decide) d_M_go_139 ?_
        try simp (disch := omega) only [cd_set_eq, cd_set_ne, cd_set_set]
        rw [hTs]
        refine r_putI hO f_M_210 rfl hM.2.1 hM.1 d_M_go_140 ?_
        try simp (disch := omega) only [cd_set_eq, cd_set_ne, cd_set_set]
        refine r_aload hO d_M_go_143 rfl ?_
        refine r_aload hO d_M_go_144 rfl ?_
        refine r_getI hO f_M_195 rfl hM.2.1 d_M_go_145 ?_
        try simp (disch := omega) only [cd_set_eq, cd_set_ne, cd_set_set]
        refine r_tops (show _ = nI n from h7) ?_
        refine r_putI hO f_M_201 rfl hM.2.1 hM.1 d_M_go_148 ?_
        try simp (disch := omega) only [cd_set_eq, cd_set_ne, cd_set_set]
        refine r_goto hO d_M_go_151 ?_
        refine r_vret hO hE (Nat.zero_le _) (Nat.zero_le _) d_M_go_303 ?_
        exact ⟨rfl, rfl, _, rfl, by rw [e1, if_pos c_119]; exact ⟨(fun k k7 k8 k9 k10 k11 => by simp only [upd, k7, k8, k9, k10, k11, if_false]; exact hA2 k k7 k8), h8, rfl, h7, fun _ => rfl, fun q => absurd (show 4 = 2 from q) (by decide), fun _ => rfl, fun q => absurd (show 4 = 3 from q) (by decide)⟩⟩
    have loopB : ∀ (r p' : Nat) (Q2 : Nat → Int32), px_ltr B L s → p' + r = L → s ≤ p' → px_rn (fun j => decide (px_ltr B L j)) r p' = px_lr B L s → (∀ k, k ≠ 7 → k ≠ 8 → Q2 k = I m k) → Q2 8 = nI s → Q2 7 = nI p' → cd_J w X 0 0 S (cd_set I m Q2) 93 [some (.ref m), some (.int (cd_bI (bw ∧ s = p)))] [] := by
      intro r
      induction r with
      | zero =>
        intro p' Q2 hl hp' hsp hn hA2 h8 h7
        have h6 : Q2 6 = nI L := (hA2 6 (by decide) (by decide)).trans hL
        refine r_aload hO d_M_go_93 rfl ?_
        refine r_aload hO d_M_go_94 rfl ?_
        refine r_getI hO f_M_195 rfl hM.2.1 d_M_go_95 ?_
        try simp (disch := omega) only [cd_set_eq, cd_set_ne, cd_set_set]
        refine r_tops (show _ = nI p' from h7) ?_
        refine r_cV1fi hO hE (c_M_isLetter hM (B := B) (L := L) (by rw [cd_set_eq]; exact h6) (by rw [cd_set_ne _ _ (by omega)]; exact hT) _ (by omega)) mf_M_isLetter lk_M_207 hM.2.1 rfl (by decide) rfl (Nat.le_of_ble_eq_true rfl) d_M_go_98 (Nat.zero_le _) (Nat.zero_le _) ?_
        try simp (disch := omega) only [cd_set_eq, cd_set_ne, cd_set_set]
        refine r_if_eqB hO d_M_go_101 (fun c_101 => ?_) (fun c_101 => ?_)
        · exact finB _ Q2 hl (by rw [← hn]; rfl) hA2 h8 h7
        · exact absurd c_101.1 (by omega)
      | succ r ih =>
        intro p' Q2 hl hp' hsp hn hA2 h8 h7
        have h6 : Q2 6 = nI L := (hA2 6 (by decide) (by decide)).trans hL
        refine r_aload hO d_M_go_93 rfl ?_
        refine r_aload hO d_M_go_94 rfl ?_
        refine r_getI hO f_M_195 rfl hM.2.1 d_M_go_95 ?_
        try simp (disch := omega) only [cd_set_eq, cd_set_ne, cd_set_set]
        refine r_tops (show _ = nI p' from h7) ?_
        refine r_cV1fi hO hE (c_M_isLetter hM (B := B) (L := L) (by rw [cd_set_eq]; exact h6) (by rw [cd_set_ne _ _ (by omega)]; exact hT) _ (by omega)) mf_M_isLetter lk_M_207 hM.2.1 rfl (by decide) rfl (Nat.le_of_ble_eq_true rfl) d_M_go_98 (Nat.zero_le _) (Nat.zero_le _) ?_
        try simp (disch := omega) only [cd_set_eq, cd_set_ne, cd_set_set]
        refine r_if_eqB hO d_M_go_101 (fun c_101 => ?_) (fun c_101 => ?_)
        · exact finB _ Q2 hl (by rw [← hn, px_rn_n (by simpa using c_101)]) hA2 h8 h7
        · refine r_aload hO d_M_go_104 rfl ?_
          refine r_dup hO d_M_go_105 rfl ?_
          refine r_getI hO f_M_195 rfl hM.2.1 d_M_go_106 ?_
          try simp (disch := omega) only [cd_set_eq, cd_set_ne, cd_set_set]
          refine r_tops (show _ = nI p' from h7) ?_
          refine r_k hO d_M_go_109 ?_
          refine r_iaddN hO d_M_go_110 ?_
          refine r_putI hO f_M_195 rfl hM.2.1 hM.1 d_M_go_111 ?_
          try simp (disch := omega) only [cd_set_eq, cd_set_ne, cd_set_set]
          refine r_goto hO d_M_go_114 ?_
          exact ih (p' + 1) _ hl (by omega) (by omega) (by rw [← hn, px_rn_y (by simpa using c_101)]) (fun k k7 k8 => (px_un _ _ k7).trans (hA2 k k7 k8)) h8 (px_ue _ _ _)
    have finC : ∀ (n : Nat) (Q2 : Nat → Int32), px_fig B L s → n = px_fr B L s → (∀ k, k ≠ 7 → k ≠ 8 → k ≠ 10 → Q2 k = I m k) → Q2 8 = nI s → Q2 7 = nI n → (n - s ≤ 4 → Q2 10 = nI (px_nm B s (n - s))) → cd_J w X 0 0 S (cd_set I m Q2) 238 [some (.ref m), some (.int (cd_bI (bw ∧ s = p)))] [] := by
      intro n Q2 hl hn hA2 h8 h7 h10
      have hbd := px_fr_b B hl
      have hnl : ¬ px_ltr B L s := fun q => by have := q.2.1; have := hl.2.2; omega
      have e2 : px_tk B L bw p = (s, if (bw ∧ s = p) ∨ 4 < n - s then 4 else 2, n) := by
        unfold px_tk
        rw [← hs, if_neg (by omega), if_neg hnl, if_pos hl, hn]
      refine r_aload hO d_M_go_238 rfl ?_
      refine r_iload hO d_M_go_239 rfl ?_
      refine r_if_neB hO d_M_go_240 (fun c_240 => ?_) (fun c_240 => ?_)
      · refine r_k hO d_M_go_256 ?_
        refine r_goto hO d_M_go_257 ?_
        refine r_putI hO f_M_204 rfl hM.2.1 hM.1 d_M_go_261 ?_
        try simp (disch := omega) only [cd_set_eq, cd_set_ne, cd_set_set]
        refine r_aload hO d_M_go_264 rfl ?_
        refine r_aload hO d_M_go_265 rfl ?_
        refine r_getI hO f_M_195 rfl hM.2.1 d_M_go_266 ?_
        try simp (disch := omega) only [cd_set_eq, cd_set_ne, cd_set_set]
        refine r_tops (show _ = nI n from h7) ?_
        refine r_putI hO f_M_201 rfl hM.2.1 hM.1 d_M_go_269 ?_
        try simp (disch := omega) only [cd_set_eq, cd_set_ne, cd_set_set]
        refine r_goto hO d_M_go_272 ?_
        refine r_vret hO hE (Nat.zero_le _) (Nat.zero_le _) d_M_go_303 ?_
        exact ⟨rfl, rfl, _, rfl, by rw [e2, if_pos (Or.inl c_240)]; exact ⟨(fun k k7 k8 k9 k10 k11 => by simp only [upd, k7, k8, k9, k10, k11, if_false]; exact hA2 k k7 k8 k10), h8, rfl, h7, fun q => absurd (show 4 = 1 ∨ 4 = 3 from q) (by decide), fun q => absurd (show 4 = 2 from q) (by decide), fun _ => rfl, fun q => absurd (show 4 = 3 from q) (by decide)⟩⟩
      · refine r_aload hO d_M_go_243 rfl ?_
        refine r_getI hO f_M_195 rfl hM.2.1 d_M_go_244 ?_
        try simp (disch := omega) only [cd_set_eq, cd_set_ne, cd_set_set]
        refine r_tops (show _ = nI n from h7) ?_
        refine r_aload hO d_M_go_247 rfl ?_
        refine r_getI hO f_M_198 rfl hM.2.1 d_M_go_248 ?_
        try simp (disch := omega) only [cd_set_eq, cd_set_ne, cd_set_set]
        refine r_tops (show _ = nI s from h8) ?_
        refine r_isubN hO d_M_go_251 (by omega) ?_
        refine r_k hO d_M_go_252 ?_
        refine r_icmp_le hO d_M_go_253 (fun c_253 => ?_) (fun c_253 => ?_)
        · rw [nI_leI (by omega) (by omega)] at c_253
          refine r_k hO d_M_go_260 ?_
          refine r_putI hO f_M_204 rfl hM.2.1 hM.1 d_M_go_261 ?_
          try simp (disch := omega) only [cd_set_eq, cd_set_ne, cd_set_set]
          refine r_aload hO d_M_go_264 rfl ?_
          refine r_aload hO d_M_go_265 rfl ?_
          refine r_getI hO f_M_195 rfl hM.2.1 d_M_go_266 ?_
          try simp (disch := omega) only [cd_set_eq, cd_set_ne, cd_set_set]
          refine r_tops (show _ = nI n from h7) ?_
          refine r_putI hO f_M_201 rfl hM.2.1 hM.1 d_M_go_269 ?_
          try simp (disch := omega) only [cd_set_eq, cd_set_ne, cd_set_set]
          refine r_goto hO d_M_go_272 ?_
          refine r_vret hO hE (Nat.zero_le _) (Nat.zero_le _) d_M_go_303 ?_
          exact ⟨rfl, rfl, _, rfl, by rw [e2, if_neg (fun q => by rcases q with q | q; exact c_240 q; omega)]; exact ⟨(fun k k7 k8 k9 k10 k11 => by simp only [upd, k7, k8, k9, k10, k11, if_false]; exact hA2 k k7 k8 k10), h8, rfl, h7, fun q => absurd (show 2 = 1 ∨ 2 = 3 from q) (by decide), fun _ => h10 (by omega), fun _ => rfl, fun q => absurd (show 2 = 3 from q) (by decide)⟩⟩
        · rw [nI_leI (by omega) (by omega)] at c_253
          refine r_k hO d_M_go_256 ?_
          refine r_goto hO d_M_go_257 ?_
          refine r_putI hO f_M_204 rfl hM.2.1 hM.1 d_M_go_261 ?_
          try simp (disch := omega) only [cd_set_eq, cd_set_ne, cd_set_set]
          refine r_aload hO d_M_go_264 rfl ?_
          refine r_aload hO d_M_go_265 rfl ?_
          refine r_getI hO f_M_195 rfl hM.2.1 d_M_go_266 ?_
          try simp (disch := omega) only [cd_set_eq, cd_set_ne, cd_set_set]
          refine r_tops (show _ = nI n from h7) ?_
          refine r_putI hO f_M_201 rfl hM.2.1 hM.1 d_M_go_269 ?_
          try simp (disch := omega) only [cd_set_eq, cd_set_ne, cd_set_set]
          refine r_goto hO d_M_go_272 ?_
          refine r_vret hO hE (Nat.zero_le _) (Nat.zero_le _) d_M_go_303 ?_
          exact ⟨rfl, rfl, _, rfl, by rw [e2, if_pos (Or.inr (by omega))]; exact ⟨(fun k k7 k8 k9 k10 k11 => by simp only [upd, k7, k8, k9, k10, k11, if_false]; exact hA2 k k7 k8 k10), h8, rfl, h7, fun q => absurd (show 4 = 1 ∨ 4 = 3 from q) (by decide), fun q => absurd (show 4 = 2 from q) (by decide), fun _ => rfl, fun q => absurd (show 4 = 3 from q) (by decide)⟩⟩
    have loopC : ∀ (r p' : Nat) (Q2 : Nat → Int32), px_fig B L s → p' + r = L → s ≤ p' → px_rn (fun j => decide (px_fig B L j)) r p' = px_fr B L s → (∀ k, k ≠ 7 → k ≠ 8 → k ≠ 10 → Q2 k = I m k) → Q2 8 = nI s → Q2 7 = nI p' → (p' - s ≤ 4 → Q2 10 = nI (px_nm B s (p' - s))) → cd_J w X 0 0 S (cd_set I m Q2) 170 [some (.ref m), some (.int (cd_bI (bw ∧ s = p)))] [] := by
      intro r
      induction r with
      | zero =>
        intro p' Q2 hl hp' hsp hn hA2 h8 h7 h10
        have h6 : Q2 6 = nI L := (hA2 6 (by decide) (by decide) (by decide)).trans hL
        refine r_aload hO d_M_go_170 rfl ?_
        refine r_aload hO d_M_go_171 rfl ?_
        refine r_getI hO f_M_195 rfl hM.2.1 d_M_go_172 ?_
        try simp (disch := omega) only [cd_set_eq, cd_set_ne, cd_set_set]
        refine r_tops (show _ = nI p' from h7) ?_
        refine r_cV1fi hO hE (c_M_isFigure hM (B := B) (L := L) (by rw [cd_set_eq]; exact h6) (by rw [cd_set_ne _ _ (by omega)]; exact hT) _ (by omega)) mf_M_isFigure lk_M_213 hM.2.1 rfl (by decide) rfl (Nat.le_of_ble_eq_true rfl) d_M_go_175 (Nat.zero_le _) (Nat.zero_le _) ?_
        try simp (disch := omega) only [cd_set_eq, cd_set_ne, cd_set_set]
        refine r_if_eqB hO d_M_go_178 (fun c_178 => ?_) (fun c_178 => ?_)
        · exact finC _ Q2 hl (by rw [← hn]; rfl) hA2 h8 h7 h10
        · exact absurd c_178.1 (by omega)
      | succ r ih =>
        intro p' Q2 hl hp' hsp hn hA2 h8 h7 h10
        have h6 : Q2 6 = nI L := (hA2 6 (by decide) (by decide) (by decide)).trans hL
        have hTp := (hT.2 p' (by omega)).1
        refine r_aload hO d_M_go_170 rfl ?_
        refine r_aload hO d_M_go_171 rfl ?_
        refine r_getI hO f_M_195 rfl hM.2.1 d_M_go_172 ?_
        try simp (disch := omega) only [cd_set_eq, cd_set_ne, cd_set_set]
        refine r_tops (show _ = nI p' from h7) ?_
        refine r_cV1fi hO hE (c_M_isFigure hM (B := B) (L := L) (by rw [cd_set_eq]; exact h6) (by rw [cd_set_ne _ _ (by omega)]; exact hT) _ (by omega)) mf_M_isFigure lk_M_213 hM.2.1 rfl (by decide) rfl (Nat.le_of_ble_eq_true rfl) d_M_go_175 (Nat.zero_le _) (Nat.zero_le _) ?_
        try simp (disch := omega) only [cd_set_eq, cd_set_ne, cd_set_set]
        refine r_if_eqB hO d_M_go_178 (fun c_178 => ?_) (fun c_178 => ?_)
        · exact finC _ Q2 hl (by rw [← hn, px_rn_n (by simpa using c_178)]) hA2 h8 h7 h10
        · refine r_aload hO d_M_go_181 rfl ?_
          refine r_aload hO d_M_go_182 rfl ?_
          refine r_getI hO f_M_195 rfl hM.2.1 d_M_go_183 ?_
          try simp (disch := omega) only [cd_set_eq, cd_set_ne, cd_set_set]
          refine r_tops (show _ = nI p' from h7) ?_
          refine r_aload hO d_M_go_186 rfl ?_
          refine r_getI hO f_M_198 rfl hM.2.1 d_M_go_187 ?_
          try simp (disch := omega) only [cd_set_eq, cd_set_ne, cd_set_set]
          refine r_tops (show _ = nI s from h8) ?_
          refine r_isubN hO d_M_go_190 (by omega) ?_
          refine r_k hO d_M_go_191 ?_
          refine r_icmp_ge hO d_M_go_192 (fun c_192 => ?_) (fun c_192 => ?_)
          · rw [nI_leI (by omega) (by omega)] at c_192
            skip
            refine r_aload hO d_M_go_218 rfl ?_
            refine r_getI hO f_M_210 rfl hM.2.1 d_M_go_219 ?_
            try simp (disch := omega) only [cd_set_eq, cd_set_ne, cd_set_set]
            refine r_putI hO f_M_210 rfl hM.2.1 hM.1 d_M_go_222 ?_
            try simp (disch := omega) only [cd_set_eq, cd_set_ne, cd_set_set]
            refine r_aload hO d_M_go_225 rfl ?_
            refine r_dup hO d_M_go_226 rfl ?_
            refine r_getI hO f_M_195 rfl hM.2.1 d_M_go_227 ?_
            try simp (disch := omega) only [cd_set_eq, cd_set_ne, cd_set_set]
            refine r_tops (show _ = nI p' from h7) ?_
            refine r_k hO d_M_go_230 ?_
            refine r_iaddN hO d_M_go_231 ?_
            refine r_putI hO f_M_195 rfl hM.2.1 hM.1 d_M_go_232 ?_
            try simp (disch := omega) only [cd_set_eq, cd_set_ne, cd_set_set]
            refine r_goto hO d_M_go_235 ?_
            exact ih (p' + 1) _ hl (by omega) (by omega) (by rw [← hn, px_rn_y (by simpa using c_178)]) (fun k k7 k8 k10 => by simp only [upd, k7, k10, if_false]; exact hA2 k k7 k8 k10) h8 (px_ue _ _ _) (fun q => by omega)
          · rw [nI_leI (by omega) (by omega)] at c_192
            refine r_k hO d_M_go_195 ?_
            refine r_aload hO d_M_go_197 rfl ?_
            refine r_getI hO f_M_210 rfl hM.2.1 d_M_go_198 ?_
            try simp (disch := omega) only [cd_set_eq, cd_set_ne, cd_set_set]
            refine r_tops (show _ = nI (px_nm B s (p' - s)) from h10 (by omega)) ?_
            refine r_imulN hO d_M_go_201 ?_
            refine r_aload hO d_M_go_202 rfl ?_
            refine r_getR hO f_M_22 rfl hM.2.1 (mo_r5 hM) d_M_go_203 ?_
            try simp (disch := omega) only [cd_set_eq, cd_set_ne, cd_set_set]
            refine r_aload hO d_M_go_206 rfl ?_
            refine r_getI hO f_M_195 rfl hM.2.1 d_M_go_207 ?_
            try simp (disch := omega) only [cd_set_eq, cd_set_ne, cd_set_set]
            refine r_tops (show _ = nI p' from h7) ?_
            refine r_iald hO (mo_s5 hM) (by omega) (by decide) d_M_go_210 ?_
            try simp (disch := omega) only [cd_set_eq, cd_set_ne, cd_set_set]
            rw [hTp]
            refine r_iaddN hO d_M_go_211 ?_
            refine r_k hO d_M_go_212 ?_
            refine r_isubN hO d_M_go_214 (by have := c_178.2.1; omega) ?_
            refine r_goto hO d_M_go_215 ?_
            refine r_putI hO f_M_210 rfl hM.2.1 hM.1 d_M_go_222 ?_
            try simp (disch := omega) only [cd_set_eq, cd_set_ne, cd_set_set]
            refine r_aload hO d_M_go_225 rfl ?_
            refine r_dup hO d_M_go_226 rfl ?_
            refine r_getI hO f_M_195 rfl hM.2.1 d_M_go_227 ?_
            try simp (disch := omega) only [cd_set_eq, cd_set_ne, cd_set_set]
            refine r_tops (show _ = nI p' from h7) ?_
            refine r_k hO d_M_go_230 ?_
            refine r_iaddN hO d_M_go_231 ?_
            refine r_putI hO f_M_195 rfl hM.2.1 hM.1 d_M_go_232 ?_
            try simp (disch := omega) only [cd_set_eq, cd_set_ne, cd_set_set]
            refine r_goto hO d_M_go_235 ?_
            exact ih (p' + 1) _ hl (by omega) (by omega) (by rw [← hn, px_rn_y (by simpa using c_178)]) (fun k k7 k8 k10 => by simp only [upd, k7, k10, if_false]; exact hA2 k k7 k8 k10) h8 (px_ue _ _ _) (fun q => by show nI (10 * px_nm B s (p' - s) + B p' - 48) = _; rw [show p' + 1 - s = p' - s + 1 by omega]; show _ = nI (10 * px_nm B s (p' - s) + (B (s + (p' - s)) - 48)); rw [show s + (p' - s) = p' by omega]; congr 1; have := c_178.2.1; omega)
    refine r_aload hO d_M_go_38 rfl ?_
    refine r_aload hO d_M_go_39 rfl ?_
    refine r_getI hO f_M_195 rfl hM.2.1 d_M_go_40 ?_
    try simp (disch := omega) only [cd_set_eq, cd_set_ne, cd_set_set]
    refine r_tops (show _ = nI s from h7) ?_
    refine r_putI hO f_M_198 rfl hM.2.1 hM.1 d_M_go_43 ?_
    try simp (disch := omega) only [cd_set_eq, cd_set_ne, cd_set_set]
    refine r_aload hO d_M_go_46 rfl ?_
    refine r_getI hO f_M_198 rfl hM.2.1 d_M_go_47 ?_
    try simp (disch := omega) only [cd_set_eq, cd_set_ne, cd_set_set]
    refine r_tops (show _ = nI s from rfl) ?_
    refine r_aload hO d_M_go_50 rfl ?_
    refine r_getI hO f_M_201 rfl hM.2.1 d_M_go_51 ?_
    try simp (disch := omega) only [cd_set_eq, cd_set_ne, cd_set_set]
    refine r_tops (show _ = Q 11 from rfl) ?_
    refine r_jn2 (pcJ := 62) (fun v => v = cd_bI (bw ∧ s = p)) (fun v_54 hv_54 => ?_) (fun hj_54 => ?_)
    · subst hv_54
      refine r_sI1 hO d_M_go_62 rfl ?_
      refine r_aload hO d_M_go_63 rfl ?_
      refine r_getI hO f_M_198 rfl hM.2.1 d_M_go_64 ?_
      try simp (disch := omega) only [cd_set_eq, cd_set_ne, cd_set_set]
      refine r_tops (show _ = nI s from rfl) ?_
      refine r_aload hO d_M_go_67 rfl ?_
      refine r_getI hO f_M_191 rfl hM.2.1 d_M_go_68 ?_
      try simp (disch := omega) only [cd_set_eq, cd_set_ne, cd_set_set]
      refine r_tops (show _ = nI L from h6) ?_
      refine r_icmp_ne hO d_M_go_71 (fun c_71 => ?_) (fun c_71 => ?_)
      · rw [nI_eq (by omega) (by omega)] at c_71
        have hTs := (hT.2 s (by omega)).1
        refine r_aload hO d_M_go_82 rfl ?_
        refine r_aload hO d_M_go_83 rfl ?_
        refine r_getI hO f_M_198 rfl hM.2.1 d_M_go_84 ?_
        try simp (disch := omega) only [cd_set_eq, cd_set_ne, cd_set_set]
        refine r_tops (show _ = nI s from rfl) ?_
        refine r_cV1fi hO hE (c_M_isLetter hM (B := B) (L := L) (by rw [cd_set_eq]; exact h6) (by rw [cd_set_ne _ _ (by omega)]; exact hT) _ (by omega)) mf_M_isLetter lk_M_207 hM.2.1 rfl (by decide) rfl (Nat.le_of_ble_eq_true rfl) d_M_go_87 (Nat.zero_le _) (Nat.zero_le _) ?_
        try simp (disch := omega) only [cd_set_eq, cd_set_ne, cd_set_set]
        refine r_if_eqB hO d_M_go_90 (fun c_90 => ?_) (fun c_90 => ?_)
        · refine r_aload hO d_M_go_154 rfl ?_
          refine r_aload hO d_M_go_155 rfl ?_
          refine r_getI hO f_M_198 rfl hM.2.1 d_M_go_156 ?_
          try simp (disch := omega) only [cd_set_eq, cd_set_ne, cd_set_set]
          refine r_tops (show _ = nI s from rfl) ?_
          refine r_cV1fi hO hE (c_M_isFigure hM (B := B) (L := L) (by rw [cd_set_eq]; exact h6) (by rw [cd_set_ne _ _ (by omega)]; exact hT) _ (by omega)) mf_M_isFigure lk_M_213 hM.2.1 rfl (by decide) rfl (Nat.le_of_ble_eq_true rfl) d_M_go_159 (Nat.zero_le _) (Nat.zero_le _) ?_
          try simp (disch := omega) only [cd_set_eq, cd_set_ne, cd_set_set]
          refine r_if_eqB hO d_M_go_162 (fun c_162 => ?_) (fun c_162 => ?_)
          · refine r_aload hO d_M_go_275 rfl ?_
            refine r_k hO d_M_go_276 ?_
            refine r_putI hO f_M_204 rfl hM.2.1 hM.1 d_M_go_277 ?_
            try simp (disch := omega) only [cd_set_eq, cd_set_ne, cd_set_set]
            refine r_aload hO d_M_go_280 rfl ?_
            refine r_aload hO d_M_go_281 rfl ?_
            refine r_getR hO f_M_22 rfl hM.2.1 (mo_r5 hM) d_M_go_282 ?_
            try simp (disch := omega) only [cd_set_eq, cd_set_ne, cd_set_set]
            refine r_aload hO d_M_go_285 rfl ?_
            refine r_getI hO f_M_198 rfl hM.2.1 d_M_go_286 ?_
            try simp (disch := omega) only [cd_set_eq, cd_set_ne, cd_set_set]
            refine r_tops (show _ = nI s from rfl) ?_
            refine r_iald hO (mo_s5 hM) (by omega) (by decide) d_M_go_289 ?_
            try simp (disch := omega) only [cd_set_eq, cd_set_ne, cd_set_set]
            rw [hTs]
            refine r_putI hO f_M_210 rfl hM.2.1 hM.1 d_M_go_290 ?_
            try simp (disch := omega) only [cd_set_eq, cd_set_ne, cd_set_set]
            refine r_aload hO d_M_go_293 rfl ?_
            refine r_dup hO d_M_go_294 rfl ?_
            refine r_getI hO f_M_195 rfl hM.2.1 d_M_go_295 ?_
            try simp (disch := omega) only [cd_set_eq, cd_set_ne, cd_set_set]
            refine r_tops (show _ = nI s from h7) ?_
            refine r_k hO d_M_go_298 ?_
            refine r_iaddN hO d_M_go_299 ?_
            refine r_putI hO f_M_195 rfl hM.2.1 hM.1 d_M_go_300 ?_
            try simp (disch := omega) only [cd_set_eq, cd_set_ne, cd_set_set]
            refine r_vret hO hE (Nat.zero_le _) (Nat.zero_le _) d_M_go_303 ?_
            have h11n : ∀ q, s + 1 ≤ q → q ≤ 96 → I m 11 ≠ nI q := fun q q1 q2 e => by
              by_cases hb : bw
              · have e2 := (hbw.1 hb).symm.trans e
                rw [nI_eq (by omega) (by omega)] at e2
                omega
              · exact hbw.2 hb q (by omega) q2 e
            exact ⟨rfl, rfl, _, rfl, by rw [show px_tk B L bw p = (s, 3, s + 1) by unfold px_tk; rw [← hs, if_neg c_71, if_neg c_90, if_neg c_162]]; exact ⟨(fun k k7 k8 k9 k10 k11 => by simp only [upd, k7, k8, k9, k10, k11, if_false]; exact hA k k7), rfl, rfl, rfl, fun _ => rfl, fun q => absurd (show 3 = 2 from q) (by decide), fun q => absurd (show 3 = 1 ∨ 3 = 2 from q) (by decide), fun _ q q1 q2 => by have e : upd (upd (upd (upd Q 8 (nI s)) 9 (nI 3)) 10 (nI (B s))) 7 (nI (s + 1)) 11 = I m 11 := h11; rw [e]; exact h11n q q1 q2⟩⟩
          · refine r_aload hO d_M_go_165 rfl ?_
            refine r_k hO d_M_go_166 ?_
            refine r_putI hO f_M_210 rfl hM.2.1 hM.1 d_M_go_167 ?_
            try simp (disch := omega) only [cd_set_eq, cd_set_ne, cd_set_set]
            exact loopC (L - s) s _ c_162 (by omega) (Nat.le_refl _) rfl (fun k k7 k8 k10 => by simp only [upd, k8, k10, if_false]; exact hA k k7) rfl h7 (fun _ => by rw [Nat.sub_self]; rfl)
        · exact loopB (L - s) s _ c_90 (by omega) (Nat.le_refl _) rfl (fun k k7 k8 => (px_un _ _ k8).trans (hA k k7)) rfl h7
      · rw [nI_eq (by omega) (by omega)] at c_71
        refine r_aload hO d_M_go_74 rfl ?_
        refine r_k hO d_M_go_75 ?_
        refine r_putI hO f_M_204 rfl hM.2.1 hM.1 d_M_go_76 ?_
        try simp (disch := omega) only [cd_set_eq, cd_set_ne, cd_set_set]
        refine r_goto hO d_M_go_79 ?_
        refine r_vret hO hE (Nat.zero_le _) (Nat.zero_le _) d_M_go_303 ?_
        exact ⟨rfl, rfl, _, rfl, by rw [show px_tk B L bw p = (s, 0, s) by unfold px_tk; rw [← hs, if_pos c_71]]; exact ⟨(fun k k7 k8 k9 k10 k11 => by simp only [upd, k7, k8, k9, k10, k11, if_false]; exact hA k k7), rfl, rfl, h7, fun q => absurd (show 0 = 1 ∨ 0 = 3 from q) (by decide), fun q => absurd (show 0 = 2 from q) (by decide), fun q => absurd (show 0 = 1 ∨ 0 = 2 from q) (by decide), fun q => absurd (show 0 = 3 from q) (by decide)⟩⟩
    · refine r_icmp_ne hO d_M_go_54 (fun c_54 => ?_) (fun c_54 => ?_)
      · refine r_k hO d_M_go_61 ?_
        exact hj_54 _ (by rw [cd_bI, if_neg (fun q => c_54 (by rw [q.2]; exact (h11.trans (hbw.1 q.1)).symm))]; rfl)
      · refine r_k hO d_M_go_57 ?_
        refine r_goto hO d_M_go_58 ?_
        exact hj_54 _ (by have hb : bw := Decidable.byContradiction (fun q => hbw.2 q s (by omega) (by omega) (h11.symm.trans c_54.symm)); have e : nI s = nI p := c_54.trans (h11.trans (hbw.1 hb)); rw [cd_bI, if_pos ⟨hb, (nI_eq (by omega) (by omega)).mp e⟩]; rfl)
  have loopA : ∀ (r p' : Nat) (Q : Nat → Int32), p' + r = L → (∀ k, k ≠ 7 → Q k = I m k) → Q 7 = nI p' → px_rn (fun j => decide (B j = 32)) r p' = s → cd_J w X 0 0 S (cd_set I m Q) 0 [some (.ref m), none] [] := by
    intro r
    induction r with
    | zero =>
      intro p' Q hp' hA h7 hr
      have h6 : Q 6 = nI L := (hA 6 (by decide)).trans hL
      refine r_aload hO d_M_go_0 rfl ?_
      refine r_getI hO f_M_195 rfl hM.2.1 d_M_go_1 ?_
      try simp (disch := omega) only [cd_set_eq, cd_set_ne, cd_set_set]
      refine r_tops (show _ = nI p' from h7) ?_
      refine r_aload hO d_M_go_4 rfl ?_
      refine r_getI hO f_M_191 rfl hM.2.1 d_M_go_5 ?_
      try simp (disch := omega) only [cd_set_eq, cd_set_ne, cd_set_set]
      refine r_tops (show _ = nI L from h6) ?_
      refine r_icmp_ge hO d_M_go_8 (fun c_8 => ?_) (fun c_8 => ?_)
      · exact main Q hA (h7.trans (by rw [← hr]; rfl))
      · exact absurd (nI_le (by omega) (by omega)) c_8
    | succ r ih =>
      intro p' Q hp' hA h7 hr
      have h6 : Q 6 = nI L := (hA 6 (by decide)).trans hL
      have hTp := hT.2 p' (by omega)
      refine r_aload hO d_M_go_0 rfl ?_
      refine r_getI hO f_M_195 rfl hM.2.1 d_M_go_1 ?_
      try simp (disch := omega) only [cd_set_eq, cd_set_ne, cd_set_set]
      refine r_tops (show _ = nI p' from h7) ?_
      refine r_aload hO d_M_go_4 rfl ?_
      refine r_getI hO f_M_191 rfl hM.2.1 d_M_go_5 ?_
      try simp (disch := omega) only [cd_set_eq, cd_set_ne, cd_set_set]
      refine r_tops (show _ = nI L from h6) ?_
      refine r_icmp_ge hO d_M_go_8 (fun c_8 => ?_) (fun c_8 => ?_)
      · exact absurd c_8 (nI_ge (by omega) (by omega))
      · refine r_aload hO d_M_go_11 rfl ?_
        refine r_getR hO f_M_22 rfl hM.2.1 (mo_r5 hM) d_M_go_12 ?_
        try simp (disch := omega) only [cd_set_eq, cd_set_ne, cd_set_set]
        refine r_aload hO d_M_go_15 rfl ?_
        refine r_getI hO f_M_195 rfl hM.2.1 d_M_go_16 ?_
        try simp (disch := omega) only [cd_set_eq, cd_set_ne, cd_set_set]
        refine r_tops (show _ = nI p' from h7) ?_
        refine r_iald hO (mo_s5 hM) (by omega) (by decide) d_M_go_19 ?_
        try simp (disch := omega) only [cd_set_eq, cd_set_ne, cd_set_set]
        rw [hTp.1]
        refine r_k hO d_M_go_20 ?_
        refine r_icmp_ne hO d_M_go_22 (fun c_22 => ?_) (fun c_22 => ?_)
        · rw [nI_eq (by omega) (by omega)] at c_22
          exact main Q hA (h7.trans (by rw [← hr, px_rn_n (by simpa using c_22)]))
        · rw [nI_eq (by omega) (by omega)] at c_22
          refine r_aload hO d_M_go_25 rfl ?_
          refine r_dup hO d_M_go_26 rfl ?_
          refine r_getI hO f_M_195 rfl hM.2.1 d_M_go_27 ?_
          try simp (disch := omega) only [cd_set_eq, cd_set_ne, cd_set_set]
          refine r_tops (show _ = nI p' from h7) ?_
          refine r_k hO d_M_go_30 ?_
          refine r_iaddN hO d_M_go_31 ?_
          refine r_putI hO f_M_195 rfl hM.2.1 hM.1 d_M_go_32 ?_
          try simp (disch := omega) only [cd_set_eq, cd_set_ne, cd_set_set]
          refine r_goto hO d_M_go_35 ?_
          exact ih (p' + 1) _ (by omega) (fun k k7 => (px_un _ _ k7).trans (hA k k7)) (px_ue _ _ _) (by rw [← hr, px_rn_y (by simpa using c_22)])
  refine r_mem (cd_set_self I m).symm ?_
  exact loopA (L - p) p _ (by omega) (fun _ _ => rfl) hp hs.symm
