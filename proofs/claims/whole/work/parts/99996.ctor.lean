/-! ===== constructors: the model ===== -/
theorem dI8_0 : decode cX8_init 0 = .ok (.aload_n 0, 1) := by decide +kernel
theorem dI8_1 : decode cX8_init 1 = .ok (.invokespecial 3, 3) := by decide +kernel
theorem dI8_4 : decode cX8_init 4 = .ok (.aload_n 0, 1) := by decide +kernel
theorem dI8_5 : decode cX8_init 5 = .ok (.sipush 545, 3) := by decide +kernel
theorem dI8_8 : decode cX8_init 8 = .ok (.newarray .int, 2) := by decide +kernel
theorem dI8_10 : decode cX8_init 10 = .ok (.putfield 9, 3) := by decide +kernel
theorem dI8_13 : decode cX8_init 13 = .ok (.aload_n 0, 1) := by decide +kernel
theorem dI8_14 : decode cX8_init 14 = .ok (.sipush 545, 3) := by decide +kernel
theorem dI8_17 : decode cX8_init 17 = .ok (.newarray .int, 2) := by decide +kernel
theorem dI8_19 : decode cX8_init 19 = .ok (.putfield 13, 3) := by decide +kernel
theorem dI8_22 : decode cX8_init 22 = .ok (.aload_n 0, 1) := by decide +kernel
theorem dI8_23 : decode cX8_init 23 = .ok (.sipush 545, 3) := by decide +kernel
theorem dI8_26 : decode cX8_init 26 = .ok (.newarray .int, 2) := by decide +kernel
theorem dI8_28 : decode cX8_init 28 = .ok (.putfield 16, 3) := by decide +kernel
theorem dI8_31 : decode cX8_init 31 = .ok (.aload_n 0, 1) := by decide +kernel
theorem dI8_32 : decode cX8_init 32 = .ok (.bipush 7, 2) := by decide +kernel
theorem dI8_34 : decode cX8_init 34 = .ok (.newarray .int, 2) := by decide +kernel
theorem dI8_36 : decode cX8_init 36 = .ok (.putfield 19, 3) := by decide +kernel
theorem dI8_39 : decode cX8_init 39 = .ok (.aload_n 0, 1) := by decide +kernel
theorem dI8_40 : decode cX8_init 40 = .ok (.bipush 7, 2) := by decide +kernel
theorem dI8_42 : decode cX8_init 42 = .ok (.newarray .int, 2) := by decide +kernel
theorem dI8_44 : decode cX8_init 44 = .ok (.dup, 1) := by decide +kernel
theorem dI8_45 : decode cX8_init 45 = .ok (.iconst 0, 1) := by decide +kernel
theorem dI8_46 : decode cX8_init 46 = .ok (.iconst 4, 1) := by decide +kernel
theorem dI8_47 : decode cX8_init 47 = .ok (.iastore, 1) := by decide +kernel
theorem dI8_48 : decode cX8_init 48 = .ok (.dup, 1) := by decide +kernel
theorem dI8_49 : decode cX8_init 49 = .ok (.iconst 1, 1) := by decide +kernel
theorem dI8_50 : decode cX8_init 50 = .ok (.iconst 5, 1) := by decide +kernel
theorem dI8_51 : decode cX8_init 51 = .ok (.iastore, 1) := by decide +kernel
theorem dI8_52 : decode cX8_init 52 = .ok (.dup, 1) := by decide +kernel
theorem dI8_53 : decode cX8_init 53 = .ok (.iconst 2, 1) := by decide +kernel
theorem dI8_54 : decode cX8_init 54 = .ok (.bipush 8, 2) := by decide +kernel
theorem dI8_56 : decode cX8_init 56 = .ok (.iastore, 1) := by decide +kernel
theorem dI8_57 : decode cX8_init 57 = .ok (.dup, 1) := by decide +kernel
theorem dI8_58 : decode cX8_init 58 = .ok (.iconst 3, 1) := by decide +kernel
theorem dI8_59 : decode cX8_init 59 = .ok (.iconst 3, 1) := by decide +kernel
theorem dI8_60 : decode cX8_init 60 = .ok (.iastore, 1) := by decide +kernel
theorem dI8_61 : decode cX8_init 61 = .ok (.dup, 1) := by decide +kernel
theorem dI8_62 : decode cX8_init 62 = .ok (.iconst 4, 1) := by decide +kernel
theorem dI8_63 : decode cX8_init 63 = .ok (.iconst 5, 1) := by decide +kernel
theorem dI8_64 : decode cX8_init 64 = .ok (.iastore, 1) := by decide +kernel
theorem dI8_65 : decode cX8_init 65 = .ok (.dup, 1) := by decide +kernel
theorem dI8_66 : decode cX8_init 66 = .ok (.iconst 5, 1) := by decide +kernel
theorem dI8_67 : decode cX8_init 67 = .ok (.iconst 3, 1) := by decide +kernel
theorem dI8_68 : decode cX8_init 68 = .ok (.iastore, 1) := by decide +kernel
theorem dI8_69 : decode cX8_init 69 = .ok (.dup, 1) := by decide +kernel
theorem dI8_70 : decode cX8_init 70 = .ok (.bipush 6, 2) := by decide +kernel
theorem dI8_72 : decode cX8_init 72 = .ok (.iconst 3, 1) := by decide +kernel
theorem dI8_73 : decode cX8_init 73 = .ok (.iastore, 1) := by decide +kernel
theorem dI8_74 : decode cX8_init 74 = .ok (.putfield 22, 3) := by decide +kernel
theorem dI8_77 : decode cX8_init 77 = .ok (.aload_n 0, 1) := by decide +kernel
theorem dI8_78 : decode cX8_init 78 = .ok (.bipush 7, 2) := by decide +kernel
theorem dI8_80 : decode cX8_init 80 = .ok (.newarray .int, 2) := by decide +kernel
theorem dI8_82 : decode cX8_init 82 = .ok (.dup, 1) := by decide +kernel
theorem dI8_83 : decode cX8_init 83 = .ok (.iconst 0, 1) := by decide +kernel
theorem dI8_84 : decode cX8_init 84 = .ok (.bipush 60, 2) := by decide +kernel
theorem dI8_86 : decode cX8_init 86 = .ok (.iastore, 1) := by decide +kernel
theorem dI8_87 : decode cX8_init 87 = .ok (.dup, 1) := by decide +kernel
theorem dI8_88 : decode cX8_init 88 = .ok (.iconst 1, 1) := by decide +kernel
theorem dI8_89 : decode cX8_init 89 = .ok (.bipush 30, 2) := by decide +kernel
theorem dI8_91 : decode cX8_init 91 = .ok (.iastore, 1) := by decide +kernel
theorem dI8_92 : decode cX8_init 92 = .ok (.dup, 1) := by decide +kernel
theorem dI8_93 : decode cX8_init 93 = .ok (.iconst 2, 1) := by decide +kernel
theorem dI8_94 : decode cX8_init 94 = .ok (.bipush 120, 2) := by decide +kernel
theorem dI8_96 : decode cX8_init 96 = .ok (.iastore, 1) := by decide +kernel
theorem dI8_97 : decode cX8_init 97 = .ok (.dup, 1) := by decide +kernel
theorem dI8_98 : decode cX8_init 98 = .ok (.iconst 3, 1) := by decide +kernel
theorem dI8_99 : decode cX8_init 99 = .ok (.bipush 6, 2) := by decide +kernel
theorem dI8_101 : decode cX8_init 101 = .ok (.iastore, 1) := by decide +kernel
theorem dI8_102 : decode cX8_init 102 = .ok (.dup, 1) := by decide +kernel
theorem dI8_103 : decode cX8_init 103 = .ok (.iconst 4, 1) := by decide +kernel
theorem dI8_104 : decode cX8_init 104 = .ok (.bipush 120, 2) := by decide +kernel
theorem dI8_106 : decode cX8_init 106 = .ok (.iastore, 1) := by decide +kernel
theorem dI8_107 : decode cX8_init 107 = .ok (.dup, 1) := by decide +kernel
theorem dI8_108 : decode cX8_init 108 = .ok (.iconst 5, 1) := by decide +kernel
theorem dI8_109 : decode cX8_init 109 = .ok (.bipush 90, 2) := by decide +kernel
theorem dI8_111 : decode cX8_init 111 = .ok (.iastore, 1) := by decide +kernel
theorem dI8_112 : decode cX8_init 112 = .ok (.dup, 1) := by decide +kernel
theorem dI8_113 : decode cX8_init 113 = .ok (.bipush 6, 2) := by decide +kernel
theorem dI8_115 : decode cX8_init 115 = .ok (.sipush 10000, 3) := by decide +kernel
theorem dI8_118 : decode cX8_init 118 = .ok (.iastore, 1) := by decide +kernel
theorem dI8_119 : decode cX8_init 119 = .ok (.putfield 25, 3) := by decide +kernel
theorem dI8_122 : decode cX8_init 122 = .ok (.aload_n 0, 1) := by decide +kernel
theorem dI8_123 : decode cX8_init 123 = .ok (.iconst 5, 1) := by decide +kernel
theorem dI8_124 : decode cX8_init 124 = .ok (.newarray .int, 2) := by decide +kernel
theorem dI8_126 : decode cX8_init 126 = .ok (.dup, 1) := by decide +kernel
theorem dI8_127 : decode cX8_init 127 = .ok (.iconst 0, 1) := by decide +kernel
theorem dI8_128 : decode cX8_init 128 = .ok (.sipush 1439, 3) := by decide +kernel
theorem dI8_131 : decode cX8_init 131 = .ok (.iastore, 1) := by decide +kernel
theorem dI8_132 : decode cX8_init 132 = .ok (.dup, 1) := by decide +kernel
theorem dI8_133 : decode cX8_init 133 = .ok (.iconst 1, 1) := by decide +kernel
theorem dI8_134 : decode cX8_init 134 = .ok (.bipush 99, 2) := by decide +kernel
theorem dI8_136 : decode cX8_init 136 = .ok (.iastore, 1) := by decide +kernel
theorem dI8_137 : decode cX8_init 137 = .ok (.dup, 1) := by decide +kernel
theorem dI8_138 : decode cX8_init 138 = .ok (.iconst 2, 1) := by decide +kernel
theorem dI8_139 : decode cX8_init 139 = .ok (.iconst 3, 1) := by decide +kernel
theorem dI8_140 : decode cX8_init 140 = .ok (.iastore, 1) := by decide +kernel
theorem dI8_141 : decode cX8_init 141 = .ok (.dup, 1) := by decide +kernel
theorem dI8_142 : decode cX8_init 142 = .ok (.iconst 3, 1) := by decide +kernel
theorem dI8_143 : decode cX8_init 143 = .ok (.sipush 999, 3) := by decide +kernel
theorem dI8_146 : decode cX8_init 146 = .ok (.iastore, 1) := by decide +kernel
theorem dI8_147 : decode cX8_init 147 = .ok (.dup, 1) := by decide +kernel
theorem dI8_148 : decode cX8_init 148 = .ok (.iconst 4, 1) := by decide +kernel
theorem dI8_149 : decode cX8_init 149 = .ok (.bipush 8, 2) := by decide +kernel
theorem dI8_151 : decode cX8_init 151 = .ok (.iastore, 1) := by decide +kernel
theorem dI8_152 : decode cX8_init 152 = .ok (.putfield 28, 3) := by decide +kernel
theorem dI8_155 : decode cX8_init 155 = .ok (.aload_n 0, 1) := by decide +kernel
theorem dI8_156 : decode cX8_init 156 = .ok (.iconst 3, 1) := by decide +kernel
theorem dI8_157 : decode cX8_init 157 = .ok (.anewarray 31, 3) := by decide +kernel
theorem dI8_160 : decode cX8_init 160 = .ok (.dup, 1) := by decide +kernel
theorem dI8_161 : decode cX8_init 161 = .ok (.iconst 0, 1) := by decide +kernel
theorem dI8_162 : decode cX8_init 162 = .ok (.ldc 33, 2) := by decide +kernel
theorem dI8_164 : decode cX8_init 164 = .ok (.aastore, 1) := by decide +kernel
theorem dI8_165 : decode cX8_init 165 = .ok (.dup, 1) := by decide +kernel
theorem dI8_166 : decode cX8_init 166 = .ok (.iconst 1, 1) := by decide +kernel
theorem dI8_167 : decode cX8_init 167 = .ok (.ldc 35, 2) := by decide +kernel
theorem dI8_169 : decode cX8_init 169 = .ok (.aastore, 1) := by decide +kernel
theorem dI8_170 : decode cX8_init 170 = .ok (.dup, 1) := by decide +kernel
theorem dI8_171 : decode cX8_init 171 = .ok (.iconst 2, 1) := by decide +kernel
theorem dI8_172 : decode cX8_init 172 = .ok (.ldc 37, 2) := by decide +kernel
theorem dI8_174 : decode cX8_init 174 = .ok (.aastore, 1) := by decide +kernel
theorem dI8_175 : decode cX8_init 175 = .ok (.putfield 39, 3) := by decide +kernel
theorem dI8_178 : decode cX8_init 178 = .ok (.aload_n 0, 1) := by decide +kernel
theorem dI8_179 : decode cX8_init 179 = .ok (.bipush 60, 2) := by decide +kernel
theorem dI8_181 : decode cX8_init 181 = .ok (.newarray .int, 2) := by decide +kernel
theorem dI8_183 : decode cX8_init 183 = .ok (.putfield 43, 3) := by decide +kernel
theorem dI8_186 : decode cX8_init 186 = .ok (.aload_n 0, 1) := by decide +kernel
theorem dI8_187 : decode cX8_init 187 = .ok (.iconst 4, 1) := by decide +kernel
theorem dI8_188 : decode cX8_init 188 = .ok (.newarray .int, 2) := by decide +kernel
theorem dI8_190 : decode cX8_init 190 = .ok (.putfield 46, 3) := by decide +kernel
theorem dI8_193 : decode cX8_init 193 = .ok (.aload_n 0, 1) := by decide +kernel
theorem dI8_194 : decode cX8_init 194 = .ok (.bipush 60, 2) := by decide +kernel
theorem dI8_196 : decode cX8_init 196 = .ok (.newarray .int, 2) := by decide +kernel
theorem dI8_198 : decode cX8_init 198 = .ok (.putfield 49, 3) := by decide +kernel
theorem dI8_201 : decode cX8_init 201 = .ok (.aload_n 0, 1) := by decide +kernel
theorem dI8_202 : decode cX8_init 202 = .ok (.bipush 30, 2) := by decide +kernel
theorem dI8_204 : decode cX8_init 204 = .ok (.newarray .int, 2) := by decide +kernel
theorem dI8_206 : decode cX8_init 206 = .ok (.putfield 52, 3) := by decide +kernel
theorem dI8_209 : decode cX8_init 209 = .ok (.aload_n 0, 1) := by decide +kernel
theorem dI8_210 : decode cX8_init 210 = .ok (.iconst 4, 1) := by decide +kernel
theorem dI8_211 : decode cX8_init 211 = .ok (.newarray .int, 2) := by decide +kernel
theorem dI8_213 : decode cX8_init 213 = .ok (.putfield 55, 3) := by decide +kernel
theorem dI8_216 : decode cX8_init 216 = .ok (.aload_n 0, 1) := by decide +kernel
theorem dI8_217 : decode cX8_init 217 = .ok (.iconst 4, 1) := by decide +kernel
theorem dI8_218 : decode cX8_init 218 = .ok (.newarray .int, 2) := by decide +kernel
theorem dI8_220 : decode cX8_init 220 = .ok (.putfield 58, 3) := by decide +kernel
theorem dI8_223 : decode cX8_init 223 = .ok (.aload_n 0, 1) := by decide +kernel
theorem dI8_224 : decode cX8_init 224 = .ok (.bipush 96, 2) := by decide +kernel
theorem dI8_226 : decode cX8_init 226 = .ok (.newarray .int, 2) := by decide +kernel
theorem dI8_228 : decode cX8_init 228 = .ok (.putfield 61, 3) := by decide +kernel
theorem dI8_231 : decode cX8_init 231 = .ok (.aload_n 0, 1) := by decide +kernel
theorem dI8_232 : decode cX8_init 232 = .ok (.bipush 24, 2) := by decide +kernel
theorem dI8_234 : decode cX8_init 234 = .ok (.newarray .int, 2) := by decide +kernel
theorem dI8_236 : decode cX8_init 236 = .ok (.putfield 64, 3) := by decide +kernel
theorem dI8_239 : decode cX8_init 239 = .ok (.aload_n 0, 1) := by decide +kernel
theorem dI8_240 : decode cX8_init 240 = .ok (.getfield 9, 3) := by decide +kernel
theorem dI8_243 : decode cX8_init 243 = .ok (.iconst 3, 1) := by decide +kernel
theorem dI8_244 : decode cX8_init 244 = .ok (.iconst 1, 1) := by decide +kernel
theorem dI8_245 : decode cX8_init 245 = .ok (.iastore, 1) := by decide +kernel
theorem dI8_246 : decode cX8_init 246 = .ok (.aload_n 0, 1) := by decide +kernel
theorem dI8_247 : decode cX8_init 247 = .ok (.getfield 9, 3) := by decide +kernel
theorem dI8_250 : decode cX8_init 250 = .ok (.iconst 4, 1) := by decide +kernel
theorem dI8_251 : decode cX8_init 251 = .ok (.sipush 900, 3) := by decide +kernel
theorem dI8_254 : decode cX8_init 254 = .ok (.iastore, 1) := by decide +kernel
theorem dI8_255 : decode cX8_init 255 = .ok (.aload_n 0, 1) := by decide +kernel
theorem dI8_256 : decode cX8_init 256 = .ok (.getfield 9, 3) := by decide +kernel
theorem dI8_259 : decode cX8_init 259 = .ok (.iconst 5, 1) := by decide +kernel
theorem dI8_260 : decode cX8_init 260 = .ok (.iconst 5, 1) := by decide +kernel
theorem dI8_261 : decode cX8_init 261 = .ok (.iastore, 1) := by decide +kernel
theorem dI8_262 : decode cX8_init 262 = .ok (.aload_n 0, 1) := by decide +kernel
theorem dI8_263 : decode cX8_init 263 = .ok (.getfield 9, 3) := by decide +kernel
theorem dI8_266 : decode cX8_init 266 = .ok (.bipush 7, 2) := by decide +kernel
theorem dI8_268 : decode cX8_init 268 = .ok (.bipush 60, 2) := by decide +kernel
theorem dI8_270 : decode cX8_init 270 = .ok (.iastore, 1) := by decide +kernel
theorem dI8_271 : decode cX8_init 271 = .ok (.aload_n 0, 1) := by decide +kernel
theorem dI8_272 : decode cX8_init 272 = .ok (.getfield 9, 3) := by decide +kernel
theorem dI8_275 : decode cX8_init 275 = .ok (.bipush 8, 2) := by decide +kernel
theorem dI8_277 : decode cX8_init 277 = .ok (.iconst 4, 1) := by decide +kernel
theorem dI8_278 : decode cX8_init 278 = .ok (.iastore, 1) := by decide +kernel
theorem dI8_279 : decode cX8_init 279 = .ok (.return_, 1) := by decide +kernel
def wModel (g : Gw) (f : Nat → Nat) : va_W := [(f 0, .inr (8, [.ref (f 1), .ref (f 2), .ref (f 3), .int 0, .ref (f 4), .ref (f 5), .ref (f 6), .ref (f 7), .ref (f 8), .int 0, .int 0, .int 0, .int 0, .ref (f 9), .int 0, .ref (f 10), .ref (f 11), .int 0, .ref (f 12), .int 0, .int 0, .int 0, .ref (f 13), .ref (f 14), .ref (f 15), .ref (f 16)])), (f 1, .inl (g.2.2.1 10, 545, .inl (upd (upd (upd (upd (upd (fun _ => 0) 3 1) 4 900) 5 5) 7 60) 8 4))), (f 16, .inl (g.2.2.1 10, 24, .inl (fun _ => 0))), (f 15, .inl (g.2.2.1 10, 96, .inl (fun _ => 0))), (f 14, .inl (g.2.2.1 10, 4, .inl (fun _ => 0))), (f 13, .inl (g.2.2.1 10, 4, .inl (fun _ => 0))), (f 12, .inl (g.2.2.1 10, 30, .inl (fun _ => 0))), (f 11, .inl (g.2.2.1 10, 60, .inl (fun _ => 0))), (f 10, .inl (g.2.2.1 10, 4, .inl (fun _ => 0))), (f 9, .inl (g.2.2.1 10, 60, .inl (fun _ => 0))), (f 8, .inl (g.2.2.1 14, 3, .inr (.inr (.inr (.inr (va_up (va_up (va_up (fun _ => none) 0 (some (g.1 (110 + 9)))) 1 (some (g.1 (110 + 10)))) 2 (some (g.1 (110 + 11))))))))), (f 7, .inl (g.2.2.1 10, 5, .inl (upd (upd (upd (upd (upd (fun _ => 0) 0 1439) 1 99) 2 3) 3 999) 4 8))), (f 6, .inl (g.2.2.1 10, 7, .inl (upd (upd (upd (upd (upd (upd (upd (fun _ => 0) 0 60) 1 30) 2 120) 3 6) 4 120) 5 90) 6 10000))), (f 5, .inl (g.2.2.1 10, 7, .inl (upd (upd (upd (upd (upd (upd (upd (fun _ => 0) 0 4) 1 5) 2 8) 3 3) 4 5) 5 3) 6 3))), (f 4, .inl (g.2.2.1 10, 7, .inl (fun _ => 0))), (f 3, .inl (g.2.2.1 10, 545, .inl (fun _ => 0))), (f 2, .inl (g.2.2.1 10, 545, .inl (fun _ => 0)))]
set_option maxHeartbeats 4000000 in
set_option maxRecDepth 100000 in
theorem con_Model (l : Launch) (g : Gw) (h0 : Nat) : CON l g yX8_init cX8_init 1 { frames := 1, cells := 16, slots := 1946, locals := 60 } 16 1946 (.inr (8, dfl 8)) h0 [] (wModel g) := by
  refine con_of (oc := 8) (by decide +kernel) rfl rfl (Nat.le_of_ble_eq_true rfl) ?_
  intro p e s m args below meth c ls X hr hlocks hl hWd
  obtain ⟨hx, hb, -⟩ := id X
  have hl : lv_has ls 1 [(0, .ref h0)] := hl
  have hWd : WD g _ s _ _ ([(h0, .inr (8, [.null, .null, .null, .int 0, .null, .null, .null, .null, .null, .int 0, .int 0, .int 0, .int 0, .null, .int 0, .null, .null, .int 0, .null, .int 0, .int 0, .int 0, .null, .null, .null, .null]))]) := hWd
  obtain ⟨T0, hT0⟩ : ∃ T : va_W, T = [] := ⟨_, rfl⟩
  have hWd : WD g (va_A [(h0, .inr (8, dfl 8))] s.heap.size) s s.heap [] ((h0, .inr (8, [.null, .null, .null, .int 0, .null, .null, .null, .null, .null, .int 0, .int 0, .int 0, .int 0, .null, .int 0, .null, .null, .int 0, .null, .int 0, .int 0, .int 0, .null, .null, .null, .null])) :: T0) := by rw [hT0]; exact hWd
  refine lv_aload_n hx hb dI8_0 rfl (lv_at hl 0 rfl) ?_
  refine cr_obj X (gdW_in (i := 907) (by decide +kernel)) hl.1 dI8_1 (Nat.le_of_ble_eq_true rfl) (Nat.le_of_ble_eq_true rfl) ?_
  refine lv_aload_n hx hb dI8_4 rfl (lv_at hl 0 rfl) ?_
  refine lv_sipush (v := 545) hx hb dI8_5 (by decide +kernel) ?_
  refine cr_newI X hWd (N := 545) (by decide +kernel) (by decide +kernel) (Nat.le_of_ble_eq_true rfl) (Nat.le_of_ble_eq_true rfl) (Nat.le_of_ble_eq_true rfl) dI8_8 (fun q1 Hq1 hWd => ?_)
  refine W.widen (k := 1) (n := 545) (Nat.le_of_ble_eq_true rfl) (Nat.le_of_ble_eq_true rfl) ?_
  have hWd : WD g _ s _ _ ((q1, .inl (g.2.2.1 10, 545, .inl (fun _ => 0))) :: (h0, .inr (8, [.null, .null, .null, .int 0, .null, .null, .null, .null, .null, .int 0, .int 0, .int 0, .int 0, .null, .int 0, .null, .null, .int 0, .null, .int 0, .int 0, .int 0, .null, .null, .null, .null])) :: T0) := WD_rot hWd
  refine cr_put X hWd 1 (ci := 8) (k := 0) rfl (by decide) (by decide) rfl (gdW_in (i := 913) (by decide +kernel)) rfl rfl (Nat.le_of_ble_eq_true rfl) dI8_10 (fun H2 lH2 hWd => ?_)
  have hWd : WD g _ s _ _ ((q1, .inl (g.2.2.1 10, 545, .inl (fun _ => 0))) :: (h0, .inr (8, [.ref q1, .null, .null, .int 0, .null, .null, .null, .null, .null, .int 0, .int 0, .int 0, .int 0, .null, .int 0, .null, .null, .int 0, .null, .int 0, .int 0, .int 0, .null, .null, .null, .null])) :: T0) := hWd
  have hWd : WD g _ s _ _ ((h0, .inr (8, [.ref q1, .null, .null, .int 0, .null, .null, .null, .null, .null, .int 0, .int 0, .int 0, .int 0, .null, .int 0, .null, .null, .int 0, .null, .int 0, .int 0, .int 0, .null, .null, .null, .null])) :: (q1, .inl (g.2.2.1 10, 545, .inl (fun _ => 0))) :: T0) := WD_sw hWd
  refine lv_aload_n hx hb dI8_13 rfl (lv_at hl 0 rfl) ?_
  refine lv_sipush (v := 545) hx hb dI8_14 (by decide +kernel) ?_
  refine cr_newI X hWd (N := 545) (by decide +kernel) (by decide +kernel) (Nat.le_of_ble_eq_true rfl) (Nat.le_of_ble_eq_true rfl) (Nat.le_of_ble_eq_true rfl) dI8_17 (fun q3 Hq3 hWd => ?_)
  refine W.widen (k := 2) (n := 1090) (Nat.le_of_ble_eq_true rfl) (Nat.le_of_ble_eq_true rfl) ?_
  have hWd : WD g _ s _ _ ((q3, .inl (g.2.2.1 10, 545, .inl (fun _ => 0))) :: (h0, .inr (8, [.ref q1, .null, .null, .int 0, .null, .null, .null, .null, .null, .int 0, .int 0, .int 0, .int 0, .null, .int 0, .null, .null, .int 0, .null, .int 0, .int 0, .int 0, .null, .null, .null, .null])) :: (q1, .inl (g.2.2.1 10, 545, .inl (fun _ => 0))) :: T0) := WD_rot hWd
  refine cr_put X hWd 1 (ci := 8) (k := 1) rfl (by decide) (by decide) rfl (gdW_in (i := 914) (by decide +kernel)) rfl rfl (Nat.le_of_ble_eq_true rfl) dI8_19 (fun H4 lH4 hWd => ?_)
  have hWd : WD g _ s _ _ ((q3, .inl (g.2.2.1 10, 545, .inl (fun _ => 0))) :: (h0, .inr (8, [.ref q1, .ref q3, .null, .int 0, .null, .null, .null, .null, .null, .int 0, .int 0, .int 0, .int 0, .null, .int 0, .null, .null, .int 0, .null, .int 0, .int 0, .int 0, .null, .null, .null, .null])) :: (q1, .inl (g.2.2.1 10, 545, .inl (fun _ => 0))) :: T0) := hWd
  obtain ⟨T1, hT1⟩ : ∃ T : va_W, T = (q3, .inl (g.2.2.1 10, 545, .inl (fun _ => 0))) :: T0 := ⟨_, rfl⟩
  have hWd : WD g _ s _ _ ((h0, .inr (8, [.ref q1, .ref q3, .null, .int 0, .null, .null, .null, .null, .null, .int 0, .int 0, .int 0, .int 0, .null, .int 0, .null, .null, .int 0, .null, .int 0, .int 0, .int 0, .null, .null, .null, .null])) :: (q1, .inl (g.2.2.1 10, 545, .inl (fun _ => 0))) :: (q3, .inl (g.2.2.1 10, 545, .inl (fun _ => 0))) :: T0) := WD_sw2 hWd
  rw [← hT1] at hWd
  refine lv_aload_n hx hb dI8_22 rfl (lv_at hl 0 rfl) ?_
  refine lv_sipush (v := 545) hx hb dI8_23 (by decide +kernel) ?_
  refine cr_newI X hWd (N := 545) (by decide +kernel) (by decide +kernel) (Nat.le_of_ble_eq_true rfl) (Nat.le_of_ble_eq_true rfl) (Nat.le_of_ble_eq_true rfl) dI8_26 (fun q5 Hq5 hWd => ?_)
  refine W.widen (k := 3) (n := 1635) (Nat.le_of_ble_eq_true rfl) (Nat.le_of_ble_eq_true rfl) ?_
  have hWd : WD g _ s _ _ ((q5, .inl (g.2.2.1 10, 545, .inl (fun _ => 0))) :: (h0, .inr (8, [.ref q1, .ref q3, .null, .int 0, .null, .null, .null, .null, .null, .int 0, .int 0, .int 0, .int 0, .null, .int 0, .null, .null, .int 0, .null, .int 0, .int 0, .int 0, .null, .null, .null, .null])) :: (q1, .inl (g.2.2.1 10, 545, .inl (fun _ => 0))) :: T1) := WD_rot hWd
  refine cr_put X hWd 1 (ci := 8) (k := 2) rfl (by decide) (by decide) rfl (gdW_in (i := 915) (by decide +kernel)) rfl rfl (Nat.le_of_ble_eq_true rfl) dI8_28 (fun H6 lH6 hWd => ?_)
  have hWd : WD g _ s _ _ ((q5, .inl (g.2.2.1 10, 545, .inl (fun _ => 0))) :: (h0, .inr (8, [.ref q1, .ref q3, .ref q5, .int 0, .null, .null, .null, .null, .null, .int 0, .int 0, .int 0, .int 0, .null, .int 0, .null, .null, .int 0, .null, .int 0, .int 0, .int 0, .null, .null, .null, .null])) :: (q1, .inl (g.2.2.1 10, 545, .inl (fun _ => 0))) :: T1) := hWd
  obtain ⟨T2, hT2⟩ : ∃ T : va_W, T = (q5, .inl (g.2.2.1 10, 545, .inl (fun _ => 0))) :: T1 := ⟨_, rfl⟩
  have hWd : WD g _ s _ _ ((h0, .inr (8, [.ref q1, .ref q3, .ref q5, .int 0, .null, .null, .null, .null, .null, .int 0, .int 0, .int 0, .int 0, .null, .int 0, .null, .null, .int 0, .null, .int 0, .int 0, .int 0, .null, .null, .null, .null])) :: (q1, .inl (g.2.2.1 10, 545, .inl (fun _ => 0))) :: (q5, .inl (g.2.2.1 10, 545, .inl (fun _ => 0))) :: T1) := WD_sw2 hWd
  rw [← hT2] at hWd
  refine lv_aload_n hx hb dI8_31 rfl (lv_at hl 0 rfl) ?_
  refine lv_bipush (v := 7) hx hb dI8_32 (by decide +kernel) ?_
  refine cr_newI X hWd (N := 7) (by decide +kernel) (by decide +kernel) (Nat.le_of_ble_eq_true rfl) (Nat.le_of_ble_eq_true rfl) (Nat.le_of_ble_eq_true rfl) dI8_34 (fun q7 Hq7 hWd => ?_)
  refine W.widen (k := 4) (n := 1642) (Nat.le_of_ble_eq_true rfl) (Nat.le_of_ble_eq_true rfl) ?_
  have hWd : WD g _ s _ _ ((q7, .inl (g.2.2.1 10, 7, .inl (fun _ => 0))) :: (h0, .inr (8, [.ref q1, .ref q3, .ref q5, .int 0, .null, .null, .null, .null, .null, .int 0, .int 0, .int 0, .int 0, .null, .int 0, .null, .null, .int 0, .null, .int 0, .int 0, .int 0, .null, .null, .null, .null])) :: (q1, .inl (g.2.2.1 10, 545, .inl (fun _ => 0))) :: T2) := WD_rot hWd
  refine cr_put X hWd 1 (ci := 8) (k := 4) rfl (by decide) (by decide) rfl (gdW_in (i := 917) (by decide +kernel)) rfl rfl (Nat.le_of_ble_eq_true rfl) dI8_36 (fun H8 lH8 hWd => ?_)
  have hWd : WD g _ s _ _ ((q7, .inl (g.2.2.1 10, 7, .inl (fun _ => 0))) :: (h0, .inr (8, [.ref q1, .ref q3, .ref q5, .int 0, .ref q7, .null, .null, .null, .null, .int 0, .int 0, .int 0, .int 0, .null, .int 0, .null, .null, .int 0, .null, .int 0, .int 0, .int 0, .null, .null, .null, .null])) :: (q1, .inl (g.2.2.1 10, 545, .inl (fun _ => 0))) :: T2) := hWd
  obtain ⟨T3, hT3⟩ : ∃ T : va_W, T = (q7, .inl (g.2.2.1 10, 7, .inl (fun _ => 0))) :: T2 := ⟨_, rfl⟩
  have hWd : WD g _ s _ _ ((h0, .inr (8, [.ref q1, .ref q3, .ref q5, .int 0, .ref q7, .null, .null, .null, .null, .int 0, .int 0, .int 0, .int 0, .null, .int 0, .null, .null, .int 0, .null, .int 0, .int 0, .int 0, .null, .null, .null, .null])) :: (q1, .inl (g.2.2.1 10, 545, .inl (fun _ => 0))) :: (q7, .inl (g.2.2.1 10, 7, .inl (fun _ => 0))) :: T2) := WD_sw2 hWd
  rw [← hT3] at hWd
  refine lv_aload_n hx hb dI8_39 rfl (lv_at hl 0 rfl) ?_
  refine lv_bipush (v := 7) hx hb dI8_40 (by decide +kernel) ?_
  refine cr_newI X hWd (N := 7) (by decide +kernel) (by decide +kernel) (Nat.le_of_ble_eq_true rfl) (Nat.le_of_ble_eq_true rfl) (Nat.le_of_ble_eq_true rfl) dI8_42 (fun q9 Hq9 hWd => ?_)
  refine W.widen (k := 5) (n := 1649) (Nat.le_of_ble_eq_true rfl) (Nat.le_of_ble_eq_true rfl) ?_
  have hWd : WD g _ s _ _ ((q9, .inl (g.2.2.1 10, 7, .inl (fun _ => 0))) :: (h0, .inr (8, [.ref q1, .ref q3, .ref q5, .int 0, .ref q7, .null, .null, .null, .null, .int 0, .int 0, .int 0, .int 0, .null, .int 0, .null, .null, .int 0, .null, .int 0, .int 0, .int 0, .null, .null, .null, .null])) :: (q1, .inl (g.2.2.1 10, 545, .inl (fun _ => 0))) :: T3) := WD_rot hWd
  refine lv_dup hx hb dI8_44 rfl ?_
  refine lv_iconst (v := 0) hx hb dI8_45 (by decide +kernel) ?_
  refine lv_iconst (v := 4) hx hb dI8_46 (by decide +kernel) ?_
  refine cr_iast X hWd 0 rfl (vpi (by decide +kernel)) dI8_47 (fun H10 lH10 hWd => ?_)
  have hWd : WD g _ s _ _ ((q9, .inl (g.2.2.1 10, 7, .inl (upd (fun _ => 0) 0 4))) :: (h0, .inr (8, [.ref q1, .ref q3, .ref q5, .int 0, .ref q7, .null, .null, .null, .null, .int 0, .int 0, .int 0, .int 0, .null, .int 0, .null, .null, .int 0, .null, .int 0, .int 0, .int 0, .null, .null, .null, .null])) :: (q1, .inl (g.2.2.1 10, 545, .inl (fun _ => 0))) :: T3) := hWd
  refine lv_dup hx hb dI8_48 rfl ?_
  refine lv_iconst (v := 1) hx hb dI8_49 (by decide +kernel) ?_
  refine lv_iconst (v := 5) hx hb dI8_50 (by decide +kernel) ?_
  refine cr_iast X hWd 0 rfl (vpi (by decide +kernel)) dI8_51 (fun H11 lH11 hWd => ?_)
  have hWd : WD g _ s _ _ ((q9, .inl (g.2.2.1 10, 7, .inl (upd (upd (fun _ => 0) 0 4) 1 5))) :: (h0, .inr (8, [.ref q1, .ref q3, .ref q5, .int 0, .ref q7, .null, .null, .null, .null, .int 0, .int 0, .int 0, .int 0, .null, .int 0, .null, .null, .int 0, .null, .int 0, .int 0, .int 0, .null, .null, .null, .null])) :: (q1, .inl (g.2.2.1 10, 545, .inl (fun _ => 0))) :: T3) := hWd
  refine lv_dup hx hb dI8_52 rfl ?_
  refine lv_iconst (v := 2) hx hb dI8_53 (by decide +kernel) ?_
  refine lv_bipush (v := 8) hx hb dI8_54 (by decide +kernel) ?_
  refine cr_iast X hWd 0 rfl (vpi (by decide +kernel)) dI8_56 (fun H12 lH12 hWd => ?_)
  have hWd : WD g _ s _ _ ((q9, .inl (g.2.2.1 10, 7, .inl (upd (upd (upd (fun _ => 0) 0 4) 1 5) 2 8))) :: (h0, .inr (8, [.ref q1, .ref q3, .ref q5, .int 0, .ref q7, .null, .null, .null, .null, .int 0, .int 0, .int 0, .int 0, .null, .int 0, .null, .null, .int 0, .null, .int 0, .int 0, .int 0, .null, .null, .null, .null])) :: (q1, .inl (g.2.2.1 10, 545, .inl (fun _ => 0))) :: T3) := hWd
  refine lv_dup hx hb dI8_57 rfl ?_
  refine lv_iconst (v := 3) hx hb dI8_58 (by decide +kernel) ?_
  refine lv_iconst (v := 3) hx hb dI8_59 (by decide +kernel) ?_
  refine cr_iast X hWd 0 rfl (vpi (by decide +kernel)) dI8_60 (fun H13 lH13 hWd => ?_)
  have hWd : WD g _ s _ _ ((q9, .inl (g.2.2.1 10, 7, .inl (upd (upd (upd (upd (fun _ => 0) 0 4) 1 5) 2 8) 3 3))) :: (h0, .inr (8, [.ref q1, .ref q3, .ref q5, .int 0, .ref q7, .null, .null, .null, .null, .int 0, .int 0, .int 0, .int 0, .null, .int 0, .null, .null, .int 0, .null, .int 0, .int 0, .int 0, .null, .null, .null, .null])) :: (q1, .inl (g.2.2.1 10, 545, .inl (fun _ => 0))) :: T3) := hWd
  refine lv_dup hx hb dI8_61 rfl ?_
  refine lv_iconst (v := 4) hx hb dI8_62 (by decide +kernel) ?_
  refine lv_iconst (v := 5) hx hb dI8_63 (by decide +kernel) ?_
  refine cr_iast X hWd 0 rfl (vpi (by decide +kernel)) dI8_64 (fun H14 lH14 hWd => ?_)
  have hWd : WD g _ s _ _ ((q9, .inl (g.2.2.1 10, 7, .inl (upd (upd (upd (upd (upd (fun _ => 0) 0 4) 1 5) 2 8) 3 3) 4 5))) :: (h0, .inr (8, [.ref q1, .ref q3, .ref q5, .int 0, .ref q7, .null, .null, .null, .null, .int 0, .int 0, .int 0, .int 0, .null, .int 0, .null, .null, .int 0, .null, .int 0, .int 0, .int 0, .null, .null, .null, .null])) :: (q1, .inl (g.2.2.1 10, 545, .inl (fun _ => 0))) :: T3) := hWd
  refine lv_dup hx hb dI8_65 rfl ?_
  refine lv_iconst (v := 5) hx hb dI8_66 (by decide +kernel) ?_
  refine lv_iconst (v := 3) hx hb dI8_67 (by decide +kernel) ?_
  refine cr_iast X hWd 0 rfl (vpi (by decide +kernel)) dI8_68 (fun H15 lH15 hWd => ?_)
  have hWd : WD g _ s _ _ ((q9, .inl (g.2.2.1 10, 7, .inl (upd (upd (upd (upd (upd (upd (fun _ => 0) 0 4) 1 5) 2 8) 3 3) 4 5) 5 3))) :: (h0, .inr (8, [.ref q1, .ref q3, .ref q5, .int 0, .ref q7, .null, .null, .null, .null, .int 0, .int 0, .int 0, .int 0, .null, .int 0, .null, .null, .int 0, .null, .int 0, .int 0, .int 0, .null, .null, .null, .null])) :: (q1, .inl (g.2.2.1 10, 545, .inl (fun _ => 0))) :: T3) := hWd
  refine lv_dup hx hb dI8_69 rfl ?_
  refine lv_bipush (v := 6) hx hb dI8_70 (by decide +kernel) ?_
  refine lv_iconst (v := 3) hx hb dI8_72 (by decide +kernel) ?_
  refine cr_iast X hWd 0 rfl (vpi (by decide +kernel)) dI8_73 (fun H16 lH16 hWd => ?_)
  have hWd : WD g _ s _ _ ((q9, .inl (g.2.2.1 10, 7, .inl (upd (upd (upd (upd (upd (upd (upd (fun _ => 0) 0 4) 1 5) 2 8) 3 3) 4 5) 5 3) 6 3))) :: (h0, .inr (8, [.ref q1, .ref q3, .ref q5, .int 0, .ref q7, .null, .null, .null, .null, .int 0, .int 0, .int 0, .int 0, .null, .int 0, .null, .null, .int 0, .null, .int 0, .int 0, .int 0, .null, .null, .null, .null])) :: (q1, .inl (g.2.2.1 10, 545, .inl (fun _ => 0))) :: T3) := hWd
  refine cr_put X hWd 1 (ci := 8) (k := 5) rfl (by decide) (by decide) rfl (gdW_in (i := 918) (by decide +kernel)) rfl rfl (Nat.le_of_ble_eq_true rfl) dI8_74 (fun H17 lH17 hWd => ?_)
  have hWd : WD g _ s _ _ ((q9, .inl (g.2.2.1 10, 7, .inl (upd (upd (upd (upd (upd (upd (upd (fun _ => 0) 0 4) 1 5) 2 8) 3 3) 4 5) 5 3) 6 3))) :: (h0, .inr (8, [.ref q1, .ref q3, .ref q5, .int 0, .ref q7, .ref q9, .null, .null, .null, .int 0, .int 0, .int 0, .int 0, .null, .int 0, .null, .null, .int 0, .null, .int 0, .int 0, .int 0, .null, .null, .null, .null])) :: (q1, .inl (g.2.2.1 10, 545, .inl (fun _ => 0))) :: T3) := hWd
  obtain ⟨T4, hT4⟩ : ∃ T : va_W, T = (q9, .inl (g.2.2.1 10, 7, .inl (upd (upd (upd (upd (upd (upd (upd (fun _ => 0) 0 4) 1 5) 2 8) 3 3) 4 5) 5 3) 6 3))) :: T3 := ⟨_, rfl⟩
  have hWd : WD g _ s _ _ ((h0, .inr (8, [.ref q1, .ref q3, .ref q5, .int 0, .ref q7, .ref q9, .null, .null, .null, .int 0, .int 0, .int 0, .int 0, .null, .int 0, .null, .null, .int 0, .null, .int 0, .int 0, .int 0, .null, .null, .null, .null])) :: (q1, .inl (g.2.2.1 10, 545, .inl (fun _ => 0))) :: (q9, .inl (g.2.2.1 10, 7, .inl (upd (upd (upd (upd (upd (upd (upd (fun _ => 0) 0 4) 1 5) 2 8) 3 3) 4 5) 5 3) 6 3))) :: T3) := WD_sw2 hWd
  rw [← hT4] at hWd
  refine lv_aload_n hx hb dI8_77 rfl (lv_at hl 0 rfl) ?_
  refine lv_bipush (v := 7) hx hb dI8_78 (by decide +kernel) ?_
  refine cr_newI X hWd (N := 7) (by decide +kernel) (by decide +kernel) (Nat.le_of_ble_eq_true rfl) (Nat.le_of_ble_eq_true rfl) (Nat.le_of_ble_eq_true rfl) dI8_80 (fun q18 Hq18 hWd => ?_)
  refine W.widen (k := 6) (n := 1656) (Nat.le_of_ble_eq_true rfl) (Nat.le_of_ble_eq_true rfl) ?_
  have hWd : WD g _ s _ _ ((q18, .inl (g.2.2.1 10, 7, .inl (fun _ => 0))) :: (h0, .inr (8, [.ref q1, .ref q3, .ref q5, .int 0, .ref q7, .ref q9, .null, .null, .null, .int 0, .int 0, .int 0, .int 0, .null, .int 0, .null, .null, .int 0, .null, .int 0, .int 0, .int 0, .null, .null, .null, .null])) :: (q1, .inl (g.2.2.1 10, 545, .inl (fun _ => 0))) :: T4) := WD_rot hWd
  refine lv_dup hx hb dI8_82 rfl ?_
  refine lv_iconst (v := 0) hx hb dI8_83 (by decide +kernel) ?_
  refine lv_bipush (v := 60) hx hb dI8_84 (by decide +kernel) ?_
  refine cr_iast X hWd 0 rfl (vpi (by decide +kernel)) dI8_86 (fun H19 lH19 hWd => ?_)
  have hWd : WD g _ s _ _ ((q18, .inl (g.2.2.1 10, 7, .inl (upd (fun _ => 0) 0 60))) :: (h0, .inr (8, [.ref q1, .ref q3, .ref q5, .int 0, .ref q7, .ref q9, .null, .null, .null, .int 0, .int 0, .int 0, .int 0, .null, .int 0, .null, .null, .int 0, .null, .int 0, .int 0, .int 0, .null, .null, .null, .null])) :: (q1, .inl (g.2.2.1 10, 545, .inl (fun _ => 0))) :: T4) := hWd
  refine lv_dup hx hb dI8_87 rfl ?_
  refine lv_iconst (v := 1) hx hb dI8_88 (by decide +kernel) ?_
  refine lv_bipush (v := 30) hx hb dI8_89 (by decide +kernel) ?_
  refine cr_iast X hWd 0 rfl (vpi (by decide +kernel)) dI8_91 (fun H20 lH20 hWd => ?_)
  have hWd : WD g _ s _ _ ((q18, .inl (g.2.2.1 10, 7, .inl (upd (upd (fun _ => 0) 0 60) 1 30))) :: (h0, .inr (8, [.ref q1, .ref q3, .ref q5, .int 0, .ref q7, .ref q9, .null, .null, .null, .int 0, .int 0, .int 0, .int 0, .null, .int 0, .null, .null, .int 0, .null, .int 0, .int 0, .int 0, .null, .null, .null, .null])) :: (q1, .inl (g.2.2.1 10, 545, .inl (fun _ => 0))) :: T4) := hWd
  refine lv_dup hx hb dI8_92 rfl ?_
  refine lv_iconst (v := 2) hx hb dI8_93 (by decide +kernel) ?_
  refine lv_bipush (v := 120) hx hb dI8_94 (by decide +kernel) ?_
  refine cr_iast X hWd 0 rfl (vpi (by decide +kernel)) dI8_96 (fun H21 lH21 hWd => ?_)
  have hWd : WD g _ s _ _ ((q18, .inl (g.2.2.1 10, 7, .inl (upd (upd (upd (fun _ => 0) 0 60) 1 30) 2 120))) :: (h0, .inr (8, [.ref q1, .ref q3, .ref q5, .int 0, .ref q7, .ref q9, .null, .null, .null, .int 0, .int 0, .int 0, .int 0, .null, .int 0, .null, .null, .int 0, .null, .int 0, .int 0, .int 0, .null, .null, .null, .null])) :: (q1, .inl (g.2.2.1 10, 545, .inl (fun _ => 0))) :: T4) := hWd
  refine lv_dup hx hb dI8_97 rfl ?_
  refine lv_iconst (v := 3) hx hb dI8_98 (by decide +kernel) ?_
  refine lv_bipush (v := 6) hx hb dI8_99 (by decide +kernel) ?_
  refine cr_iast X hWd 0 rfl (vpi (by decide +kernel)) dI8_101 (fun H22 lH22 hWd => ?_)
  have hWd : WD g _ s _ _ ((q18, .inl (g.2.2.1 10, 7, .inl (upd (upd (upd (upd (fun _ => 0) 0 60) 1 30) 2 120) 3 6))) :: (h0, .inr (8, [.ref q1, .ref q3, .ref q5, .int 0, .ref q7, .ref q9, .null, .null, .null, .int 0, .int 0, .int 0, .int 0, .null, .int 0, .null, .null, .int 0, .null, .int 0, .int 0, .int 0, .null, .null, .null, .null])) :: (q1, .inl (g.2.2.1 10, 545, .inl (fun _ => 0))) :: T4) := hWd
  refine lv_dup hx hb dI8_102 rfl ?_
  refine lv_iconst (v := 4) hx hb dI8_103 (by decide +kernel) ?_
  refine lv_bipush (v := 120) hx hb dI8_104 (by decide +kernel) ?_
  refine cr_iast X hWd 0 rfl (vpi (by decide +kernel)) dI8_106 (fun H23 lH23 hWd => ?_)
  have hWd : WD g _ s _ _ ((q18, .inl (g.2.2.1 10, 7, .inl (upd (upd (upd (upd (upd (fun _ => 0) 0 60) 1 30) 2 120) 3 6) 4 120))) :: (h0, .inr (8, [.ref q1, .ref q3, .ref q5, .int 0, .ref q7, .ref q9, .null, .null, .null, .int 0, .int 0, .int 0, .int 0, .null, .int 0, .null, .null, .int 0, .null, .int 0, .int 0, .int 0, .null, .null, .null, .null])) :: (q1, .inl (g.2.2.1 10, 545, .inl (fun _ => 0))) :: T4) := hWd
  refine lv_dup hx hb dI8_107 rfl ?_
  refine lv_iconst (v := 5) hx hb dI8_108 (by decide +kernel) ?_
  refine lv_bipush (v := 90) hx hb dI8_109 (by decide +kernel) ?_
  refine cr_iast X hWd 0 rfl (vpi (by decide +kernel)) dI8_111 (fun H24 lH24 hWd => ?_)
  have hWd : WD g _ s _ _ ((q18, .inl (g.2.2.1 10, 7, .inl (upd (upd (upd (upd (upd (upd (fun _ => 0) 0 60) 1 30) 2 120) 3 6) 4 120) 5 90))) :: (h0, .inr (8, [.ref q1, .ref q3, .ref q5, .int 0, .ref q7, .ref q9, .null, .null, .null, .int 0, .int 0, .int 0, .int 0, .null, .int 0, .null, .null, .int 0, .null, .int 0, .int 0, .int 0, .null, .null, .null, .null])) :: (q1, .inl (g.2.2.1 10, 545, .inl (fun _ => 0))) :: T4) := hWd
  refine lv_dup hx hb dI8_112 rfl ?_
  refine lv_bipush (v := 6) hx hb dI8_113 (by decide +kernel) ?_
  refine lv_sipush (v := 10000) hx hb dI8_115 (by decide +kernel) ?_
  refine cr_iast X hWd 0 rfl (vpi (by decide +kernel)) dI8_118 (fun H25 lH25 hWd => ?_)
  have hWd : WD g _ s _ _ ((q18, .inl (g.2.2.1 10, 7, .inl (upd (upd (upd (upd (upd (upd (upd (fun _ => 0) 0 60) 1 30) 2 120) 3 6) 4 120) 5 90) 6 10000))) :: (h0, .inr (8, [.ref q1, .ref q3, .ref q5, .int 0, .ref q7, .ref q9, .null, .null, .null, .int 0, .int 0, .int 0, .int 0, .null, .int 0, .null, .null, .int 0, .null, .int 0, .int 0, .int 0, .null, .null, .null, .null])) :: (q1, .inl (g.2.2.1 10, 545, .inl (fun _ => 0))) :: T4) := hWd
  refine cr_put X hWd 1 (ci := 8) (k := 6) rfl (by decide) (by decide) rfl (gdW_in (i := 919) (by decide +kernel)) rfl rfl (Nat.le_of_ble_eq_true rfl) dI8_119 (fun H26 lH26 hWd => ?_)
  have hWd : WD g _ s _ _ ((q18, .inl (g.2.2.1 10, 7, .inl (upd (upd (upd (upd (upd (upd (upd (fun _ => 0) 0 60) 1 30) 2 120) 3 6) 4 120) 5 90) 6 10000))) :: (h0, .inr (8, [.ref q1, .ref q3, .ref q5, .int 0, .ref q7, .ref q9, .ref q18, .null, .null, .int 0, .int 0, .int 0, .int 0, .null, .int 0, .null, .null, .int 0, .null, .int 0, .int 0, .int 0, .null, .null, .null, .null])) :: (q1, .inl (g.2.2.1 10, 545, .inl (fun _ => 0))) :: T4) := hWd
  obtain ⟨T5, hT5⟩ : ∃ T : va_W, T = (q18, .inl (g.2.2.1 10, 7, .inl (upd (upd (upd (upd (upd (upd (upd (fun _ => 0) 0 60) 1 30) 2 120) 3 6) 4 120) 5 90) 6 10000))) :: T4 := ⟨_, rfl⟩
  have hWd : WD g _ s _ _ ((h0, .inr (8, [.ref q1, .ref q3, .ref q5, .int 0, .ref q7, .ref q9, .ref q18, .null, .null, .int 0, .int 0, .int 0, .int 0, .null, .int 0, .null, .null, .int 0, .null, .int 0, .int 0, .int 0, .null, .null, .null, .null])) :: (q1, .inl (g.2.2.1 10, 545, .inl (fun _ => 0))) :: (q18, .inl (g.2.2.1 10, 7, .inl (upd (upd (upd (upd (upd (upd (upd (fun _ => 0) 0 60) 1 30) 2 120) 3 6) 4 120) 5 90) 6 10000))) :: T4) := WD_sw2 hWd
  rw [← hT5] at hWd
  refine lv_aload_n hx hb dI8_122 rfl (lv_at hl 0 rfl) ?_
  refine lv_iconst (v := 5) hx hb dI8_123 (by decide +kernel) ?_
  refine cr_newI X hWd (N := 5) (by decide +kernel) (by decide +kernel) (Nat.le_of_ble_eq_true rfl) (Nat.le_of_ble_eq_true rfl) (Nat.le_of_ble_eq_true rfl) dI8_124 (fun q27 Hq27 hWd => ?_)
  refine W.widen (k := 7) (n := 1661) (Nat.le_of_ble_eq_true rfl) (Nat.le_of_ble_eq_true rfl) ?_
  have hWd : WD g _ s _ _ ((q27, .inl (g.2.2.1 10, 5, .inl (fun _ => 0))) :: (h0, .inr (8, [.ref q1, .ref q3, .ref q5, .int 0, .ref q7, .ref q9, .ref q18, .null, .null, .int 0, .int 0, .int 0, .int 0, .null, .int 0, .null, .null, .int 0, .null, .int 0, .int 0, .int 0, .null, .null, .null, .null])) :: (q1, .inl (g.2.2.1 10, 545, .inl (fun _ => 0))) :: T5) := WD_rot hWd
  refine lv_dup hx hb dI8_126 rfl ?_
  refine lv_iconst (v := 0) hx hb dI8_127 (by decide +kernel) ?_
  refine lv_sipush (v := 1439) hx hb dI8_128 (by decide +kernel) ?_
  refine cr_iast X hWd 0 rfl (vpi (by decide +kernel)) dI8_131 (fun H28 lH28 hWd => ?_)
  have hWd : WD g _ s _ _ ((q27, .inl (g.2.2.1 10, 5, .inl (upd (fun _ => 0) 0 1439))) :: (h0, .inr (8, [.ref q1, .ref q3, .ref q5, .int 0, .ref q7, .ref q9, .ref q18, .null, .null, .int 0, .int 0, .int 0, .int 0, .null, .int 0, .null, .null, .int 0, .null, .int 0, .int 0, .int 0, .null, .null, .null, .null])) :: (q1, .inl (g.2.2.1 10, 545, .inl (fun _ => 0))) :: T5) := hWd
  refine lv_dup hx hb dI8_132 rfl ?_
  refine lv_iconst (v := 1) hx hb dI8_133 (by decide +kernel) ?_
  refine lv_bipush (v := 99) hx hb dI8_134 (by decide +kernel) ?_
  refine cr_iast X hWd 0 rfl (vpi (by decide +kernel)) dI8_136 (fun H29 lH29 hWd => ?_)
  have hWd : WD g _ s _ _ ((q27, .inl (g.2.2.1 10, 5, .inl (upd (upd (fun _ => 0) 0 1439) 1 99))) :: (h0, .inr (8, [.ref q1, .ref q3, .ref q5, .int 0, .ref q7, .ref q9, .ref q18, .null, .null, .int 0, .int 0, .int 0, .int 0, .null, .int 0, .null, .null, .int 0, .null, .int 0, .int 0, .int 0, .null, .null, .null, .null])) :: (q1, .inl (g.2.2.1 10, 545, .inl (fun _ => 0))) :: T5) := hWd
  refine lv_dup hx hb dI8_137 rfl ?_
  refine lv_iconst (v := 2) hx hb dI8_138 (by decide +kernel) ?_
  refine lv_iconst (v := 3) hx hb dI8_139 (by decide +kernel) ?_
  refine cr_iast X hWd 0 rfl (vpi (by decide +kernel)) dI8_140 (fun H30 lH30 hWd => ?_)
  have hWd : WD g _ s _ _ ((q27, .inl (g.2.2.1 10, 5, .inl (upd (upd (upd (fun _ => 0) 0 1439) 1 99) 2 3))) :: (h0, .inr (8, [.ref q1, .ref q3, .ref q5, .int 0, .ref q7, .ref q9, .ref q18, .null, .null, .int 0, .int 0, .int 0, .int 0, .null, .int 0, .null, .null, .int 0, .null, .int 0, .int 0, .int 0, .null, .null, .null, .null])) :: (q1, .inl (g.2.2.1 10, 545, .inl (fun _ => 0))) :: T5) := hWd
  refine lv_dup hx hb dI8_141 rfl ?_
  refine lv_iconst (v := 3) hx hb dI8_142 (by decide +kernel) ?_
  refine lv_sipush (v := 999) hx hb dI8_143 (by decide +kernel) ?_
  refine cr_iast X hWd 0 rfl (vpi (by decide +kernel)) dI8_146 (fun H31 lH31 hWd => ?_)
  have hWd : WD g _ s _ _ ((q27, .inl (g.2.2.1 10, 5, .inl (upd (upd (upd (upd (fun _ => 0) 0 1439) 1 99) 2 3) 3 999))) :: (h0, .inr (8, [.ref q1, .ref q3, .ref q5, .int 0, .ref q7, .ref q9, .ref q18, .null, .null, .int 0, .int 0, .int 0, .int 0, .null, .int 0, .null, .null, .int 0, .null, .int 0, .int 0, .int 0, .null, .null, .null, .null])) :: (q1, .inl (g.2.2.1 10, 545, .inl (fun _ => 0))) :: T5) := hWd
  refine lv_dup hx hb dI8_147 rfl ?_
  refine lv_iconst (v := 4) hx hb dI8_148 (by decide +kernel) ?_
  refine lv_bipush (v := 8) hx hb dI8_149 (by decide +kernel) ?_
  refine cr_iast X hWd 0 rfl (vpi (by decide +kernel)) dI8_151 (fun H32 lH32 hWd => ?_)
  have hWd : WD g _ s _ _ ((q27, .inl (g.2.2.1 10, 5, .inl (upd (upd (upd (upd (upd (fun _ => 0) 0 1439) 1 99) 2 3) 3 999) 4 8))) :: (h0, .inr (8, [.ref q1, .ref q3, .ref q5, .int 0, .ref q7, .ref q9, .ref q18, .null, .null, .int 0, .int 0, .int 0, .int 0, .null, .int 0, .null, .null, .int 0, .null, .int 0, .int 0, .int 0, .null, .null, .null, .null])) :: (q1, .inl (g.2.2.1 10, 545, .inl (fun _ => 0))) :: T5) := hWd
  refine cr_put X hWd 1 (ci := 8) (k := 7) rfl (by decide) (by decide) rfl (gdW_in (i := 920) (by decide +kernel)) rfl rfl (Nat.le_of_ble_eq_true rfl) dI8_152 (fun H33 lH33 hWd => ?_)
  have hWd : WD g _ s _ _ ((q27, .inl (g.2.2.1 10, 5, .inl (upd (upd (upd (upd (upd (fun _ => 0) 0 1439) 1 99) 2 3) 3 999) 4 8))) :: (h0, .inr (8, [.ref q1, .ref q3, .ref q5, .int 0, .ref q7, .ref q9, .ref q18, .ref q27, .null, .int 0, .int 0, .int 0, .int 0, .null, .int 0, .null, .null, .int 0, .null, .int 0, .int 0, .int 0, .null, .null, .null, .null])) :: (q1, .inl (g.2.2.1 10, 545, .inl (fun _ => 0))) :: T5) := hWd
  obtain ⟨T6, hT6⟩ : ∃ T : va_W, T = (q27, .inl (g.2.2.1 10, 5, .inl (upd (upd (upd (upd (upd (fun _ => 0) 0 1439) 1 99) 2 3) 3 999) 4 8))) :: T5 := ⟨_, rfl⟩
  have hWd : WD g _ s _ _ ((h0, .inr (8, [.ref q1, .ref q3, .ref q5, .int 0, .ref q7, .ref q9, .ref q18, .ref q27, .null, .int 0, .int 0, .int 0, .int 0, .null, .int 0, .null, .null, .int 0, .null, .int 0, .int 0, .int 0, .null, .null, .null, .null])) :: (q1, .inl (g.2.2.1 10, 545, .inl (fun _ => 0))) :: (q27, .inl (g.2.2.1 10, 5, .inl (upd (upd (upd (upd (upd (fun _ => 0) 0 1439) 1 99) 2 3) 3 999) 4 8))) :: T5) := WD_sw2 hWd
  rw [← hT6] at hWd
  refine lv_aload_n hx hb dI8_155 rfl (lv_at hl 0 rfl) ?_
  refine lv_iconst (v := 3) hx hb dI8_156 (by decide +kernel) ?_
  refine cr_newQ X hWd (t0 := 4) (cq := g.2.2.1 14) (N := 3) rfl X.2.2.2.2.2.2.2.1.2.2.1 (gdW_in (i := 908) (by decide +kernel)) (by decide +kernel) (by decide +kernel) (Nat.le_of_ble_eq_true rfl) (Nat.le_of_ble_eq_true rfl) (Nat.le_of_ble_eq_true rfl) dI8_157 (fun q34 Hq34 hWd => ?_)
  refine W.widen (k := 8) (n := 1664) (Nat.le_of_ble_eq_true rfl) (Nat.le_of_ble_eq_true rfl) ?_
  have hWd : WD g _ s _ _ ((q34, .inl (g.2.2.1 14, 3, .inr (.inr (.inr (.inr (fun _ => none)))))) :: (h0, .inr (8, [.ref q1, .ref q3, .ref q5, .int 0, .ref q7, .ref q9, .ref q18, .ref q27, .null, .int 0, .int 0, .int 0, .int 0, .null, .int 0, .null, .null, .int 0, .null, .int 0, .int 0, .int 0, .null, .null, .null, .null])) :: (q1, .inl (g.2.2.1 10, 545, .inl (fun _ => 0))) :: T6) := WD_rot hWd
  refine lv_dup hx hb dI8_160 rfl ?_
  refine lv_iconst (v := 0) hx hb dI8_161 (by decide +kernel) ?_
  refine cr_ldc X hWd 9 (by omega) rfl rfl dI8_162 ?_
  refine cr_sast X hWd 0 9 (by omega) rfl (vpi (by decide +kernel)) dI8_164 (fun H35 lH35 hWd => ?_)
  have hWd : WD g _ s _ _ ((q34, .inl (g.2.2.1 14, 3, .inr (.inr (.inr (.inr (va_up (fun _ => none) 0 (some (g.1 (110 + 9))))))))) :: (h0, .inr (8, [.ref q1, .ref q3, .ref q5, .int 0, .ref q7, .ref q9, .ref q18, .ref q27, .null, .int 0, .int 0, .int 0, .int 0, .null, .int 0, .null, .null, .int 0, .null, .int 0, .int 0, .int 0, .null, .null, .null, .null])) :: (q1, .inl (g.2.2.1 10, 545, .inl (fun _ => 0))) :: T6) := hWd
  refine lv_dup hx hb dI8_165 rfl ?_
  refine lv_iconst (v := 1) hx hb dI8_166 (by decide +kernel) ?_
  refine cr_ldc X hWd 10 (by omega) rfl rfl dI8_167 ?_
  refine cr_sast X hWd 0 10 (by omega) rfl (vpi (by decide +kernel)) dI8_169 (fun H36 lH36 hWd => ?_)
  have hWd : WD g _ s _ _ ((q34, .inl (g.2.2.1 14, 3, .inr (.inr (.inr (.inr (va_up (va_up (fun _ => none) 0 (some (g.1 (110 + 9)))) 1 (some (g.1 (110 + 10))))))))) :: (h0, .inr (8, [.ref q1, .ref q3, .ref q5, .int 0, .ref q7, .ref q9, .ref q18, .ref q27, .null, .int 0, .int 0, .int 0, .int 0, .null, .int 0, .null, .null, .int 0, .null, .int 0, .int 0, .int 0, .null, .null, .null, .null])) :: (q1, .inl (g.2.2.1 10, 545, .inl (fun _ => 0))) :: T6) := hWd
  refine lv_dup hx hb dI8_170 rfl ?_
  refine lv_iconst (v := 2) hx hb dI8_171 (by decide +kernel) ?_
  refine cr_ldc X hWd 11 (by omega) rfl rfl dI8_172 ?_
  refine cr_sast X hWd 0 11 (by omega) rfl (vpi (by decide +kernel)) dI8_174 (fun H37 lH37 hWd => ?_)
  have hWd : WD g _ s _ _ ((q34, .inl (g.2.2.1 14, 3, .inr (.inr (.inr (.inr (va_up (va_up (va_up (fun _ => none) 0 (some (g.1 (110 + 9)))) 1 (some (g.1 (110 + 10)))) 2 (some (g.1 (110 + 11))))))))) :: (h0, .inr (8, [.ref q1, .ref q3, .ref q5, .int 0, .ref q7, .ref q9, .ref q18, .ref q27, .null, .int 0, .int 0, .int 0, .int 0, .null, .int 0, .null, .null, .int 0, .null, .int 0, .int 0, .int 0, .null, .null, .null, .null])) :: (q1, .inl (g.2.2.1 10, 545, .inl (fun _ => 0))) :: T6) := hWd
  refine cr_put X hWd 1 (ci := 8) (k := 8) rfl (by decide) (by decide) rfl (gdW_in (i := 921) (by decide +kernel)) rfl rfl (Nat.le_of_ble_eq_true rfl) dI8_175 (fun H38 lH38 hWd => ?_)
  have hWd : WD g _ s _ _ ((q34, .inl (g.2.2.1 14, 3, .inr (.inr (.inr (.inr (va_up (va_up (va_up (fun _ => none) 0 (some (g.1 (110 + 9)))) 1 (some (g.1 (110 + 10)))) 2 (some (g.1 (110 + 11))))))))) :: (h0, .inr (8, [.ref q1, .ref q3, .ref q5, .int 0, .ref q7, .ref q9, .ref q18, .ref q27, .ref q34, .int 0, .int 0, .int 0, .int 0, .null, .int 0, .null, .null, .int 0, .null, .int 0, .int 0, .int 0, .null, .null, .null, .null])) :: (q1, .inl (g.2.2.1 10, 545, .inl (fun _ => 0))) :: T6) := hWd
  obtain ⟨T7, hT7⟩ : ∃ T : va_W, T = (q34, .inl (g.2.2.1 14, 3, .inr (.inr (.inr (.inr (va_up (va_up (va_up (fun _ => none) 0 (some (g.1 (110 + 9)))) 1 (some (g.1 (110 + 10)))) 2 (some (g.1 (110 + 11))))))))) :: T6 := ⟨_, rfl⟩
  have hWd : WD g _ s _ _ ((h0, .inr (8, [.ref q1, .ref q3, .ref q5, .int 0, .ref q7, .ref q9, .ref q18, .ref q27, .ref q34, .int 0, .int 0, .int 0, .int 0, .null, .int 0, .null, .null, .int 0, .null, .int 0, .int 0, .int 0, .null, .null, .null, .null])) :: (q1, .inl (g.2.2.1 10, 545, .inl (fun _ => 0))) :: (q34, .inl (g.2.2.1 14, 3, .inr (.inr (.inr (.inr (va_up (va_up (va_up (fun _ => none) 0 (some (g.1 (110 + 9)))) 1 (some (g.1 (110 + 10)))) 2 (some (g.1 (110 + 11))))))))) :: T6) := WD_sw2 hWd
  rw [← hT7] at hWd
  refine lv_aload_n hx hb dI8_178 rfl (lv_at hl 0 rfl) ?_
  refine lv_bipush (v := 60) hx hb dI8_179 (by decide +kernel) ?_
  refine cr_newI X hWd (N := 60) (by decide +kernel) (by decide +kernel) (Nat.le_of_ble_eq_true rfl) (Nat.le_of_ble_eq_true rfl) (Nat.le_of_ble_eq_true rfl) dI8_181 (fun q39 Hq39 hWd => ?_)
  refine W.widen (k := 9) (n := 1724) (Nat.le_of_ble_eq_true rfl) (Nat.le_of_ble_eq_true rfl) ?_
  have hWd : WD g _ s _ _ ((q39, .inl (g.2.2.1 10, 60, .inl (fun _ => 0))) :: (h0, .inr (8, [.ref q1, .ref q3, .ref q5, .int 0, .ref q7, .ref q9, .ref q18, .ref q27, .ref q34, .int 0, .int 0, .int 0, .int 0, .null, .int 0, .null, .null, .int 0, .null, .int 0, .int 0, .int 0, .null, .null, .null, .null])) :: (q1, .inl (g.2.2.1 10, 545, .inl (fun _ => 0))) :: T7) := WD_rot hWd
  refine cr_put X hWd 1 (ci := 8) (k := 13) rfl (by decide) (by decide) rfl (gdW_in (i := 926) (by decide +kernel)) rfl rfl (Nat.le_of_ble_eq_true rfl) dI8_183 (fun H40 lH40 hWd => ?_)
  have hWd : WD g _ s _ _ ((q39, .inl (g.2.2.1 10, 60, .inl (fun _ => 0))) :: (h0, .inr (8, [.ref q1, .ref q3, .ref q5, .int 0, .ref q7, .ref q9, .ref q18, .ref q27, .ref q34, .int 0, .int 0, .int 0, .int 0, .ref q39, .int 0, .null, .null, .int 0, .null, .int 0, .int 0, .int 0, .null, .null, .null, .null])) :: (q1, .inl (g.2.2.1 10, 545, .inl (fun _ => 0))) :: T7) := hWd
  obtain ⟨T8, hT8⟩ : ∃ T : va_W, T = (q39, .inl (g.2.2.1 10, 60, .inl (fun _ => 0))) :: T7 := ⟨_, rfl⟩
  have hWd : WD g _ s _ _ ((h0, .inr (8, [.ref q1, .ref q3, .ref q5, .int 0, .ref q7, .ref q9, .ref q18, .ref q27, .ref q34, .int 0, .int 0, .int 0, .int 0, .ref q39, .int 0, .null, .null, .int 0, .null, .int 0, .int 0, .int 0, .null, .null, .null, .null])) :: (q1, .inl (g.2.2.1 10, 545, .inl (fun _ => 0))) :: (q39, .inl (g.2.2.1 10, 60, .inl (fun _ => 0))) :: T7) := WD_sw2 hWd
  rw [← hT8] at hWd
  refine lv_aload_n hx hb dI8_186 rfl (lv_at hl 0 rfl) ?_
  refine lv_iconst (v := 4) hx hb dI8_187 (by decide +kernel) ?_
  refine cr_newI X hWd (N := 4) (by decide +kernel) (by decide +kernel) (Nat.le_of_ble_eq_true rfl) (Nat.le_of_ble_eq_true rfl) (Nat.le_of_ble_eq_true rfl) dI8_188 (fun q41 Hq41 hWd => ?_)
  refine W.widen (k := 10) (n := 1728) (Nat.le_of_ble_eq_true rfl) (Nat.le_of_ble_eq_true rfl) ?_
  have hWd : WD g _ s _ _ ((q41, .inl (g.2.2.1 10, 4, .inl (fun _ => 0))) :: (h0, .inr (8, [.ref q1, .ref q3, .ref q5, .int 0, .ref q7, .ref q9, .ref q18, .ref q27, .ref q34, .int 0, .int 0, .int 0, .int 0, .ref q39, .int 0, .null, .null, .int 0, .null, .int 0, .int 0, .int 0, .null, .null, .null, .null])) :: (q1, .inl (g.2.2.1 10, 545, .inl (fun _ => 0))) :: T8) := WD_rot hWd
  refine cr_put X hWd 1 (ci := 8) (k := 15) rfl (by decide) (by decide) rfl (gdW_in (i := 928) (by decide +kernel)) rfl rfl (Nat.le_of_ble_eq_true rfl) dI8_190 (fun H42 lH42 hWd => ?_)
  have hWd : WD g _ s _ _ ((q41, .inl (g.2.2.1 10, 4, .inl (fun _ => 0))) :: (h0, .inr (8, [.ref q1, .ref q3, .ref q5, .int 0, .ref q7, .ref q9, .ref q18, .ref q27, .ref q34, .int 0, .int 0, .int 0, .int 0, .ref q39, .int 0, .ref q41, .null, .int 0, .null, .int 0, .int 0, .int 0, .null, .null, .null, .null])) :: (q1, .inl (g.2.2.1 10, 545, .inl (fun _ => 0))) :: T8) := hWd
  obtain ⟨T9, hT9⟩ : ∃ T : va_W, T = (q41, .inl (g.2.2.1 10, 4, .inl (fun _ => 0))) :: T8 := ⟨_, rfl⟩
  have hWd : WD g _ s _ _ ((h0, .inr (8, [.ref q1, .ref q3, .ref q5, .int 0, .ref q7, .ref q9, .ref q18, .ref q27, .ref q34, .int 0, .int 0, .int 0, .int 0, .ref q39, .int 0, .ref q41, .null, .int 0, .null, .int 0, .int 0, .int 0, .null, .null, .null, .null])) :: (q1, .inl (g.2.2.1 10, 545, .inl (fun _ => 0))) :: (q41, .inl (g.2.2.1 10, 4, .inl (fun _ => 0))) :: T8) := WD_sw2 hWd
  rw [← hT9] at hWd
  refine lv_aload_n hx hb dI8_193 rfl (lv_at hl 0 rfl) ?_
  refine lv_bipush (v := 60) hx hb dI8_194 (by decide +kernel) ?_
  refine cr_newI X hWd (N := 60) (by decide +kernel) (by decide +kernel) (Nat.le_of_ble_eq_true rfl) (Nat.le_of_ble_eq_true rfl) (Nat.le_of_ble_eq_true rfl) dI8_196 (fun q43 Hq43 hWd => ?_)
  refine W.widen (k := 11) (n := 1788) (Nat.le_of_ble_eq_true rfl) (Nat.le_of_ble_eq_true rfl) ?_
  have hWd : WD g _ s _ _ ((q43, .inl (g.2.2.1 10, 60, .inl (fun _ => 0))) :: (h0, .inr (8, [.ref q1, .ref q3, .ref q5, .int 0, .ref q7, .ref q9, .ref q18, .ref q27, .ref q34, .int 0, .int 0, .int 0, .int 0, .ref q39, .int 0, .ref q41, .null, .int 0, .null, .int 0, .int 0, .int 0, .null, .null, .null, .null])) :: (q1, .inl (g.2.2.1 10, 545, .inl (fun _ => 0))) :: T9) := WD_rot hWd
  refine cr_put X hWd 1 (ci := 8) (k := 16) rfl (by decide) (by decide) rfl (gdW_in (i := 929) (by decide +kernel)) rfl rfl (Nat.le_of_ble_eq_true rfl) dI8_198 (fun H44 lH44 hWd => ?_)
  have hWd : WD g _ s _ _ ((q43, .inl (g.2.2.1 10, 60, .inl (fun _ => 0))) :: (h0, .inr (8, [.ref q1, .ref q3, .ref q5, .int 0, .ref q7, .ref q9, .ref q18, .ref q27, .ref q34, .int 0, .int 0, .int 0, .int 0, .ref q39, .int 0, .ref q41, .ref q43, .int 0, .null, .int 0, .int 0, .int 0, .null, .null, .null, .null])) :: (q1, .inl (g.2.2.1 10, 545, .inl (fun _ => 0))) :: T9) := hWd
  obtain ⟨T10, hT10⟩ : ∃ T : va_W, T = (q43, .inl (g.2.2.1 10, 60, .inl (fun _ => 0))) :: T9 := ⟨_, rfl⟩
  have hWd : WD g _ s _ _ ((h0, .inr (8, [.ref q1, .ref q3, .ref q5, .int 0, .ref q7, .ref q9, .ref q18, .ref q27, .ref q34, .int 0, .int 0, .int 0, .int 0, .ref q39, .int 0, .ref q41, .ref q43, .int 0, .null, .int 0, .int 0, .int 0, .null, .null, .null, .null])) :: (q1, .inl (g.2.2.1 10, 545, .inl (fun _ => 0))) :: (q43, .inl (g.2.2.1 10, 60, .inl (fun _ => 0))) :: T9) := WD_sw2 hWd
  rw [← hT10] at hWd
  refine lv_aload_n hx hb dI8_201 rfl (lv_at hl 0 rfl) ?_
  refine lv_bipush (v := 30) hx hb dI8_202 (by decide +kernel) ?_
  refine cr_newI X hWd (N := 30) (by decide +kernel) (by decide +kernel) (Nat.le_of_ble_eq_true rfl) (Nat.le_of_ble_eq_true rfl) (Nat.le_of_ble_eq_true rfl) dI8_204 (fun q45 Hq45 hWd => ?_)
  refine W.widen (k := 12) (n := 1818) (Nat.le_of_ble_eq_true rfl) (Nat.le_of_ble_eq_true rfl) ?_
  have hWd : WD g _ s _ _ ((q45, .inl (g.2.2.1 10, 30, .inl (fun _ => 0))) :: (h0, .inr (8, [.ref q1, .ref q3, .ref q5, .int 0, .ref q7, .ref q9, .ref q18, .ref q27, .ref q34, .int 0, .int 0, .int 0, .int 0, .ref q39, .int 0, .ref q41, .ref q43, .int 0, .null, .int 0, .int 0, .int 0, .null, .null, .null, .null])) :: (q1, .inl (g.2.2.1 10, 545, .inl (fun _ => 0))) :: T10) := WD_rot hWd
  refine cr_put X hWd 1 (ci := 8) (k := 18) rfl (by decide) (by decide) rfl (gdW_in (i := 931) (by decide +kernel)) rfl rfl (Nat.le_of_ble_eq_true rfl) dI8_206 (fun H46 lH46 hWd => ?_)
  have hWd : WD g _ s _ _ ((q45, .inl (g.2.2.1 10, 30, .inl (fun _ => 0))) :: (h0, .inr (8, [.ref q1, .ref q3, .ref q5, .int 0, .ref q7, .ref q9, .ref q18, .ref q27, .ref q34, .int 0, .int 0, .int 0, .int 0, .ref q39, .int 0, .ref q41, .ref q43, .int 0, .ref q45, .int 0, .int 0, .int 0, .null, .null, .null, .null])) :: (q1, .inl (g.2.2.1 10, 545, .inl (fun _ => 0))) :: T10) := hWd
  obtain ⟨T11, hT11⟩ : ∃ T : va_W, T = (q45, .inl (g.2.2.1 10, 30, .inl (fun _ => 0))) :: T10 := ⟨_, rfl⟩
  have hWd : WD g _ s _ _ ((h0, .inr (8, [.ref q1, .ref q3, .ref q5, .int 0, .ref q7, .ref q9, .ref q18, .ref q27, .ref q34, .int 0, .int 0, .int 0, .int 0, .ref q39, .int 0, .ref q41, .ref q43, .int 0, .ref q45, .int 0, .int 0, .int 0, .null, .null, .null, .null])) :: (q1, .inl (g.2.2.1 10, 545, .inl (fun _ => 0))) :: (q45, .inl (g.2.2.1 10, 30, .inl (fun _ => 0))) :: T10) := WD_sw2 hWd
  rw [← hT11] at hWd
  refine lv_aload_n hx hb dI8_209 rfl (lv_at hl 0 rfl) ?_
  refine lv_iconst (v := 4) hx hb dI8_210 (by decide +kernel) ?_
  refine cr_newI X hWd (N := 4) (by decide +kernel) (by decide +kernel) (Nat.le_of_ble_eq_true rfl) (Nat.le_of_ble_eq_true rfl) (Nat.le_of_ble_eq_true rfl) dI8_211 (fun q47 Hq47 hWd => ?_)
  refine W.widen (k := 13) (n := 1822) (Nat.le_of_ble_eq_true rfl) (Nat.le_of_ble_eq_true rfl) ?_
  have hWd : WD g _ s _ _ ((q47, .inl (g.2.2.1 10, 4, .inl (fun _ => 0))) :: (h0, .inr (8, [.ref q1, .ref q3, .ref q5, .int 0, .ref q7, .ref q9, .ref q18, .ref q27, .ref q34, .int 0, .int 0, .int 0, .int 0, .ref q39, .int 0, .ref q41, .ref q43, .int 0, .ref q45, .int 0, .int 0, .int 0, .null, .null, .null, .null])) :: (q1, .inl (g.2.2.1 10, 545, .inl (fun _ => 0))) :: T11) := WD_rot hWd
  refine cr_put X hWd 1 (ci := 8) (k := 22) rfl (by decide) (by decide) rfl (gdW_in (i := 935) (by decide +kernel)) rfl rfl (Nat.le_of_ble_eq_true rfl) dI8_213 (fun H48 lH48 hWd => ?_)
  have hWd : WD g _ s _ _ ((q47, .inl (g.2.2.1 10, 4, .inl (fun _ => 0))) :: (h0, .inr (8, [.ref q1, .ref q3, .ref q5, .int 0, .ref q7, .ref q9, .ref q18, .ref q27, .ref q34, .int 0, .int 0, .int 0, .int 0, .ref q39, .int 0, .ref q41, .ref q43, .int 0, .ref q45, .int 0, .int 0, .int 0, .ref q47, .null, .null, .null])) :: (q1, .inl (g.2.2.1 10, 545, .inl (fun _ => 0))) :: T11) := hWd
  obtain ⟨T12, hT12⟩ : ∃ T : va_W, T = (q47, .inl (g.2.2.1 10, 4, .inl (fun _ => 0))) :: T11 := ⟨_, rfl⟩
  have hWd : WD g _ s _ _ ((h0, .inr (8, [.ref q1, .ref q3, .ref q5, .int 0, .ref q7, .ref q9, .ref q18, .ref q27, .ref q34, .int 0, .int 0, .int 0, .int 0, .ref q39, .int 0, .ref q41, .ref q43, .int 0, .ref q45, .int 0, .int 0, .int 0, .ref q47, .null, .null, .null])) :: (q1, .inl (g.2.2.1 10, 545, .inl (fun _ => 0))) :: (q47, .inl (g.2.2.1 10, 4, .inl (fun _ => 0))) :: T11) := WD_sw2 hWd
  rw [← hT12] at hWd
  refine lv_aload_n hx hb dI8_216 rfl (lv_at hl 0 rfl) ?_
  refine lv_iconst (v := 4) hx hb dI8_217 (by decide +kernel) ?_
  refine cr_newI X hWd (N := 4) (by decide +kernel) (by decide +kernel) (Nat.le_of_ble_eq_true rfl) (Nat.le_of_ble_eq_true rfl) (Nat.le_of_ble_eq_true rfl) dI8_218 (fun q49 Hq49 hWd => ?_)
  refine W.widen (k := 14) (n := 1826) (Nat.le_of_ble_eq_true rfl) (Nat.le_of_ble_eq_true rfl) ?_
  have hWd : WD g _ s _ _ ((q49, .inl (g.2.2.1 10, 4, .inl (fun _ => 0))) :: (h0, .inr (8, [.ref q1, .ref q3, .ref q5, .int 0, .ref q7, .ref q9, .ref q18, .ref q27, .ref q34, .int 0, .int 0, .int 0, .int 0, .ref q39, .int 0, .ref q41, .ref q43, .int 0, .ref q45, .int 0, .int 0, .int 0, .ref q47, .null, .null, .null])) :: (q1, .inl (g.2.2.1 10, 545, .inl (fun _ => 0))) :: T12) := WD_rot hWd
  refine cr_put X hWd 1 (ci := 8) (k := 23) rfl (by decide) (by decide) rfl (gdW_in (i := 936) (by decide +kernel)) rfl rfl (Nat.le_of_ble_eq_true rfl) dI8_220 (fun H50 lH50 hWd => ?_)
  have hWd : WD g _ s _ _ ((q49, .inl (g.2.2.1 10, 4, .inl (fun _ => 0))) :: (h0, .inr (8, [.ref q1, .ref q3, .ref q5, .int 0, .ref q7, .ref q9, .ref q18, .ref q27, .ref q34, .int 0, .int 0, .int 0, .int 0, .ref q39, .int 0, .ref q41, .ref q43, .int 0, .ref q45, .int 0, .int 0, .int 0, .ref q47, .ref q49, .null, .null])) :: (q1, .inl (g.2.2.1 10, 545, .inl (fun _ => 0))) :: T12) := hWd
  obtain ⟨T13, hT13⟩ : ∃ T : va_W, T = (q49, .inl (g.2.2.1 10, 4, .inl (fun _ => 0))) :: T12 := ⟨_, rfl⟩
  have hWd : WD g _ s _ _ ((h0, .inr (8, [.ref q1, .ref q3, .ref q5, .int 0, .ref q7, .ref q9, .ref q18, .ref q27, .ref q34, .int 0, .int 0, .int 0, .int 0, .ref q39, .int 0, .ref q41, .ref q43, .int 0, .ref q45, .int 0, .int 0, .int 0, .ref q47, .ref q49, .null, .null])) :: (q1, .inl (g.2.2.1 10, 545, .inl (fun _ => 0))) :: (q49, .inl (g.2.2.1 10, 4, .inl (fun _ => 0))) :: T12) := WD_sw2 hWd
  rw [← hT13] at hWd
  refine lv_aload_n hx hb dI8_223 rfl (lv_at hl 0 rfl) ?_
  refine lv_bipush (v := 96) hx hb dI8_224 (by decide +kernel) ?_
  refine cr_newI X hWd (N := 96) (by decide +kernel) (by decide +kernel) (Nat.le_of_ble_eq_true rfl) (Nat.le_of_ble_eq_true rfl) (Nat.le_of_ble_eq_true rfl) dI8_226 (fun q51 Hq51 hWd => ?_)
  refine W.widen (k := 15) (n := 1922) (Nat.le_of_ble_eq_true rfl) (Nat.le_of_ble_eq_true rfl) ?_
  have hWd : WD g _ s _ _ ((q51, .inl (g.2.2.1 10, 96, .inl (fun _ => 0))) :: (h0, .inr (8, [.ref q1, .ref q3, .ref q5, .int 0, .ref q7, .ref q9, .ref q18, .ref q27, .ref q34, .int 0, .int 0, .int 0, .int 0, .ref q39, .int 0, .ref q41, .ref q43, .int 0, .ref q45, .int 0, .int 0, .int 0, .ref q47, .ref q49, .null, .null])) :: (q1, .inl (g.2.2.1 10, 545, .inl (fun _ => 0))) :: T13) := WD_rot hWd
  refine cr_put X hWd 1 (ci := 8) (k := 24) rfl (by decide) (by decide) rfl (gdW_in (i := 937) (by decide +kernel)) rfl rfl (Nat.le_of_ble_eq_true rfl) dI8_228 (fun H52 lH52 hWd => ?_)
  have hWd : WD g _ s _ _ ((q51, .inl (g.2.2.1 10, 96, .inl (fun _ => 0))) :: (h0, .inr (8, [.ref q1, .ref q3, .ref q5, .int 0, .ref q7, .ref q9, .ref q18, .ref q27, .ref q34, .int 0, .int 0, .int 0, .int 0, .ref q39, .int 0, .ref q41, .ref q43, .int 0, .ref q45, .int 0, .int 0, .int 0, .ref q47, .ref q49, .ref q51, .null])) :: (q1, .inl (g.2.2.1 10, 545, .inl (fun _ => 0))) :: T13) := hWd
  obtain ⟨T14, hT14⟩ : ∃ T : va_W, T = (q51, .inl (g.2.2.1 10, 96, .inl (fun _ => 0))) :: T13 := ⟨_, rfl⟩
  have hWd : WD g _ s _ _ ((h0, .inr (8, [.ref q1, .ref q3, .ref q5, .int 0, .ref q7, .ref q9, .ref q18, .ref q27, .ref q34, .int 0, .int 0, .int 0, .int 0, .ref q39, .int 0, .ref q41, .ref q43, .int 0, .ref q45, .int 0, .int 0, .int 0, .ref q47, .ref q49, .ref q51, .null])) :: (q1, .inl (g.2.2.1 10, 545, .inl (fun _ => 0))) :: (q51, .inl (g.2.2.1 10, 96, .inl (fun _ => 0))) :: T13) := WD_sw2 hWd
  rw [← hT14] at hWd
  refine lv_aload_n hx hb dI8_231 rfl (lv_at hl 0 rfl) ?_
  refine lv_bipush (v := 24) hx hb dI8_232 (by decide +kernel) ?_
  refine cr_newI X hWd (N := 24) (by decide +kernel) (by decide +kernel) (Nat.le_of_ble_eq_true rfl) (Nat.le_of_ble_eq_true rfl) (Nat.le_of_ble_eq_true rfl) dI8_234 (fun q53 Hq53 hWd => ?_)
  refine W.widen (k := 16) (n := 1946) (Nat.le_of_ble_eq_true rfl) (Nat.le_of_ble_eq_true rfl) ?_
  have hWd : WD g _ s _ _ ((q53, .inl (g.2.2.1 10, 24, .inl (fun _ => 0))) :: (h0, .inr (8, [.ref q1, .ref q3, .ref q5, .int 0, .ref q7, .ref q9, .ref q18, .ref q27, .ref q34, .int 0, .int 0, .int 0, .int 0, .ref q39, .int 0, .ref q41, .ref q43, .int 0, .ref q45, .int 0, .int 0, .int 0, .ref q47, .ref q49, .ref q51, .null])) :: (q1, .inl (g.2.2.1 10, 545, .inl (fun _ => 0))) :: T14) := WD_rot hWd
  refine cr_put X hWd 1 (ci := 8) (k := 25) rfl (by decide) (by decide) rfl (gdW_in (i := 938) (by decide +kernel)) rfl rfl (Nat.le_of_ble_eq_true rfl) dI8_236 (fun H54 lH54 hWd => ?_)
  have hWd : WD g _ s _ _ ((q53, .inl (g.2.2.1 10, 24, .inl (fun _ => 0))) :: (h0, .inr (8, [.ref q1, .ref q3, .ref q5, .int 0, .ref q7, .ref q9, .ref q18, .ref q27, .ref q34, .int 0, .int 0, .int 0, .int 0, .ref q39, .int 0, .ref q41, .ref q43, .int 0, .ref q45, .int 0, .int 0, .int 0, .ref q47, .ref q49, .ref q51, .ref q53])) :: (q1, .inl (g.2.2.1 10, 545, .inl (fun _ => 0))) :: T14) := hWd
  obtain ⟨T15, hT15⟩ : ∃ T : va_W, T = (q53, .inl (g.2.2.1 10, 24, .inl (fun _ => 0))) :: T14 := ⟨_, rfl⟩
  have hWd : WD g _ s _ _ ((h0, .inr (8, [.ref q1, .ref q3, .ref q5, .int 0, .ref q7, .ref q9, .ref q18, .ref q27, .ref q34, .int 0, .int 0, .int 0, .int 0, .ref q39, .int 0, .ref q41, .ref q43, .int 0, .ref q45, .int 0, .int 0, .int 0, .ref q47, .ref q49, .ref q51, .ref q53])) :: (q1, .inl (g.2.2.1 10, 545, .inl (fun _ => 0))) :: (q53, .inl (g.2.2.1 10, 24, .inl (fun _ => 0))) :: T14) := WD_sw2 hWd
  rw [← hT15] at hWd
  refine lv_aload_n hx hb dI8_239 rfl (lv_at hl 0 rfl) ?_
  refine cr_get X hWd 0 (ci := 8) (k := 0) rfl (by decide) (by decide) (gdW_in (i := 913) (by decide +kernel)) rfl dI8_240 ?_
  refine lv_iconst (v := 3) hx hb dI8_243 (by decide +kernel) ?_
  refine lv_iconst (v := 1) hx hb dI8_244 (by decide +kernel) ?_
  refine cr_iast X hWd 1 rfl (vpi (by decide +kernel)) dI8_245 (fun H55 lH55 hWd => ?_)
  have hWd : WD g _ s _ _ ((h0, .inr (8, [.ref q1, .ref q3, .ref q5, .int 0, .ref q7, .ref q9, .ref q18, .ref q27, .ref q34, .int 0, .int 0, .int 0, .int 0, .ref q39, .int 0, .ref q41, .ref q43, .int 0, .ref q45, .int 0, .int 0, .int 0, .ref q47, .ref q49, .ref q51, .ref q53])) :: (q1, .inl (g.2.2.1 10, 545, .inl (upd (fun _ => 0) 3 1))) :: T15) := hWd
  refine lv_aload_n hx hb dI8_246 rfl (lv_at hl 0 rfl) ?_
  refine cr_get X hWd 0 (ci := 8) (k := 0) rfl (by decide) (by decide) (gdW_in (i := 913) (by decide +kernel)) rfl dI8_247 ?_
  refine lv_iconst (v := 4) hx hb dI8_250 (by decide +kernel) ?_
  refine lv_sipush (v := 900) hx hb dI8_251 (by decide +kernel) ?_
  refine cr_iast X hWd 1 rfl (vpi (by decide +kernel)) dI8_254 (fun H56 lH56 hWd => ?_)
  have hWd : WD g _ s _ _ ((h0, .inr (8, [.ref q1, .ref q3, .ref q5, .int 0, .ref q7, .ref q9, .ref q18, .ref q27, .ref q34, .int 0, .int 0, .int 0, .int 0, .ref q39, .int 0, .ref q41, .ref q43, .int 0, .ref q45, .int 0, .int 0, .int 0, .ref q47, .ref q49, .ref q51, .ref q53])) :: (q1, .inl (g.2.2.1 10, 545, .inl (upd (upd (fun _ => 0) 3 1) 4 900))) :: T15) := hWd
  refine lv_aload_n hx hb dI8_255 rfl (lv_at hl 0 rfl) ?_
  refine cr_get X hWd 0 (ci := 8) (k := 0) rfl (by decide) (by decide) (gdW_in (i := 913) (by decide +kernel)) rfl dI8_256 ?_
  refine lv_iconst (v := 5) hx hb dI8_259 (by decide +kernel) ?_
  refine lv_iconst (v := 5) hx hb dI8_260 (by decide +kernel) ?_
  refine cr_iast X hWd 1 rfl (vpi (by decide +kernel)) dI8_261 (fun H57 lH57 hWd => ?_)
  have hWd : WD g _ s _ _ ((h0, .inr (8, [.ref q1, .ref q3, .ref q5, .int 0, .ref q7, .ref q9, .ref q18, .ref q27, .ref q34, .int 0, .int 0, .int 0, .int 0, .ref q39, .int 0, .ref q41, .ref q43, .int 0, .ref q45, .int 0, .int 0, .int 0, .ref q47, .ref q49, .ref q51, .ref q53])) :: (q1, .inl (g.2.2.1 10, 545, .inl (upd (upd (upd (fun _ => 0) 3 1) 4 900) 5 5))) :: T15) := hWd
  refine lv_aload_n hx hb dI8_262 rfl (lv_at hl 0 rfl) ?_
  refine cr_get X hWd 0 (ci := 8) (k := 0) rfl (by decide) (by decide) (gdW_in (i := 913) (by decide +kernel)) rfl dI8_263 ?_
  refine lv_bipush (v := 7) hx hb dI8_266 (by decide +kernel) ?_
  refine lv_bipush (v := 60) hx hb dI8_268 (by decide +kernel) ?_
  refine cr_iast X hWd 1 rfl (vpi (by decide +kernel)) dI8_270 (fun H58 lH58 hWd => ?_)
  have hWd : WD g _ s _ _ ((h0, .inr (8, [.ref q1, .ref q3, .ref q5, .int 0, .ref q7, .ref q9, .ref q18, .ref q27, .ref q34, .int 0, .int 0, .int 0, .int 0, .ref q39, .int 0, .ref q41, .ref q43, .int 0, .ref q45, .int 0, .int 0, .int 0, .ref q47, .ref q49, .ref q51, .ref q53])) :: (q1, .inl (g.2.2.1 10, 545, .inl (upd (upd (upd (upd (fun _ => 0) 3 1) 4 900) 5 5) 7 60))) :: T15) := hWd
  refine lv_aload_n hx hb dI8_271 rfl (lv_at hl 0 rfl) ?_
  refine cr_get X hWd 0 (ci := 8) (k := 0) rfl (by decide) (by decide) (gdW_in (i := 913) (by decide +kernel)) rfl dI8_272 ?_
  refine lv_bipush (v := 8) hx hb dI8_275 (by decide +kernel) ?_
  refine lv_iconst (v := 4) hx hb dI8_277 (by decide +kernel) ?_
  refine cr_iast X hWd 1 rfl (vpi (by decide +kernel)) dI8_278 (fun H59 lH59 hWd => ?_)
  have hWd : WD g _ s _ _ ((h0, .inr (8, [.ref q1, .ref q3, .ref q5, .int 0, .ref q7, .ref q9, .ref q18, .ref q27, .ref q34, .int 0, .int 0, .int 0, .int 0, .ref q39, .int 0, .ref q41, .ref q43, .int 0, .ref q45, .int 0, .int 0, .int 0, .ref q47, .ref q49, .ref q51, .ref q53])) :: (q1, .inl (g.2.2.1 10, 545, .inl (upd (upd (upd (upd (upd (fun _ => 0) 3 1) 4 900) 5 5) 7 60) 8 4))) :: T15) := hWd
  rw [hT15, hT14, hT13, hT12, hT11, hT10, hT9, hT8, hT7, hT6, hT5, hT4, hT3, hT2, hT1, hT0] at hWd
  have hWd : WD g _ s _ _ (wModel g (fun o => if o < 1 then h0 else if o < 2 then q1 else if o < 3 then q3 else if o < 4 then q5 else if o < 5 then q7 else if o < 6 then q9 else if o < 7 then q18 else if o < 8 then q27 else if o < 9 then q34 else if o < 10 then q39 else if o < 11 then q41 else if o < 12 then q43 else if o < 13 then q45 else if o < 14 then q47 else if o < 15 then q49 else if o < 16 then q51 else q53)) := hWd
  exact W.vret hx hb hr (fun t ht hW => ⟨⟨_, rfl, rfl, by rw [ht]; exact hWd.1, hWd.2.1⟩, hWd.2.2.F ht⟩) hWd.2.2.2.2 dI8_279
