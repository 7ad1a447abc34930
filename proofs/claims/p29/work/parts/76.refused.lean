/-! ===== what is refused changes nothing ===== -/
theorem p_cx {l : Launch} {y : MethodName} {w0 : Cond} {fr lo mc ms : Nat} {G : k_G} {I : p_Im q_Mem} {mm : q_Mem} {r0 v : Int32} {As : List Value} {nm : Int32 → String} {sp : Int32 × q_Mem} (h : sp = (0, up2 mm 19 0 v)) (hv : ¬ v = 0) (he : cl_E (nm v) = r0) (hM : p_Ci l y w0 fr lo mc ms G I mm As (fun v u => v = (cl nm sp mm).1 ∧ u = (cl nm sp mm).2) (fun _ => False)) : p_Ci l y w0 fr lo mc ms G I mm As (fun v u => v = r0 ∧ u = mm) (fun _ => False) :=
  p_cv ((cl_th h hv).trans (by rw [he])) hM
theorem ce1 : cl_E (k_n3 1) = -2100000001 := by decide +kernel
theorem ce2 : cl_E (k_n3 2) = -2100000002 := by decide +kernel
theorem ce3 : cl_E (k_n3 3) = -2100000003 := by decide +kernel
theorem cf1 : cl_E (k_n2 1) = -2100000001 := by decide +kernel
theorem cf2 : cl_E (k_n2 2) = -2100000003 := by decide +kernel
section
variable {mm : q_Mem} {f x y n k d q z c : Int32}
theorem no_wy (h : x = -1) : ¬ sp_wy mm x := fun q => by rw [h] at q; exact absurd q.1 (by decide)
theorem no_ww : ¬ sp_wy mm (mm 1 0) := fun q => by
  have h := q.2
  rw [Int32.lt_iff_toInt_lt] at h
  omega
theorem r_add1 (h : ¬ sp_may f x y n) : sp_add mm f x y n k = (0, up2 mm 19 0 1) := if_neg h
theorem r_add2 (h : sp_may f x y n) (h2 : ¬ (sp_len n ∧ (0 ≤ k ∧ k ≤ 3))) : sp_add mm f x y n k = (0, up2 mm 19 0 2) := (if_pos h).trans (if_neg h2)
theorem r_edit1 (h : ¬ (sp_ed x ∧ sp_wy mm y)) : sp_edit mm x y k d = (0, up2 mm 19 0 1) := if_neg h
theorem r_edit2 (h : sp_ed x ∧ sp_wy mm y) (h2 : ¬ ((0 ≤ k ∧ k ≤ 3) ∧ (0 ≤ d ∧ d ≤ 2))) : sp_edit mm x y k d = (0, up2 mm 19 0 2) := (if_pos h).trans ((if_neg h2).trans (by rw [up2_twice]))
theorem r_judge1 {ref : Prop} [Decidable ref] (h : ¬ (sp_ed x ∧ sp_wy mm y)) : sp_judge mm x y ref = (0, up2 mm 19 0 1) := if_neg h
theorem r_rev1 (h : ¬ (sp_ed x ∧ sp_wy mm y)) : sp_rev mm x y = (0, up2 mm 19 0 1) := if_neg h
theorem r_guard1 (h : ¬ sp_wy mm x) : sp_guard mm x y = (0, up2 mm 19 0 1) := if_neg h
theorem r_guard2 (h : sp_wy mm x) (h2 : ¬ (0 ≤ y ∧ y ≤ 100)) : sp_guard mm x y = (0, up2 mm 19 0 2) := (if_pos h).trans (if_neg h2)
theorem r_trust1 (h : ¬ sp_ed x) : sp_trust mm x = (0, up2 mm 19 0 1) := if_neg h
theorem r_of1 {j : Nat} (h : ¬ sp_wy mm x) : sp_ofway j mm x = (0, up2 mm 19 0 1) := if_neg h
theorem r_draw1 (h : ¬ sp_tl z x y) : sp_draw mm z x y = (0, up2 mm 19 0 1) := if_neg h
theorem r_ptr1 (h : ¬ sp_tl z x y) : sp_ptr mm z x y = (0, up2 mm 19 0 1) := if_neg h
theorem r_anew1 (h : ¬ sp_tl z x y) : sp_anew mm z x y = (0, up2 mm 19 0 1) := if_neg h
theorem r_isst1 (h : ¬ sp_tl z x y) : sp_isst mm z x y = (0, up2 mm 19 0 1) := if_neg h
theorem r_stl1 (h : ¬ sp_z4 z) : sp_stl mm z = (0, up2 mm 19 0 1) := if_neg h
theorem r_drive1 (h : ¬ (sp_car c ∧ sp_cr x y)) : sp_drive mm c x y = (0, up2 mm 19 0 1) := if_neg h
theorem r_see1 (h : ¬ (sp_car c ∧ sp_wy mm x)) : sp_see mm c x d q = (0, up2 mm 19 0 1) := if_neg h
theorem r_see2 (h : sp_car c ∧ sp_wy mm x) (h2 : ¬ sp_rng d q) : sp_see mm c x d q = (0, up2 mm 19 0 2) := (if_pos h).trans (if_neg h2)
theorem r_sgt1 (h : ¬ sp_wy mm x) : sp_sgt mm x = (0, up2 mm 19 0 1) := if_neg h
theorem r_dear1 (h : ¬ sp_wy mm x) : sp_dear mm x = (0, up2 mm 19 0 1) := if_neg h
theorem r_tar1 (h : ¬ sp_car x) : sp_tar mm x = (0, up2 mm 19 0 1) := if_neg h
theorem r_snd1 (h : ¬ sp_car x) : sp_snd mm x = (0, up2 mm 19 0 1) := if_neg h
end
theorem dL_refused_0 : decode cL_refused 0 = .ok (.aload_n 0, 1) := by decide +kernel
theorem dL_refused_1 : decode cL_refused 1 = .ok (.invokestatic 151, 3) := by decide +kernel
theorem dL_refused_4 : decode cL_refused 4 = .ok (.lstore_n 1, 1) := by decide +kernel
theorem dL_refused_5 : decode cL_refused 5 = .ok (.aload_n 0, 1) := by decide +kernel
theorem dL_refused_6 : decode cL_refused 6 = .ok (.iconst 0, 1) := by decide +kernel
theorem dL_refused_7 : decode cL_refused 7 = .ok (.iconst (-1), 1) := by decide +kernel
theorem dL_refused_8 : decode cL_refused 8 = .ok (.sipush 264, 3) := by decide +kernel
theorem dL_refused_11 : decode cL_refused 11 = .ok (.sipush 658, 3) := by decide +kernel
theorem dL_refused_14 : decode cL_refused 14 = .ok (.invokestatic 131, 3) := by decide +kernel
theorem dL_refused_17 : decode cL_refused 17 = .ok (.ldc 17, 2) := by decide +kernel
theorem dL_refused_19 : decode cL_refused 19 = .ok (.if_icmp .ne 188, 3) := by decide +kernel
theorem dL_refused_22 : decode cL_refused 22 = .ok (.aload_n 0, 1) := by decide +kernel
theorem dL_refused_23 : decode cL_refused 23 = .ok (.iconst 0, 1) := by decide +kernel
theorem dL_refused_24 : decode cL_refused 24 = .ok (.iconst 0, 1) := by decide +kernel
theorem dL_refused_25 : decode cL_refused 25 = .ok (.sipush 232, 3) := by decide +kernel
theorem dL_refused_28 : decode cL_refused 28 = .ok (.sipush 647, 3) := by decide +kernel
theorem dL_refused_31 : decode cL_refused 31 = .ok (.invokestatic 131, 3) := by decide +kernel
theorem dL_refused_34 : decode cL_refused 34 = .ok (.ldc 17, 2) := by decide +kernel
theorem dL_refused_36 : decode cL_refused 36 = .ok (.if_icmp .ne 171, 3) := by decide +kernel
theorem dL_refused_39 : decode cL_refused 39 = .ok (.aload_n 0, 1) := by decide +kernel
theorem dL_refused_40 : decode cL_refused 40 = .ok (.iconst 0, 1) := by decide +kernel
theorem dL_refused_41 : decode cL_refused 41 = .ok (.iconst 0, 1) := by decide +kernel
theorem dL_refused_42 : decode cL_refused 42 = .ok (.sipush 264, 3) := by decide +kernel
theorem dL_refused_45 : decode cL_refused 45 = .ok (.sipush 370, 3) := by decide +kernel
theorem dL_refused_48 : decode cL_refused 48 = .ok (.invokestatic 131, 3) := by decide +kernel
theorem dL_refused_51 : decode cL_refused 51 = .ok (.ldc 20, 2) := by decide +kernel
theorem dL_refused_53 : decode cL_refused 53 = .ok (.if_icmp .ne 154, 3) := by decide +kernel
theorem dL_refused_56 : decode cL_refused 56 = .ok (.aload_n 0, 1) := by decide +kernel
theorem dL_refused_57 : decode cL_refused 57 = .ok (.iconst 0, 1) := by decide +kernel
theorem dL_refused_58 : decode cL_refused 58 = .ok (.iconst 0, 1) := by decide +kernel
theorem dL_refused_59 : decode cL_refused 59 = .ok (.sipush 264, 3) := by decide +kernel
theorem dL_refused_62 : decode cL_refused 62 = .ok (.sipush 663, 3) := by decide +kernel
theorem dL_refused_65 : decode cL_refused 65 = .ok (.invokestatic 131, 3) := by decide +kernel
theorem dL_refused_68 : decode cL_refused 68 = .ok (.ldc 20, 2) := by decide +kernel
theorem dL_refused_70 : decode cL_refused 70 = .ok (.if_icmp .ne 137, 3) := by decide +kernel
theorem dL_refused_73 : decode cL_refused 73 = .ok (.aload_n 0, 1) := by decide +kernel
theorem dL_refused_74 : decode cL_refused 74 = .ok (.iconst 1, 1) := by decide +kernel
theorem dL_refused_75 : decode cL_refused 75 = .ok (.iconst (-1), 1) := by decide +kernel
theorem dL_refused_76 : decode cL_refused 76 = .ok (.iconst 0, 1) := by decide +kernel
theorem dL_refused_77 : decode cL_refused 77 = .ok (.iconst 0, 1) := by decide +kernel
theorem dL_refused_78 : decode cL_refused 78 = .ok (.invokestatic 131, 3) := by decide +kernel
theorem dL_refused_81 : decode cL_refused 81 = .ok (.ldc 17, 2) := by decide +kernel
theorem dL_refused_83 : decode cL_refused 83 = .ok (.if_icmp .ne 124, 3) := by decide +kernel
theorem dL_refused_86 : decode cL_refused 86 = .ok (.aload_n 0, 1) := by decide +kernel
theorem dL_refused_87 : decode cL_refused 87 = .ok (.iconst 1, 1) := by decide +kernel
theorem dL_refused_88 : decode cL_refused 88 = .ok (.iconst 0, 1) := by decide +kernel
theorem dL_refused_89 : decode cL_refused 89 = .ok (.aload_n 0, 1) := by decide +kernel
theorem dL_refused_90 : decode cL_refused 90 = .ok (.invokevirtual 108, 3) := by decide +kernel
theorem dL_refused_93 : decode cL_refused 93 = .ok (.iconst 0, 1) := by decide +kernel
theorem dL_refused_94 : decode cL_refused 94 = .ok (.invokestatic 131, 3) := by decide +kernel
theorem dL_refused_97 : decode cL_refused 97 = .ok (.ldc 17, 2) := by decide +kernel
theorem dL_refused_99 : decode cL_refused 99 = .ok (.if_icmp .ne 108, 3) := by decide +kernel
theorem dL_refused_102 : decode cL_refused 102 = .ok (.aload_n 0, 1) := by decide +kernel
theorem dL_refused_103 : decode cL_refused 103 = .ok (.iconst 2, 1) := by decide +kernel
theorem dL_refused_104 : decode cL_refused 104 = .ok (.bipush 6, 2) := by decide +kernel
theorem dL_refused_106 : decode cL_refused 106 = .ok (.iconst 0, 1) := by decide +kernel
theorem dL_refused_107 : decode cL_refused 107 = .ok (.iconst 0, 1) := by decide +kernel
theorem dL_refused_108 : decode cL_refused 108 = .ok (.invokestatic 131, 3) := by decide +kernel
theorem dL_refused_111 : decode cL_refused 111 = .ok (.ldc 17, 2) := by decide +kernel
theorem dL_refused_113 : decode cL_refused 113 = .ok (.if_icmp .ne 94, 3) := by decide +kernel
theorem dL_refused_116 : decode cL_refused 116 = .ok (.aload_n 0, 1) := by decide +kernel
theorem dL_refused_117 : decode cL_refused 117 = .ok (.iconst 2, 1) := by decide +kernel
theorem dL_refused_118 : decode cL_refused 118 = .ok (.iconst 0, 1) := by decide +kernel
theorem dL_refused_119 : decode cL_refused 119 = .ok (.iconst (-1), 1) := by decide +kernel
theorem dL_refused_120 : decode cL_refused 120 = .ok (.iconst 0, 1) := by decide +kernel
theorem dL_refused_121 : decode cL_refused 121 = .ok (.invokestatic 131, 3) := by decide +kernel
theorem dL_refused_124 : decode cL_refused 124 = .ok (.ldc 17, 2) := by decide +kernel
theorem dL_refused_126 : decode cL_refused 126 = .ok (.if_icmp .ne 81, 3) := by decide +kernel
theorem dL_refused_129 : decode cL_refused 129 = .ok (.aload_n 0, 1) := by decide +kernel
theorem dL_refused_130 : decode cL_refused 130 = .ok (.iconst 3, 1) := by decide +kernel
theorem dL_refused_131 : decode cL_refused 131 = .ok (.iconst (-1), 1) := by decide +kernel
theorem dL_refused_132 : decode cL_refused 132 = .ok (.iconst 0, 1) := by decide +kernel
theorem dL_refused_133 : decode cL_refused 133 = .ok (.iconst 0, 1) := by decide +kernel
theorem dL_refused_134 : decode cL_refused 134 = .ok (.invokestatic 131, 3) := by decide +kernel
theorem dL_refused_137 : decode cL_refused 137 = .ok (.ldc 17, 2) := by decide +kernel
theorem dL_refused_139 : decode cL_refused 139 = .ok (.if_icmp .ne 68, 3) := by decide +kernel
theorem dL_refused_142 : decode cL_refused 142 = .ok (.aload_n 0, 1) := by decide +kernel
theorem dL_refused_143 : decode cL_refused 143 = .ok (.iconst 3, 1) := by decide +kernel
theorem dL_refused_144 : decode cL_refused 144 = .ok (.iconst 0, 1) := by decide +kernel
theorem dL_refused_145 : decode cL_refused 145 = .ok (.aload_n 0, 1) := by decide +kernel
theorem dL_refused_146 : decode cL_refused 146 = .ok (.invokevirtual 108, 3) := by decide +kernel
theorem dL_refused_149 : decode cL_refused 149 = .ok (.iconst 0, 1) := by decide +kernel
theorem dL_refused_150 : decode cL_refused 150 = .ok (.invokestatic 131, 3) := by decide +kernel
theorem dL_refused_153 : decode cL_refused 153 = .ok (.ldc 17, 2) := by decide +kernel
theorem dL_refused_155 : decode cL_refused 155 = .ok (.if_icmp .ne 52, 3) := by decide +kernel
theorem dL_refused_158 : decode cL_refused 158 = .ok (.aload_n 0, 1) := by decide +kernel
theorem dL_refused_159 : decode cL_refused 159 = .ok (.iconst 4, 1) := by decide +kernel
theorem dL_refused_160 : decode cL_refused 160 = .ok (.iconst (-1), 1) := by decide +kernel
theorem dL_refused_161 : decode cL_refused 161 = .ok (.bipush 101, 2) := by decide +kernel
theorem dL_refused_163 : decode cL_refused 163 = .ok (.iconst 0, 1) := by decide +kernel
theorem dL_refused_164 : decode cL_refused 164 = .ok (.invokestatic 131, 3) := by decide +kernel
theorem dL_refused_167 : decode cL_refused 167 = .ok (.ldc 17, 2) := by decide +kernel
theorem dL_refused_169 : decode cL_refused 169 = .ok (.if_icmp .ne 38, 3) := by decide +kernel
theorem dL_refused_172 : decode cL_refused 172 = .ok (.aload_n 0, 1) := by decide +kernel
theorem dL_refused_173 : decode cL_refused 173 = .ok (.iconst 5, 1) := by decide +kernel
theorem dL_refused_174 : decode cL_refused 174 = .ok (.bipush 6, 2) := by decide +kernel
theorem dL_refused_176 : decode cL_refused 176 = .ok (.iconst 0, 1) := by decide +kernel
theorem dL_refused_177 : decode cL_refused 177 = .ok (.iconst 0, 1) := by decide +kernel
theorem dL_refused_178 : decode cL_refused 178 = .ok (.invokestatic 131, 3) := by decide +kernel
theorem dL_refused_181 : decode cL_refused 181 = .ok (.ldc 17, 2) := by decide +kernel
theorem dL_refused_183 : decode cL_refused 183 = .ok (.if_icmp .ne 24, 3) := by decide +kernel
theorem dL_refused_186 : decode cL_refused 186 = .ok (.aload_n 0, 1) := by decide +kernel
theorem dL_refused_187 : decode cL_refused 187 = .ok (.bipush 9, 2) := by decide +kernel
theorem dL_refused_189 : decode cL_refused 189 = .ok (.aload_n 0, 1) := by decide +kernel
theorem dL_refused_190 : decode cL_refused 190 = .ok (.invokevirtual 108, 3) := by decide +kernel
theorem dL_refused_193 : decode cL_refused 193 = .ok (.iconst 0, 1) := by decide +kernel
theorem dL_refused_194 : decode cL_refused 194 = .ok (.iconst 0, 1) := by decide +kernel
theorem dL_refused_195 : decode cL_refused 195 = .ok (.invokestatic 131, 3) := by decide +kernel
theorem dL_refused_198 : decode cL_refused 198 = .ok (.ldc 17, 2) := by decide +kernel
theorem dL_refused_200 : decode cL_refused 200 = .ok (.if_icmp .ne 7, 3) := by decide +kernel
theorem dL_refused_203 : decode cL_refused 203 = .ok (.iconst 1, 1) := by decide +kernel
theorem dL_refused_204 : decode cL_refused 204 = .ok (.goto 4, 3) := by decide +kernel
theorem dL_refused_208 : decode cL_refused 208 = .ok (.istore_n 3, 1) := by decide +kernel
theorem dL_refused_209 : decode cL_refused 209 = .ok (.iload_n 3, 1) := by decide +kernel
theorem dL_refused_210 : decode cL_refused 210 = .ok (.ifCond .eq 212, 3) := by decide +kernel
theorem dL_refused_213 : decode cL_refused 213 = .ok (.aload_n 0, 1) := by decide +kernel
theorem dL_refused_214 : decode cL_refused 214 = .ok (.bipush 10, 2) := by decide +kernel
theorem dL_refused_216 : decode cL_refused 216 = .ok (.iconst (-1), 1) := by decide +kernel
theorem dL_refused_217 : decode cL_refused 217 = .ok (.iconst 0, 1) := by decide +kernel
theorem dL_refused_218 : decode cL_refused 218 = .ok (.iconst 0, 1) := by decide +kernel
theorem dL_refused_219 : decode cL_refused 219 = .ok (.invokestatic 131, 3) := by decide +kernel
theorem dL_refused_222 : decode cL_refused 222 = .ok (.ldc 17, 2) := by decide +kernel
theorem dL_refused_224 : decode cL_refused 224 = .ok (.if_icmp .ne 198, 3) := by decide +kernel
theorem dL_refused_227 : decode cL_refused 227 = .ok (.aload_n 0, 1) := by decide +kernel
theorem dL_refused_228 : decode cL_refused 228 = .ok (.bipush 10, 2) := by decide +kernel
theorem dL_refused_230 : decode cL_refused 230 = .ok (.iconst 3, 1) := by decide +kernel
theorem dL_refused_231 : decode cL_refused 231 = .ok (.bipush 8, 2) := by decide +kernel
theorem dL_refused_233 : decode cL_refused 233 = .ok (.iconst 0, 1) := by decide +kernel
theorem dL_refused_234 : decode cL_refused 234 = .ok (.invokestatic 131, 3) := by decide +kernel
theorem dL_refused_237 : decode cL_refused 237 = .ok (.ldc 17, 2) := by decide +kernel
theorem dL_refused_239 : decode cL_refused 239 = .ok (.if_icmp .ne 183, 3) := by decide +kernel
theorem dL_refused_242 : decode cL_refused 242 = .ok (.aload_n 0, 1) := by decide +kernel
theorem dL_refused_243 : decode cL_refused 243 = .ok (.bipush 11, 2) := by decide +kernel
theorem dL_refused_245 : decode cL_refused 245 = .ok (.iconst 4, 1) := by decide +kernel
theorem dL_refused_246 : decode cL_refused 246 = .ok (.iconst 0, 1) := by decide +kernel
theorem dL_refused_247 : decode cL_refused 247 = .ok (.bipush 16, 2) := by decide +kernel
theorem dL_refused_249 : decode cL_refused 249 = .ok (.invokestatic 131, 3) := by decide +kernel
theorem dL_refused_252 : decode cL_refused 252 = .ok (.ldc 17, 2) := by decide +kernel
theorem dL_refused_254 : decode cL_refused 254 = .ok (.if_icmp .ne 168, 3) := by decide +kernel
theorem dL_refused_257 : decode cL_refused 257 = .ok (.aload_n 0, 1) := by decide +kernel
theorem dL_refused_258 : decode cL_refused 258 = .ok (.bipush 12, 2) := by decide +kernel
theorem dL_refused_260 : decode cL_refused 260 = .ok (.iconst 0, 1) := by decide +kernel
theorem dL_refused_261 : decode cL_refused 261 = .ok (.iconst (-1), 1) := by decide +kernel
theorem dL_refused_262 : decode cL_refused 262 = .ok (.iconst 0, 1) := by decide +kernel
theorem dL_refused_263 : decode cL_refused 263 = .ok (.invokestatic 131, 3) := by decide +kernel
theorem dL_refused_266 : decode cL_refused 266 = .ok (.ldc 17, 2) := by decide +kernel
theorem dL_refused_268 : decode cL_refused 268 = .ok (.if_icmp .ne 154, 3) := by decide +kernel
theorem dL_refused_271 : decode cL_refused 271 = .ok (.aload_n 0, 1) := by decide +kernel
theorem dL_refused_272 : decode cL_refused 272 = .ok (.bipush 14, 2) := by decide +kernel
theorem dL_refused_274 : decode cL_refused 274 = .ok (.iconst 5, 1) := by decide +kernel
theorem dL_refused_275 : decode cL_refused 275 = .ok (.iconst 0, 1) := by decide +kernel
theorem dL_refused_276 : decode cL_refused 276 = .ok (.iconst 0, 1) := by decide +kernel
theorem dL_refused_277 : decode cL_refused 277 = .ok (.invokestatic 131, 3) := by decide +kernel
theorem dL_refused_280 : decode cL_refused 280 = .ok (.ldc 17, 2) := by decide +kernel
theorem dL_refused_282 : decode cL_refused 282 = .ok (.if_icmp .ne 140, 3) := by decide +kernel
theorem dL_refused_285 : decode cL_refused 285 = .ok (.aload_n 0, 1) := by decide +kernel
theorem dL_refused_286 : decode cL_refused 286 = .ok (.bipush 15, 2) := by decide +kernel
theorem dL_refused_288 : decode cL_refused 288 = .ok (.iconst 5, 1) := by decide +kernel
theorem dL_refused_289 : decode cL_refused 289 = .ok (.iconst 0, 1) := by decide +kernel
theorem dL_refused_290 : decode cL_refused 290 = .ok (.iconst 0, 1) := by decide +kernel
theorem dL_refused_291 : decode cL_refused 291 = .ok (.invokestatic 131, 3) := by decide +kernel
theorem dL_refused_294 : decode cL_refused 294 = .ok (.ldc 17, 2) := by decide +kernel
theorem dL_refused_296 : decode cL_refused 296 = .ok (.if_icmp .ne 126, 3) := by decide +kernel
theorem dL_refused_299 : decode cL_refused 299 = .ok (.aload_n 0, 1) := by decide +kernel
theorem dL_refused_300 : decode cL_refused 300 = .ok (.bipush 16, 2) := by decide +kernel
theorem dL_refused_302 : decode cL_refused 302 = .ok (.iconst 0, 1) := by decide +kernel
theorem dL_refused_303 : decode cL_refused 303 = .ok (.iconst 0, 1) := by decide +kernel
theorem dL_refused_304 : decode cL_refused 304 = .ok (.bipush 17, 2) := by decide +kernel
theorem dL_refused_306 : decode cL_refused 306 = .ok (.invokestatic 131, 3) := by decide +kernel
theorem dL_refused_309 : decode cL_refused 309 = .ok (.ldc 17, 2) := by decide +kernel
theorem dL_refused_311 : decode cL_refused 311 = .ok (.if_icmp .ne 111, 3) := by decide +kernel
theorem dL_refused_314 : decode cL_refused 314 = .ok (.aload_n 0, 1) := by decide +kernel
theorem dL_refused_315 : decode cL_refused 315 = .ok (.bipush 16, 2) := by decide +kernel
theorem dL_refused_317 : decode cL_refused 317 = .ok (.iconst (-1), 1) := by decide +kernel
theorem dL_refused_318 : decode cL_refused 318 = .ok (.iconst 0, 1) := by decide +kernel
theorem dL_refused_319 : decode cL_refused 319 = .ok (.iconst 0, 1) := by decide +kernel
theorem dL_refused_320 : decode cL_refused 320 = .ok (.invokestatic 131, 3) := by decide +kernel
theorem dL_refused_323 : decode cL_refused 323 = .ok (.ldc 17, 2) := by decide +kernel
theorem dL_refused_325 : decode cL_refused 325 = .ok (.if_icmp .ne 97, 3) := by decide +kernel
theorem dL_refused_328 : decode cL_refused 328 = .ok (.aload_n 0, 1) := by decide +kernel
theorem dL_refused_329 : decode cL_refused 329 = .ok (.bipush 17, 2) := by decide +kernel
theorem dL_refused_331 : decode cL_refused 331 = .ok (.iconst (-1), 1) := by decide +kernel
theorem dL_refused_332 : decode cL_refused 332 = .ok (.iconst 0, 1) := by decide +kernel
theorem dL_refused_333 : decode cL_refused 333 = .ok (.iconst 0, 1) := by decide +kernel
theorem dL_refused_334 : decode cL_refused 334 = .ok (.invokestatic 131, 3) := by decide +kernel
theorem dL_refused_337 : decode cL_refused 337 = .ok (.ldc 17, 2) := by decide +kernel
theorem dL_refused_339 : decode cL_refused 339 = .ok (.if_icmp .ne 83, 3) := by decide +kernel
theorem dL_refused_342 : decode cL_refused 342 = .ok (.aload_n 0, 1) := by decide +kernel
theorem dL_refused_343 : decode cL_refused 343 = .ok (.bipush 17, 2) := by decide +kernel
theorem dL_refused_345 : decode cL_refused 345 = .ok (.iconst 0, 1) := by decide +kernel
theorem dL_refused_346 : decode cL_refused 346 = .ok (.aload_n 0, 1) := by decide +kernel
theorem dL_refused_347 : decode cL_refused 347 = .ok (.invokevirtual 108, 3) := by decide +kernel
theorem dL_refused_350 : decode cL_refused 350 = .ok (.iconst 0, 1) := by decide +kernel
theorem dL_refused_351 : decode cL_refused 351 = .ok (.invokestatic 131, 3) := by decide +kernel
theorem dL_refused_354 : decode cL_refused 354 = .ok (.ldc 17, 2) := by decide +kernel
theorem dL_refused_356 : decode cL_refused 356 = .ok (.if_icmp .ne 66, 3) := by decide +kernel
theorem dL_refused_359 : decode cL_refused 359 = .ok (.aload_n 0, 1) := by decide +kernel
theorem dL_refused_360 : decode cL_refused 360 = .ok (.bipush 18, 2) := by decide +kernel
theorem dL_refused_362 : decode cL_refused 362 = .ok (.iconst (-1), 1) := by decide +kernel
theorem dL_refused_363 : decode cL_refused 363 = .ok (.iconst 0, 1) := by decide +kernel
theorem dL_refused_364 : decode cL_refused 364 = .ok (.iconst 0, 1) := by decide +kernel
theorem dL_refused_365 : decode cL_refused 365 = .ok (.invokestatic 131, 3) := by decide +kernel
theorem dL_refused_368 : decode cL_refused 368 = .ok (.ldc 17, 2) := by decide +kernel
theorem dL_refused_370 : decode cL_refused 370 = .ok (.if_icmp .ne 52, 3) := by decide +kernel
theorem dL_refused_373 : decode cL_refused 373 = .ok (.aload_n 0, 1) := by decide +kernel
theorem dL_refused_374 : decode cL_refused 374 = .ok (.bipush 19, 2) := by decide +kernel
theorem dL_refused_376 : decode cL_refused 376 = .ok (.aload_n 0, 1) := by decide +kernel
theorem dL_refused_377 : decode cL_refused 377 = .ok (.invokevirtual 108, 3) := by decide +kernel
theorem dL_refused_380 : decode cL_refused 380 = .ok (.iconst 0, 1) := by decide +kernel
theorem dL_refused_381 : decode cL_refused 381 = .ok (.iconst 0, 1) := by decide +kernel
theorem dL_refused_382 : decode cL_refused 382 = .ok (.invokestatic 131, 3) := by decide +kernel
theorem dL_refused_385 : decode cL_refused 385 = .ok (.ldc 17, 2) := by decide +kernel
theorem dL_refused_387 : decode cL_refused 387 = .ok (.if_icmp .ne 35, 3) := by decide +kernel
theorem dL_refused_390 : decode cL_refused 390 = .ok (.aload_n 0, 1) := by decide +kernel
theorem dL_refused_391 : decode cL_refused 391 = .ok (.bipush 20, 2) := by decide +kernel
theorem dL_refused_393 : decode cL_refused 393 = .ok (.iconst (-1), 1) := by decide +kernel
theorem dL_refused_394 : decode cL_refused 394 = .ok (.iconst 0, 1) := by decide +kernel
theorem dL_refused_395 : decode cL_refused 395 = .ok (.iconst 0, 1) := by decide +kernel
theorem dL_refused_396 : decode cL_refused 396 = .ok (.invokestatic 131, 3) := by decide +kernel
theorem dL_refused_399 : decode cL_refused 399 = .ok (.ldc 17, 2) := by decide +kernel
theorem dL_refused_401 : decode cL_refused 401 = .ok (.if_icmp .ne 21, 3) := by decide +kernel
theorem dL_refused_404 : decode cL_refused 404 = .ok (.aload_n 0, 1) := by decide +kernel
theorem dL_refused_405 : decode cL_refused 405 = .ok (.bipush 21, 2) := by decide +kernel
theorem dL_refused_407 : decode cL_refused 407 = .ok (.iconst (-1), 1) := by decide +kernel
theorem dL_refused_408 : decode cL_refused 408 = .ok (.iconst 0, 1) := by decide +kernel
theorem dL_refused_409 : decode cL_refused 409 = .ok (.iconst 0, 1) := by decide +kernel
theorem dL_refused_410 : decode cL_refused 410 = .ok (.invokestatic 131, 3) := by decide +kernel
theorem dL_refused_413 : decode cL_refused 413 = .ok (.ldc 17, 2) := by decide +kernel
theorem dL_refused_415 : decode cL_refused 415 = .ok (.if_icmp .ne 7, 3) := by decide +kernel
theorem dL_refused_418 : decode cL_refused 418 = .ok (.iconst 1, 1) := by decide +kernel
theorem dL_refused_419 : decode cL_refused 419 = .ok (.goto 4, 3) := by decide +kernel
theorem dL_refused_423 : decode cL_refused 423 = .ok (.istore_n 3, 1) := by decide +kernel
theorem dL_refused_424 : decode cL_refused 424 = .ok (.iload_n 3, 1) := by decide +kernel
theorem dL_refused_425 : decode cL_refused 425 = .ok (.ifCond .eq 76, 3) := by decide +kernel
theorem dL_refused_428 : decode cL_refused 428 = .ok (.aload_n 0, 1) := by decide +kernel
theorem dL_refused_429 : decode cL_refused 429 = .ok (.invokestatic 151, 3) := by decide +kernel
theorem dL_refused_432 : decode cL_refused 432 = .ok (.lload_n 1, 1) := by decide +kernel
theorem dL_refused_433 : decode cL_refused 433 = .ok (.lcmp, 1) := by decide +kernel
theorem dL_refused_434 : decode cL_refused 434 = .ok (.ifCond .ne 67, 3) := by decide +kernel
theorem dL_refused_437 : decode cL_refused 437 = .ok (.aload_n 0, 1) := by decide +kernel
theorem dL_refused_438 : decode cL_refused 438 = .ok (.invokevirtual 108, 3) := by decide +kernel
theorem dL_refused_441 : decode cL_refused 441 = .ok (.ifCond .eq 56, 3) := by decide +kernel
theorem dL_refused_444 : decode cL_refused 444 = .ok (.aload_n 0, 1) := by decide +kernel
theorem dL_refused_445 : decode cL_refused 445 = .ok (.iconst 4, 1) := by decide +kernel
theorem dL_refused_446 : decode cL_refused 446 = .ok (.iconst 0, 1) := by decide +kernel
theorem dL_refused_447 : decode cL_refused 447 = .ok (.bipush 101, 2) := by decide +kernel
theorem dL_refused_449 : decode cL_refused 449 = .ok (.iconst 0, 1) := by decide +kernel
theorem dL_refused_450 : decode cL_refused 450 = .ok (.invokestatic 131, 3) := by decide +kernel
theorem dL_refused_453 : decode cL_refused 453 = .ok (.ldc 20, 2) := by decide +kernel
theorem dL_refused_455 : decode cL_refused 455 = .ok (.if_icmp .ne 46, 3) := by decide +kernel
theorem dL_refused_458 : decode cL_refused 458 = .ok (.aload_n 0, 1) := by decide +kernel
theorem dL_refused_459 : decode cL_refused 459 = .ok (.iconst 1, 1) := by decide +kernel
theorem dL_refused_460 : decode cL_refused 460 = .ok (.iconst 0, 1) := by decide +kernel
theorem dL_refused_461 : decode cL_refused 461 = .ok (.iconst 0, 1) := by decide +kernel
theorem dL_refused_462 : decode cL_refused 462 = .ok (.bipush 98, 2) := by decide +kernel
theorem dL_refused_464 : decode cL_refused 464 = .ok (.invokestatic 131, 3) := by decide +kernel
theorem dL_refused_467 : decode cL_refused 467 = .ok (.ldc 20, 2) := by decide +kernel
theorem dL_refused_469 : decode cL_refused 469 = .ok (.if_icmp .ne 32, 3) := by decide +kernel
theorem dL_refused_472 : decode cL_refused 472 = .ok (.aload_n 0, 1) := by decide +kernel
theorem dL_refused_473 : decode cL_refused 473 = .ok (.bipush 17, 2) := by decide +kernel
theorem dL_refused_475 : decode cL_refused 475 = .ok (.iconst 0, 1) := by decide +kernel
theorem dL_refused_476 : decode cL_refused 476 = .ok (.iconst 0, 1) := by decide +kernel
theorem dL_refused_477 : decode cL_refused 477 = .ok (.sipush 648, 3) := by decide +kernel
theorem dL_refused_480 : decode cL_refused 480 = .ok (.invokestatic 131, 3) := by decide +kernel
theorem dL_refused_483 : decode cL_refused 483 = .ok (.ldc 20, 2) := by decide +kernel
theorem dL_refused_485 : decode cL_refused 485 = .ok (.if_icmp .ne 16, 3) := by decide +kernel
theorem dL_refused_488 : decode cL_refused 488 = .ok (.aload_n 0, 1) := by decide +kernel
theorem dL_refused_489 : decode cL_refused 489 = .ok (.invokestatic 151, 3) := by decide +kernel
theorem dL_refused_492 : decode cL_refused 492 = .ok (.lload_n 1, 1) := by decide +kernel
theorem dL_refused_493 : decode cL_refused 493 = .ok (.lcmp, 1) := by decide +kernel
theorem dL_refused_494 : decode cL_refused 494 = .ok (.ifCond .ne 7, 3) := by decide +kernel
theorem dL_refused_497 : decode cL_refused 497 = .ok (.iconst 1, 1) := by decide +kernel
theorem dL_refused_498 : decode cL_refused 498 = .ok (.goto 4, 3) := by decide +kernel
theorem dL_refused_502 : decode cL_refused 502 = .ok (.ireturn, 1) := by decide +kernel
set_option maxHeartbeats 1000000 in
set_option maxRecDepth 100000 in
theorem m_refused (l : Launch) (hflag : l.stackTraces = false) (G : k_G) (xa : Nat) (mm : q_Mem) (hL : LI mm) (hK1 : sp_K mm < 512) : p_Ci l yL_refused (Cond.code yL_refused cL_refused 4 (some .boolean)) 13 265 1490 9070 G (p_I G xa) mm [.ref xa] (fun v u => v = 1 ∧ u = mm) (fun _ => False) := by
  refine p_of (by decide) (Nat.le_of_ble_eq_true rfl) ?_
  intro Z p e s m args below meth c hx hb hr hF hlk hI hX ls hl
  have hl : lv_has ls 4 [(0, .ref xa)] := hl
  have hS : va_S Z s.heap s.heap [] := va_S.rf
  refine lv_aload_n hx hb dL_refused_0 rfl (lv_at hl 0 rfl) ?_
  refine p_lSk (mc1 := 460) (ms1 := 2760) (fr := 12) (lo := 240) (n := 1) (As := [.ref xa]) (rest := []) hF (m_all l hflag G xa mm hL) p_Em.id ke_L_all wd_l_L_151 (by decide) hI hX hS rfl hl.1 rfl (Nat.le_of_ble_eq_true rfl) dL_refused_1 (by first | decide | omega | (dsimp only; omega)) (fun H locs hI hS => ?_)
  replace hI : p_I G xa Z mm H := hI
  refine lv_lstore_n (lv' := [(1, .long (al mm)), (0, .ref xa)]) hx hb dL_refused_4 rfl hl (by decide) rfl (fun ls hl => ?_)
  refine lv_aload_n hx hb dL_refused_5 rfl (lv_at hl 1 rfl) ?_
  refine lv_iconst (v := 0) hx hb dL_refused_6 (by decide) ?_
  refine lv_iconst (v := (-1)) hx hb dL_refused_7 (by decide) ?_
  refine lv_sipush (v := 264) hx hb dL_refused_8 (by decide) ?_
  refine lv_sipush (v := 658) hx hb dL_refused_11 (by decide) ?_
  refine p_iSXk (mc1 := 9) (ms1 := 100) (fr := 11) (lo := 214) (n := 5) (As := [.ref xa, .int 0, .int (-1), .int 264, .int 658]) (rest := []) hF (p_cx (nm := k_n3) (sp := sp_add mm (-1) (264 / 32 - 8) ((264 - 264 / 32 * 32) - 8) (658 / 16 - 40) ((658 - 658 / 16 * 16) - 2)) (r_add1 (by decide)) (by decide) ce1 (m_call (fun Z ad h => by rw [← h]; exact m_does_0 l hflag G Z ad mm (-1) 264 658 hL.1 hK1) (Or.inl rfl))) p_Em.id ke_L_call wd_l_L_131 (by decide) hI hX hS rfl hl.1 rfl (Nat.le_of_ble_eq_true rfl) dL_refused_14 (by first | decide | omega | (dsimp only; omega)) (fun H locs hI hS => ?_)
  replace hI : p_I G xa Z mm H := hI
  refine lv_ldc (v := -2100000001) hx hb hF.2.2.2.1 (hF.2.2.2.2 _ wd_x3) dL_refused_17 ?_
  refine lv_icmp_ne (tgt := 207) hx hb dL_refused_19 (by decide) (fun c19 => ?_) (fun c19 => ?_)
  · skip
    exact absurd rfl c19
  · skip
    refine lv_aload_n hx hb dL_refused_22 rfl (lv_at hl 1 rfl) ?_
    refine lv_iconst (v := 0) hx hb dL_refused_23 (by decide) ?_
    refine lv_iconst (v := 0) hx hb dL_refused_24 (by decide) ?_
    refine lv_sipush (v := 232) hx hb dL_refused_25 (by decide) ?_
    refine lv_sipush (v := 647) hx hb dL_refused_28 (by decide) ?_
    refine p_iSXk (mc1 := 9) (ms1 := 100) (fr := 11) (lo := 214) (n := 5) (As := [.ref xa, .int 0, .int 0, .int 232, .int 647]) (rest := []) hF (p_cx (nm := k_n3) (sp := sp_add mm 0 (232 / 32 - 8) ((232 - 232 / 32 * 32) - 8) (647 / 16 - 40) ((647 - 647 / 16 * 16) - 2)) (r_add1 (by decide)) (by decide) ce1 (m_call (fun Z ad h => by rw [← h]; exact m_does_0 l hflag G Z ad mm 0 232 647 hL.1 hK1) (Or.inl rfl))) p_Em.id ke_L_call wd_l_L_131 (by decide) hI hX hS rfl hl.1 rfl (Nat.le_of_ble_eq_true rfl) dL_refused_31 (by first | decide | omega | (dsimp only; omega)) (fun H locs hI hS => ?_)
    replace hI : p_I G xa Z mm H := hI
    refine lv_ldc (v := -2100000001) hx hb hF.2.2.2.1 (hF.2.2.2.2 _ wd_x3) dL_refused_34 ?_
    refine lv_icmp_ne (tgt := 207) hx hb dL_refused_36 (by decide) (fun c36 => ?_) (fun c36 => ?_)
    · skip
      exact absurd rfl c36
    · skip
      refine lv_aload_n hx hb dL_refused_39 rfl (lv_at hl 1 rfl) ?_
      refine lv_iconst (v := 0) hx hb dL_refused_40 (by decide) ?_
      refine lv_iconst (v := 0) hx hb dL_refused_41 (by decide) ?_
      refine lv_sipush (v := 264) hx hb dL_refused_42 (by decide) ?_
      refine lv_sipush (v := 370) hx hb dL_refused_45 (by decide) ?_
      refine p_iSXk (mc1 := 9) (ms1 := 100) (fr := 11) (lo := 214) (n := 5) (As := [.ref xa, .int 0, .int 0, .int 264, .int 370]) (rest := []) hF (p_cx (nm := k_n3) (sp := sp_add mm 0 (264 / 32 - 8) ((264 - 264 / 32 * 32) - 8) (370 / 16 - 40) ((370 - 370 / 16 * 16) - 2)) (r_add2 (by decide) (by decide)) (by decide) ce2 (m_call (fun Z ad h => by rw [← h]; exact m_does_0 l hflag G Z ad mm 0 264 370 hL.1 hK1) (Or.inl rfl))) p_Em.id ke_L_call wd_l_L_131 (by decide) hI hX hS rfl hl.1 rfl (Nat.le_of_ble_eq_true rfl) dL_refused_48 (by first | decide | omega | (dsimp only; omega)) (fun H locs hI hS => ?_)
      replace hI : p_I G xa Z mm H := hI
      refine lv_ldc (v := -2100000002) hx hb hF.2.2.2.1 (hF.2.2.2.2 _ wd_x4) dL_refused_51 ?_
      refine lv_icmp_ne (tgt := 207) hx hb dL_refused_53 (by decide) (fun c53 => ?_) (fun c53 => ?_)
      · skip
        exact absurd rfl c53
      · skip
        refine lv_aload_n hx hb dL_refused_56 rfl (lv_at hl 1 rfl) ?_
        refine lv_iconst (v := 0) hx hb dL_refused_57 (by decide) ?_
        refine lv_iconst (v := 0) hx hb dL_refused_58 (by decide) ?_
        refine lv_sipush (v := 264) hx hb dL_refused_59 (by decide) ?_
        refine lv_sipush (v := 663) hx hb dL_refused_62 (by decide) ?_
        refine p_iSXk (mc1 := 9) (ms1 := 100) (fr := 11) (lo := 214) (n := 5) (As := [.ref xa, .int 0, .int 0, .int 264, .int 663]) (rest := []) hF (p_cx (nm := k_n3) (sp := sp_add mm 0 (264 / 32 - 8) ((264 - 264 / 32 * 32) - 8) (663 / 16 - 40) ((663 - 663 / 16 * 16) - 2)) (r_add2 (by decide) (by decide)) (by decide) ce2 (m_call (fun Z ad h => by rw [← h]; exact m_does_0 l hflag G Z ad mm 0 264 663 hL.1 hK1) (Or.inl rfl))) p_Em.id ke_L_call wd_l_L_131 (by decide) hI hX hS rfl hl.1 rfl (Nat.le_of_ble_eq_true rfl) dL_refused_65 (by first | decide | omega | (dsimp only; omega)) (fun H locs hI hS => ?_)
        replace hI : p_I G xa Z mm H := hI
        refine lv_ldc (v := -2100000002) hx hb hF.2.2.2.1 (hF.2.2.2.2 _ wd_x4) dL_refused_68 ?_
        refine lv_icmp_ne (tgt := 207) hx hb dL_refused_70 (by decide) (fun c70 => ?_) (fun c70 => ?_)
        · skip
          exact absurd rfl c70
        · skip
          refine lv_aload_n hx hb dL_refused_73 rfl (lv_at hl 1 rfl) ?_
          refine lv_iconst (v := 1) hx hb dL_refused_74 (by decide) ?_
          refine lv_iconst (v := (-1)) hx hb dL_refused_75 (by decide) ?_
          refine lv_iconst (v := 0) hx hb dL_refused_76 (by decide) ?_
          refine lv_iconst (v := 0) hx hb dL_refused_77 (by decide) ?_
          refine p_iSXk (mc1 := 4) (ms1 := 19) (fr := 11) (lo := 214) (n := 5) (As := [.ref xa, .int 1, .int (-1), .int 0, .int 0]) (rest := []) hF (p_cx (nm := k_n3) (sp := sp_edit mm (-1) 0 (0 / 16 - 2) ((0 - 0 / 16 * 16) - 2)) (r_edit1 (fun q => absurd q.1 (by decide))) (by decide) ce1 (m_call (fun Z ad h => by rw [← h]; exact m_does_1 l hflag G Z ad mm (-1) 0 0 hL.1 hK1) (Or.inl rfl))) p_Em.id ke_L_call wd_l_L_131 (by decide) hI hX hS rfl hl.1 rfl (Nat.le_of_ble_eq_true rfl) dL_refused_78 (by first | decide | omega | (dsimp only; omega)) (fun H locs hI hS => ?_)
          replace hI : p_I G xa Z mm H := hI
          refine lv_ldc (v := -2100000001) hx hb hF.2.2.2.1 (hF.2.2.2.2 _ wd_x3) dL_refused_81 ?_
          refine lv_icmp_ne (tgt := 207) hx hb dL_refused_83 (by decide) (fun c83 => ?_) (fun c83 => ?_)
          · skip
            exact absurd rfl c83
          · skip
            refine lv_aload_n hx hb dL_refused_86 rfl (lv_at hl 1 rfl) ?_
            refine lv_iconst (v := 1) hx hb dL_refused_87 (by decide) ?_
            refine lv_iconst (v := 0) hx hb dL_refused_88 (by decide) ?_
            refine lv_aload_n hx hb dL_refused_89 rfl (lv_at hl 1 rfl) ?_
            refine p_iVk (fr := 1) (lo := 20) (mc1 := 0) (ms1 := 0) (n := 0) (As := []) (rest := [.int 0, .int 1, .ref xa]) hF (pv_ways l G xa mm) p_Em.id ke_X4_ways wd_l_L_108 (by decide) hI hX hS rfl hl.1 rfl (Nat.le_of_ble_eq_true rfl) dL_refused_90 (by first | decide | omega | (dsimp only; omega)) (fun H locs hI hS => ?_)
            replace hI : p_I G xa Z mm H := hI
            refine lv_iconst (v := 0) hx hb dL_refused_93 (by decide) ?_
            refine p_iSXk (mc1 := 4) (ms1 := 19) (fr := 11) (lo := 214) (n := 5) (As := [.ref xa, .int 1, .int 0, .int (mm 1 0), .int 0]) (rest := []) hF (p_cx (nm := k_n3) (sp := sp_edit mm 0 (mm 1 0) (0 / 16 - 2) ((0 - 0 / 16 * 16) - 2)) (r_edit1 (fun q => no_ww q.2)) (by decide) ce1 (m_call (fun Z ad h => by rw [← h]; exact m_does_1 l hflag G Z ad mm 0 (mm 1 0) 0 hL.1 hK1) (Or.inl rfl))) p_Em.id ke_L_call wd_l_L_131 (by decide) hI hX hS rfl hl.1 rfl (Nat.le_of_ble_eq_true rfl) dL_refused_94 (by first | decide | omega | (dsimp only; omega)) (fun H locs hI hS => ?_)
            replace hI : p_I G xa Z mm H := hI
            refine lv_ldc (v := -2100000001) hx hb hF.2.2.2.1 (hF.2.2.2.2 _ wd_x3) dL_refused_97 ?_
            refine lv_icmp_ne (tgt := 207) hx hb dL_refused_99 (by decide) (fun c99 => ?_) (fun c99 => ?_)
            · skip
              exact absurd rfl c99
            · skip
              refine lv_aload_n hx hb dL_refused_102 rfl (lv_at hl 1 rfl) ?_
              refine lv_iconst (v := 2) hx hb dL_refused_103 (by decide) ?_
              refine lv_bipush (v := 6) hx hb dL_refused_104 (by decide) ?_
              refine lv_iconst (v := 0) hx hb dL_refused_106 (by decide) ?_
              refine lv_iconst (v := 0) hx hb dL_refused_107 (by decide) ?_
              refine p_iSXk (mc1 := 4) (ms1 := 19) (fr := 11) (lo := 214) (n := 5) (As := [.ref xa, .int 2, .int 6, .int 0, .int 0]) (rest := []) hF (p_cx (nm := k_n2) (sp := sp_judge mm 6 0 (0 = 1)) (r_judge1 (fun q => absurd q.1 (by decide))) (by decide) cf1 (m_call (fun Z ad h => by rw [← h]; exact m_does_2 l hflag G Z ad mm 6 0 0 hL.1 hK1) (Or.inr rfl))) p_Em.id ke_L_call wd_l_L_131 (by decide) hI hX hS rfl hl.1 rfl (Nat.le_of_ble_eq_true rfl) dL_refused_108 (by first | decide | omega | (dsimp only; omega)) (fun H locs hI hS => ?_)
              replace hI : p_I G xa Z mm H := hI
              refine lv_ldc (v := -2100000001) hx hb hF.2.2.2.1 (hF.2.2.2.2 _ wd_x3) dL_refused_111 ?_
              refine lv_icmp_ne (tgt := 207) hx hb dL_refused_113 (by decide) (fun c113 => ?_) (fun c113 => ?_)
              · skip
                exact absurd rfl c113
              · skip
                refine lv_aload_n hx hb dL_refused_116 rfl (lv_at hl 1 rfl) ?_
                refine lv_iconst (v := 2) hx hb dL_refused_117 (by decide) ?_
                refine lv_iconst (v := 0) hx hb dL_refused_118 (by decide) ?_
                refine lv_iconst (v := (-1)) hx hb dL_refused_119 (by decide) ?_
                refine lv_iconst (v := 0) hx hb dL_refused_120 (by decide) ?_
                refine p_iSXk (mc1 := 4) (ms1 := 19) (fr := 11) (lo := 214) (n := 5) (As := [.ref xa, .int 2, .int 0, .int (-1), .int 0]) (rest := []) hF (p_cx (nm := k_n2) (sp := sp_judge mm 0 (-1) (0 = 1)) (r_judge1 (fun q => no_wy rfl q.2)) (by decide) cf1 (m_call (fun Z ad h => by rw [← h]; exact m_does_2 l hflag G Z ad mm 0 (-1) 0 hL.1 hK1) (Or.inr rfl))) p_Em.id ke_L_call wd_l_L_131 (by decide) hI hX hS rfl hl.1 rfl (Nat.le_of_ble_eq_true rfl) dL_refused_121 (by first | decide | omega | (dsimp only; omega)) (fun H locs hI hS => ?_)
                replace hI : p_I G xa Z mm H := hI
                refine lv_ldc (v := -2100000001) hx hb hF.2.2.2.1 (hF.2.2.2.2 _ wd_x3) dL_refused_124 ?_
                refine lv_icmp_ne (tgt := 207) hx hb dL_refused_126 (by decide) (fun c126 => ?_) (fun c126 => ?_)
                · skip
                  exact absurd rfl c126
                · skip
                  refine lv_aload_n hx hb dL_refused_129 rfl (lv_at hl 1 rfl) ?_
                  refine lv_iconst (v := 3) hx hb dL_refused_130 (by decide) ?_
                  refine lv_iconst (v := (-1)) hx hb dL_refused_131 (by decide) ?_
                  refine lv_iconst (v := 0) hx hb dL_refused_132 (by decide) ?_
                  refine lv_iconst (v := 0) hx hb dL_refused_133 (by decide) ?_
                  refine p_iSXk (mc1 := 4) (ms1 := 19) (fr := 11) (lo := 214) (n := 5) (As := [.ref xa, .int 3, .int (-1), .int 0, .int 0]) (rest := []) hF (p_cx (nm := k_n2) (sp := sp_rev mm (-1) 0) (r_rev1 (fun q => absurd q.1 (by decide))) (by decide) cf1 (m_call (fun Z ad h => by rw [← h]; exact m_does_3 l hflag G Z ad mm (-1) 0 0 hL.1 hK1) (Or.inr rfl))) p_Em.id ke_L_call wd_l_L_131 (by decide) hI hX hS rfl hl.1 rfl (Nat.le_of_ble_eq_true rfl) dL_refused_134 (by first | decide | omega | (dsimp only; omega)) (fun H locs hI hS => ?_)
                  replace hI : p_I G xa Z mm H := hI
                  refine lv_ldc (v := -2100000001) hx hb hF.2.2.2.1 (hF.2.2.2.2 _ wd_x3) dL_refused_137 ?_
                  refine lv_icmp_ne (tgt := 207) hx hb dL_refused_139 (by decide) (fun c139 => ?_) (fun c139 => ?_)
                  · skip
                    exact absurd rfl c139
                  · skip
                    refine lv_aload_n hx hb dL_refused_142 rfl (lv_at hl 1 rfl) ?_
                    refine lv_iconst (v := 3) hx hb dL_refused_143 (by decide) ?_
                    refine lv_iconst (v := 0) hx hb dL_refused_144 (by decide) ?_
                    refine lv_aload_n hx hb dL_refused_145 rfl (lv_at hl 1 rfl) ?_
                    refine p_iVk (fr := 1) (lo := 20) (mc1 := 0) (ms1 := 0) (n := 0) (As := []) (rest := [.int 0, .int 3, .ref xa]) hF (pv_ways l G xa mm) p_Em.id ke_X4_ways wd_l_L_108 (by decide) hI hX hS rfl hl.1 rfl (Nat.le_of_ble_eq_true rfl) dL_refused_146 (by first | decide | omega | (dsimp only; omega)) (fun H locs hI hS => ?_)
                    replace hI : p_I G xa Z mm H := hI
                    refine lv_iconst (v := 0) hx hb dL_refused_149 (by decide) ?_
                    refine p_iSXk (mc1 := 4) (ms1 := 19) (fr := 11) (lo := 214) (n := 5) (As := [.ref xa, .int 3, .int 0, .int (mm 1 0), .int 0]) (rest := []) hF (p_cx (nm := k_n2) (sp := sp_rev mm 0 (mm 1 0)) (r_rev1 (fun q => no_ww q.2)) (by decide) cf1 (m_call (fun Z ad h => by rw [← h]; exact m_does_3 l hflag G Z ad mm 0 (mm 1 0) 0 hL.1 hK1) (Or.inr rfl))) p_Em.id ke_L_call wd_l_L_131 (by decide) hI hX hS rfl hl.1 rfl (Nat.le_of_ble_eq_true rfl) dL_refused_150 (by first | decide | omega | (dsimp only; omega)) (fun H locs hI hS => ?_)
                    replace hI : p_I G xa Z mm H := hI
                    refine lv_ldc (v := -2100000001) hx hb hF.2.2.2.1 (hF.2.2.2.2 _ wd_x3) dL_refused_153 ?_
                    refine lv_icmp_ne (tgt := 207) hx hb dL_refused_155 (by decide) (fun c155 => ?_) (fun c155 => ?_)
                    · skip
                      exact absurd rfl c155
                    · skip
                      refine lv_aload_n hx hb dL_refused_158 rfl (lv_at hl 1 rfl) ?_
                      refine lv_iconst (v := 4) hx hb dL_refused_159 (by decide) ?_
                      refine lv_iconst (v := (-1)) hx hb dL_refused_160 (by decide) ?_
                      refine lv_bipush (v := 101) hx hb dL_refused_161 (by decide) ?_
                      refine lv_iconst (v := 0) hx hb dL_refused_163 (by decide) ?_
                      refine p_iSXk (mc1 := 2) (ms1 := 12) (fr := 11) (lo := 214) (n := 5) (As := [.ref xa, .int 4, .int (-1), .int 101, .int 0]) (rest := []) hF (p_cx (nm := k_n3) (sp := sp_guard mm (-1) 101) (r_guard1 (no_wy rfl)) (by decide) ce1 (m_call (fun Z ad h => by rw [← h]; exact m_does_4 l hflag G Z ad mm (-1) 101 0 hL.1) (Or.inl rfl))) p_Em.id ke_L_call wd_l_L_131 (by decide) hI hX hS rfl hl.1 rfl (Nat.le_of_ble_eq_true rfl) dL_refused_164 (by first | decide | omega | (dsimp only; omega)) (fun H locs hI hS => ?_)
                      replace hI : p_I G xa Z mm H := hI
                      refine lv_ldc (v := -2100000001) hx hb hF.2.2.2.1 (hF.2.2.2.2 _ wd_x3) dL_refused_167 ?_
                      refine lv_icmp_ne (tgt := 207) hx hb dL_refused_169 (by decide) (fun c169 => ?_) (fun c169 => ?_)
                      · skip
                        exact absurd rfl c169
                      · skip
                        refine lv_aload_n hx hb dL_refused_172 rfl (lv_at hl 1 rfl) ?_
                        refine lv_iconst (v := 5) hx hb dL_refused_173 (by decide) ?_
                        refine lv_bipush (v := 6) hx hb dL_refused_174 (by decide) ?_
                        refine lv_iconst (v := 0) hx hb dL_refused_176 (by decide) ?_
                        refine lv_iconst (v := 0) hx hb dL_refused_177 (by decide) ?_
                        refine p_iSXk (mc1 := 1) (ms1 := 6) (fr := 11) (lo := 214) (n := 5) (As := [.ref xa, .int 5, .int 6, .int 0, .int 0]) (rest := []) hF (p_cx (nm := k_n3) (sp := sp_trust mm 6) (r_trust1 (by decide)) (by decide) ce1 (m_call (fun Z ad h => by rw [← h]; exact m_does_5 l hflag G Z ad mm 6 0 0 ) (Or.inl rfl))) p_Em.id ke_L_call wd_l_L_131 (by decide) hI hX hS rfl hl.1 rfl (Nat.le_of_ble_eq_true rfl) dL_refused_178 (by first | decide | omega | (dsimp only; omega)) (fun H locs hI hS => ?_)
                        replace hI : p_I G xa Z mm H := hI
                        refine lv_ldc (v := -2100000001) hx hb hF.2.2.2.1 (hF.2.2.2.2 _ wd_x3) dL_refused_181 ?_
                        refine lv_icmp_ne (tgt := 207) hx hb dL_refused_183 (by decide) (fun c183 => ?_) (fun c183 => ?_)
                        · skip
                          exact absurd rfl c183
                        · skip
                          refine lv_aload_n hx hb dL_refused_186 rfl (lv_at hl 1 rfl) ?_
                          refine lv_bipush (v := 9) hx hb dL_refused_187 (by decide) ?_
                          refine lv_aload_n hx hb dL_refused_189 rfl (lv_at hl 1 rfl) ?_
                          refine p_iVk (fr := 1) (lo := 20) (mc1 := 0) (ms1 := 0) (n := 0) (As := []) (rest := [.int 9, .ref xa]) hF (pv_ways l G xa mm) p_Em.id ke_X4_ways wd_l_L_108 (by decide) hI hX hS rfl hl.1 rfl (Nat.le_of_ble_eq_true rfl) dL_refused_190 (by first | decide | omega | (dsimp only; omega)) (fun H locs hI hS => ?_)
                          replace hI : p_I G xa Z mm H := hI
                          refine lv_iconst (v := 0) hx hb dL_refused_193 (by decide) ?_
                          refine lv_iconst (v := 0) hx hb dL_refused_194 (by decide) ?_
                          refine p_iSXk (mc1 := 1) (ms1 := 6) (fr := 11) (lo := 214) (n := 5) (As := [.ref xa, .int 9, .int (mm 1 0), .int 0, .int 0]) (rest := []) hF (p_cx (nm := k_n3) (sp := sp_ofway 9 mm (mm 1 0)) (r_of1 no_ww) (by decide) ce1 (m_call (fun Z ad h => by rw [← h]; exact m_does_9 l hflag G Z ad mm (mm 1 0) 0 0 hL.1) (Or.inl rfl))) p_Em.id ke_L_call wd_l_L_131 (by decide) hI hX hS rfl hl.1 rfl (Nat.le_of_ble_eq_true rfl) dL_refused_195 (by first | decide | omega | (dsimp only; omega)) (fun H locs hI hS => ?_)
                          replace hI : p_I G xa Z mm H := hI
                          refine lv_ldc (v := -2100000001) hx hb hF.2.2.2.1 (hF.2.2.2.2 _ wd_x3) dL_refused_198 ?_
                          refine lv_icmp_ne (tgt := 207) hx hb dL_refused_200 (by decide) (fun c200 => ?_) (fun c200 => ?_)
                          · skip
                            exact absurd rfl c200
                          · skip
                            refine lv_iconst (v := 1) hx hb dL_refused_203 (by decide) ?_
                            refine lv_goto (tgt := 208) hx hb dL_refused_204 (by decide) ?_
                            refine lv_istore_n (lv' := [(3, .int 1), (1, .long (al mm)), (0, .ref xa)]) hx hb dL_refused_208 rfl hl (by decide) rfl (fun ls hl => ?_)
                            refine lv_iload_n hx hb dL_refused_209 rfl (lv_at hl 0 rfl) ?_
                            refine lv_if_eq (tgt := 422) hx hb dL_refused_210 (by decide) (fun c210 => ?_) (fun c210 => ?_)
                            · skip
                              exact absurd c210 (by decide)
                            · skip
                              refine lv_aload_n hx hb dL_refused_213 rfl (lv_at hl 2 rfl) ?_
                              refine lv_bipush (v := 10) hx hb dL_refused_214 (by decide) ?_
                              refine lv_iconst (v := (-1)) hx hb dL_refused_216 (by decide) ?_
                              refine lv_iconst (v := 0) hx hb dL_refused_217 (by decide) ?_
                              refine lv_iconst (v := 0) hx hb dL_refused_218 (by decide) ?_
                              refine p_iSXk (mc1 := 3) (ms1 := 19) (fr := 11) (lo := 214) (n := 5) (As := [.ref xa, .int 10, .int (-1), .int 0, .int 0]) (rest := []) hF (p_cx (nm := k_n3) (sp := sp_draw mm (-1) 0 0) (r_draw1 (by decide)) (by decide) ce1 (m_call (fun Z ad h => by rw [← h]; exact m_does_10 l hflag G Z ad mm (-1) 0 0 hL.1) (Or.inl rfl))) p_Em.id ke_L_call wd_l_L_131 (by decide) hI hX hS rfl hl.1 rfl (Nat.le_of_ble_eq_true rfl) dL_refused_219 (by first | decide | omega | (dsimp only; omega)) (fun H locs hI hS => ?_)
                              replace hI : p_I G xa Z mm H := hI
                              refine lv_ldc (v := -2100000001) hx hb hF.2.2.2.1 (hF.2.2.2.2 _ wd_x3) dL_refused_222 ?_
                              refine lv_icmp_ne (tgt := 422) hx hb dL_refused_224 (by decide) (fun c224 => ?_) (fun c224 => ?_)
                              · skip
                                exact absurd rfl c224
                              · skip
                                refine lv_aload_n hx hb dL_refused_227 rfl (lv_at hl 2 rfl) ?_
                                refine lv_bipush (v := 10) hx hb dL_refused_228 (by decide) ?_
                                refine lv_iconst (v := 3) hx hb dL_refused_230 (by decide) ?_
                                refine lv_bipush (v := 8) hx hb dL_refused_231 (by decide) ?_
                                refine lv_iconst (v := 0) hx hb dL_refused_233 (by decide) ?_
                                refine p_iSXk (mc1 := 3) (ms1 := 19) (fr := 11) (lo := 214) (n := 5) (As := [.ref xa, .int 10, .int 3, .int 8, .int 0]) (rest := []) hF (p_cx (nm := k_n3) (sp := sp_draw mm 3 8 0) (r_draw1 (by decide)) (by decide) ce1 (m_call (fun Z ad h => by rw [← h]; exact m_does_10 l hflag G Z ad mm 3 8 0 hL.1) (Or.inl rfl))) p_Em.id ke_L_call wd_l_L_131 (by decide) hI hX hS rfl hl.1 rfl (Nat.le_of_ble_eq_true rfl) dL_refused_234 (by first | decide | omega | (dsimp only; omega)) (fun H locs hI hS => ?_)
                                replace hI : p_I G xa Z mm H := hI
                                refine lv_ldc (v := -2100000001) hx hb hF.2.2.2.1 (hF.2.2.2.2 _ wd_x3) dL_refused_237 ?_
                                refine lv_icmp_ne (tgt := 422) hx hb dL_refused_239 (by decide) (fun c239 => ?_) (fun c239 => ?_)
                                · skip
                                  exact absurd rfl c239
                                · skip
                                  refine lv_aload_n hx hb dL_refused_242 rfl (lv_at hl 2 rfl) ?_
                                  refine lv_bipush (v := 11) hx hb dL_refused_243 (by decide) ?_
                                  refine lv_iconst (v := 4) hx hb dL_refused_245 (by decide) ?_
                                  refine lv_iconst (v := 0) hx hb dL_refused_246 (by decide) ?_
                                  refine lv_bipush (v := 16) hx hb dL_refused_247 (by decide) ?_
                                  refine p_iSXk (mc1 := 3) (ms1 := 18) (fr := 11) (lo := 214) (n := 5) (As := [.ref xa, .int 11, .int 4, .int 0, .int 16]) (rest := []) hF (p_cx (nm := k_n2) (sp := sp_ptr mm 4 0 16) (r_ptr1 (by decide)) (by decide) cf1 (m_call (fun Z ad h => by rw [← h]; exact m_does_11 l hflag G Z ad mm 4 0 16 ) (Or.inr rfl))) p_Em.id ke_L_call wd_l_L_131 (by decide) hI hX hS rfl hl.1 rfl (Nat.le_of_ble_eq_true rfl) dL_refused_249 (by first | decide | omega | (dsimp only; omega)) (fun H locs hI hS => ?_)
                                  replace hI : p_I G xa Z mm H := hI
                                  refine lv_ldc (v := -2100000001) hx hb hF.2.2.2.1 (hF.2.2.2.2 _ wd_x3) dL_refused_252 ?_
                                  refine lv_icmp_ne (tgt := 422) hx hb dL_refused_254 (by decide) (fun c254 => ?_) (fun c254 => ?_)
                                  · skip
                                    exact absurd rfl c254
                                  · skip
                                    refine lv_aload_n hx hb dL_refused_257 rfl (lv_at hl 2 rfl) ?_
                                    refine lv_bipush (v := 12) hx hb dL_refused_258 (by decide) ?_
                                    refine lv_iconst (v := 0) hx hb dL_refused_260 (by decide) ?_
                                    refine lv_iconst (v := (-1)) hx hb dL_refused_261 (by decide) ?_
                                    refine lv_iconst (v := 0) hx hb dL_refused_262 (by decide) ?_
                                    refine p_iSXk (mc1 := 3) (ms1 := 18) (fr := 11) (lo := 214) (n := 5) (As := [.ref xa, .int 12, .int 0, .int (-1), .int 0]) (rest := []) hF (p_cx (nm := k_n2) (sp := sp_anew mm 0 (-1) 0) (r_anew1 (by decide)) (by decide) cf1 (m_call (fun Z ad h => by rw [← h]; exact m_does_12 l hflag G Z ad mm 0 (-1) 0 hL.1) (Or.inr rfl))) p_Em.id ke_L_call wd_l_L_131 (by decide) hI hX hS rfl hl.1 rfl (Nat.le_of_ble_eq_true rfl) dL_refused_263 (by first | decide | omega | (dsimp only; omega)) (fun H locs hI hS => ?_)
                                    replace hI : p_I G xa Z mm H := hI
                                    refine lv_ldc (v := -2100000001) hx hb hF.2.2.2.1 (hF.2.2.2.2 _ wd_x3) dL_refused_266 ?_
                                    refine lv_icmp_ne (tgt := 422) hx hb dL_refused_268 (by decide) (fun c268 => ?_) (fun c268 => ?_)
                                    · skip
                                      exact absurd rfl c268
                                    · skip
                                      refine lv_aload_n hx hb dL_refused_271 rfl (lv_at hl 2 rfl) ?_
                                      refine lv_bipush (v := 14) hx hb dL_refused_272 (by decide) ?_
                                      refine lv_iconst (v := 5) hx hb dL_refused_274 (by decide) ?_
                                      refine lv_iconst (v := 0) hx hb dL_refused_275 (by decide) ?_
                                      refine lv_iconst (v := 0) hx hb dL_refused_276 (by decide) ?_
                                      refine p_iSXk (mc1 := 3) (ms1 := 18) (fr := 11) (lo := 214) (n := 5) (As := [.ref xa, .int 14, .int 5, .int 0, .int 0]) (rest := []) hF (p_cx (nm := k_n3) (sp := sp_isst mm 5 0 0) (r_isst1 (by decide)) (by decide) ce1 (m_call (fun Z ad h => by rw [← h]; exact m_does_14 l hflag G Z ad mm 5 0 0 hL.1) (Or.inl rfl))) p_Em.id ke_L_call wd_l_L_131 (by decide) hI hX hS rfl hl.1 rfl (Nat.le_of_ble_eq_true rfl) dL_refused_277 (by first | decide | omega | (dsimp only; omega)) (fun H locs hI hS => ?_)
                                      replace hI : p_I G xa Z mm H := hI
                                      refine lv_ldc (v := -2100000001) hx hb hF.2.2.2.1 (hF.2.2.2.2 _ wd_x3) dL_refused_280 ?_
                                      refine lv_icmp_ne (tgt := 422) hx hb dL_refused_282 (by decide) (fun c282 => ?_) (fun c282 => ?_)
                                      · skip
                                        exact absurd rfl c282
                                      · skip
                                        refine lv_aload_n hx hb dL_refused_285 rfl (lv_at hl 2 rfl) ?_
                                        refine lv_bipush (v := 15) hx hb dL_refused_286 (by decide) ?_
                                        refine lv_iconst (v := 5) hx hb dL_refused_288 (by decide) ?_
                                        refine lv_iconst (v := 0) hx hb dL_refused_289 (by decide) ?_
                                        refine lv_iconst (v := 0) hx hb dL_refused_290 (by decide) ?_
                                        refine p_iSXk (mc1 := 1) (ms1 := 6) (fr := 11) (lo := 214) (n := 5) (As := [.ref xa, .int 15, .int 5, .int 0, .int 0]) (rest := []) hF (p_cx (nm := k_n3) (sp := sp_stl mm 5) (r_stl1 (by decide)) (by decide) ce1 (m_call (fun Z ad h => by rw [← h]; exact m_does_15 l hflag G Z ad mm 5 0 0 hL.1) (Or.inl rfl))) p_Em.id ke_L_call wd_l_L_131 (by decide) hI hX hS rfl hl.1 rfl (Nat.le_of_ble_eq_true rfl) dL_refused_291 (by first | decide | omega | (dsimp only; omega)) (fun H locs hI hS => ?_)
                                        replace hI : p_I G xa Z mm H := hI
                                        refine lv_ldc (v := -2100000001) hx hb hF.2.2.2.1 (hF.2.2.2.2 _ wd_x3) dL_refused_294 ?_
                                        refine lv_icmp_ne (tgt := 422) hx hb dL_refused_296 (by decide) (fun c296 => ?_) (fun c296 => ?_)
                                        · skip
                                          exact absurd rfl c296
                                        · skip
                                          refine lv_aload_n hx hb dL_refused_299 rfl (lv_at hl 2 rfl) ?_
                                          refine lv_bipush (v := 16) hx hb dL_refused_300 (by decide) ?_
                                          refine lv_iconst (v := 0) hx hb dL_refused_302 (by decide) ?_
                                          refine lv_iconst (v := 0) hx hb dL_refused_303 (by decide) ?_
                                          refine lv_bipush (v := 17) hx hb dL_refused_304 (by decide) ?_
                                          refine p_iSXk (mc1 := 2) (ms1 := 12) (fr := 11) (lo := 214) (n := 5) (As := [.ref xa, .int 16, .int 0, .int 0, .int 17]) (rest := []) hF (p_cx (nm := k_n3) (sp := sp_drive mm 0 0 17) (r_drive1 (by decide)) (by decide) ce1 (m_call (fun Z ad h => by rw [← h]; exact m_does_16 l hflag G Z ad mm 0 0 17 hL.1) (Or.inl rfl))) p_Em.id ke_L_call wd_l_L_131 (by decide) hI hX hS rfl hl.1 rfl (Nat.le_of_ble_eq_true rfl) dL_refused_306 (by first | decide | omega | (dsimp only; omega)) (fun H locs hI hS => ?_)
                                          replace hI : p_I G xa Z mm H := hI
                                          refine lv_ldc (v := -2100000001) hx hb hF.2.2.2.1 (hF.2.2.2.2 _ wd_x3) dL_refused_309 ?_
                                          refine lv_icmp_ne (tgt := 422) hx hb dL_refused_311 (by decide) (fun c311 => ?_) (fun c311 => ?_)
                                          · skip
                                            exact absurd rfl c311
                                          · skip
                                            refine lv_aload_n hx hb dL_refused_314 rfl (lv_at hl 2 rfl) ?_
                                            refine lv_bipush (v := 16) hx hb dL_refused_315 (by decide) ?_
                                            refine lv_iconst (v := (-1)) hx hb dL_refused_317 (by decide) ?_
                                            refine lv_iconst (v := 0) hx hb dL_refused_318 (by decide) ?_
                                            refine lv_iconst (v := 0) hx hb dL_refused_319 (by decide) ?_
                                            refine p_iSXk (mc1 := 2) (ms1 := 12) (fr := 11) (lo := 214) (n := 5) (As := [.ref xa, .int 16, .int (-1), .int 0, .int 0]) (rest := []) hF (p_cx (nm := k_n3) (sp := sp_drive mm (-1) 0 0) (r_drive1 (by decide)) (by decide) ce1 (m_call (fun Z ad h => by rw [← h]; exact m_does_16 l hflag G Z ad mm (-1) 0 0 hL.1) (Or.inl rfl))) p_Em.id ke_L_call wd_l_L_131 (by decide) hI hX hS rfl hl.1 rfl (Nat.le_of_ble_eq_true rfl) dL_refused_320 (by first | decide | omega | (dsimp only; omega)) (fun H locs hI hS => ?_)
                                            replace hI : p_I G xa Z mm H := hI
                                            refine lv_ldc (v := -2100000001) hx hb hF.2.2.2.1 (hF.2.2.2.2 _ wd_x3) dL_refused_323 ?_
                                            refine lv_icmp_ne (tgt := 422) hx hb dL_refused_325 (by decide) (fun c325 => ?_) (fun c325 => ?_)
                                            · skip
                                              exact absurd rfl c325
                                            · skip
                                              refine lv_aload_n hx hb dL_refused_328 rfl (lv_at hl 2 rfl) ?_
                                              refine lv_bipush (v := 17) hx hb dL_refused_329 (by decide) ?_
                                              refine lv_iconst (v := (-1)) hx hb dL_refused_331 (by decide) ?_
                                              refine lv_iconst (v := 0) hx hb dL_refused_332 (by decide) ?_
                                              refine lv_iconst (v := 0) hx hb dL_refused_333 (by decide) ?_
                                              refine p_iSXk (mc1 := 4) (ms1 := 19) (fr := 11) (lo := 214) (n := 5) (As := [.ref xa, .int 17, .int (-1), .int 0, .int 0]) (rest := []) hF (p_cx (nm := k_n3) (sp := sp_see mm (-1) 0 (0 / 128 - 2) ((0 - 0 / 128 * 128) - 8)) (r_see1 (fun q => absurd q.1 (by decide))) (by decide) ce1 (m_call (fun Z ad h => by rw [← h]; exact m_does_17 l hflag G Z ad mm (-1) 0 0 hL.1 hK1) (Or.inl rfl))) p_Em.id ke_L_call wd_l_L_131 (by decide) hI hX hS rfl hl.1 rfl (Nat.le_of_ble_eq_true rfl) dL_refused_334 (by first | decide | omega | (dsimp only; omega)) (fun H locs hI hS => ?_)
                                              replace hI : p_I G xa Z mm H := hI
                                              refine lv_ldc (v := -2100000001) hx hb hF.2.2.2.1 (hF.2.2.2.2 _ wd_x3) dL_refused_337 ?_
                                              refine lv_icmp_ne (tgt := 422) hx hb dL_refused_339 (by decide) (fun c339 => ?_) (fun c339 => ?_)
                                              · skip
                                                exact absurd rfl c339
                                              · skip
                                                refine lv_aload_n hx hb dL_refused_342 rfl (lv_at hl 2 rfl) ?_
                                                refine lv_bipush (v := 17) hx hb dL_refused_343 (by decide) ?_
                                                refine lv_iconst (v := 0) hx hb dL_refused_345 (by decide) ?_
                                                refine lv_aload_n hx hb dL_refused_346 rfl (lv_at hl 2 rfl) ?_
                                                refine p_iVk (fr := 1) (lo := 20) (mc1 := 0) (ms1 := 0) (n := 0) (As := []) (rest := [.int 0, .int 17, .ref xa]) hF (pv_ways l G xa mm) p_Em.id ke_X4_ways wd_l_L_108 (by decide) hI hX hS rfl hl.1 rfl (Nat.le_of_ble_eq_true rfl) dL_refused_347 (by first | decide | omega | (dsimp only; omega)) (fun H locs hI hS => ?_)
                                                replace hI : p_I G xa Z mm H := hI
                                                refine lv_iconst (v := 0) hx hb dL_refused_350 (by decide) ?_
                                                refine p_iSXk (mc1 := 4) (ms1 := 19) (fr := 11) (lo := 214) (n := 5) (As := [.ref xa, .int 17, .int 0, .int (mm 1 0), .int 0]) (rest := []) hF (p_cx (nm := k_n3) (sp := sp_see mm 0 (mm 1 0) (0 / 128 - 2) ((0 - 0 / 128 * 128) - 8)) (r_see1 (fun q => no_ww q.2)) (by decide) ce1 (m_call (fun Z ad h => by rw [← h]; exact m_does_17 l hflag G Z ad mm 0 (mm 1 0) 0 hL.1 hK1) (Or.inl rfl))) p_Em.id ke_L_call wd_l_L_131 (by decide) hI hX hS rfl hl.1 rfl (Nat.le_of_ble_eq_true rfl) dL_refused_351 (by first | decide | omega | (dsimp only; omega)) (fun H locs hI hS => ?_)
                                                replace hI : p_I G xa Z mm H := hI
                                                refine lv_ldc (v := -2100000001) hx hb hF.2.2.2.1 (hF.2.2.2.2 _ wd_x3) dL_refused_354 ?_
                                                refine lv_icmp_ne (tgt := 422) hx hb dL_refused_356 (by decide) (fun c356 => ?_) (fun c356 => ?_)
                                                · skip
                                                  exact absurd rfl c356
                                                · skip
                                                  refine lv_aload_n hx hb dL_refused_359 rfl (lv_at hl 2 rfl) ?_
                                                  refine lv_bipush (v := 18) hx hb dL_refused_360 (by decide) ?_
                                                  refine lv_iconst (v := (-1)) hx hb dL_refused_362 (by decide) ?_
                                                  refine lv_iconst (v := 0) hx hb dL_refused_363 (by decide) ?_
                                                  refine lv_iconst (v := 0) hx hb dL_refused_364 (by decide) ?_
                                                  refine p_iSXk (mc1 := 1) (ms1 := 6) (fr := 11) (lo := 214) (n := 5) (As := [.ref xa, .int 18, .int (-1), .int 0, .int 0]) (rest := []) hF (p_cx (nm := k_n3) (sp := sp_sgt mm (-1)) (r_sgt1 (no_wy rfl)) (by decide) ce1 (m_call (fun Z ad h => by rw [← h]; exact m_does_18 l hflag G Z ad mm (-1) 0 0 hL.1) (Or.inl rfl))) p_Em.id ke_L_call wd_l_L_131 (by decide) hI hX hS rfl hl.1 rfl (Nat.le_of_ble_eq_true rfl) dL_refused_365 (by first | decide | omega | (dsimp only; omega)) (fun H locs hI hS => ?_)
                                                  replace hI : p_I G xa Z mm H := hI
                                                  refine lv_ldc (v := -2100000001) hx hb hF.2.2.2.1 (hF.2.2.2.2 _ wd_x3) dL_refused_368 ?_
                                                  refine lv_icmp_ne (tgt := 422) hx hb dL_refused_370 (by decide) (fun c370 => ?_) (fun c370 => ?_)
                                                  · skip
                                                    exact absurd rfl c370
                                                  · skip
                                                    refine lv_aload_n hx hb dL_refused_373 rfl (lv_at hl 2 rfl) ?_
                                                    refine lv_bipush (v := 19) hx hb dL_refused_374 (by decide) ?_
                                                    refine lv_aload_n hx hb dL_refused_376 rfl (lv_at hl 2 rfl) ?_
                                                    refine p_iVk (fr := 1) (lo := 20) (mc1 := 0) (ms1 := 0) (n := 0) (As := []) (rest := [.int 19, .ref xa]) hF (pv_ways l G xa mm) p_Em.id ke_X4_ways wd_l_L_108 (by decide) hI hX hS rfl hl.1 rfl (Nat.le_of_ble_eq_true rfl) dL_refused_377 (by first | decide | omega | (dsimp only; omega)) (fun H locs hI hS => ?_)
                                                    replace hI : p_I G xa Z mm H := hI
                                                    refine lv_iconst (v := 0) hx hb dL_refused_380 (by decide) ?_
                                                    refine lv_iconst (v := 0) hx hb dL_refused_381 (by decide) ?_
                                                    refine p_iSXk (mc1 := 1) (ms1 := 6) (fr := 11) (lo := 214) (n := 5) (As := [.ref xa, .int 19, .int (mm 1 0), .int 0, .int 0]) (rest := []) hF (p_cx (nm := k_n3) (sp := sp_dear mm (mm 1 0)) (r_dear1 no_ww) (by decide) ce1 (m_call (fun Z ad h => by rw [← h]; exact m_does_19 l hflag G Z ad mm (mm 1 0) 0 0 hL.1) (Or.inl rfl))) p_Em.id ke_L_call wd_l_L_131 (by decide) hI hX hS rfl hl.1 rfl (Nat.le_of_ble_eq_true rfl) dL_refused_382 (by first | decide | omega | (dsimp only; omega)) (fun H locs hI hS => ?_)
                                                    replace hI : p_I G xa Z mm H := hI
                                                    refine lv_ldc (v := -2100000001) hx hb hF.2.2.2.1 (hF.2.2.2.2 _ wd_x3) dL_refused_385 ?_
                                                    refine lv_icmp_ne (tgt := 422) hx hb dL_refused_387 (by decide) (fun c387 => ?_) (fun c387 => ?_)
                                                    · skip
                                                      exact absurd rfl c387
                                                    · skip
                                                      refine lv_aload_n hx hb dL_refused_390 rfl (lv_at hl 2 rfl) ?_
                                                      refine lv_bipush (v := 20) hx hb dL_refused_391 (by decide) ?_
                                                      refine lv_iconst (v := (-1)) hx hb dL_refused_393 (by decide) ?_
                                                      refine lv_iconst (v := 0) hx hb dL_refused_394 (by decide) ?_
                                                      refine lv_iconst (v := 0) hx hb dL_refused_395 (by decide) ?_
                                                      refine p_iSXk (mc1 := 1) (ms1 := 6) (fr := 11) (lo := 214) (n := 5) (As := [.ref xa, .int 20, .int (-1), .int 0, .int 0]) (rest := []) hF (p_cx (nm := k_n3) (sp := sp_tar mm (-1)) (r_tar1 (by decide)) (by decide) ce1 (m_call (fun Z ad h => by rw [← h]; exact m_does_20 l hflag G Z ad mm (-1) 0 0 hL.1) (Or.inl rfl))) p_Em.id ke_L_call wd_l_L_131 (by decide) hI hX hS rfl hl.1 rfl (Nat.le_of_ble_eq_true rfl) dL_refused_396 (by first | decide | omega | (dsimp only; omega)) (fun H locs hI hS => ?_)
                                                      replace hI : p_I G xa Z mm H := hI
                                                      refine lv_ldc (v := -2100000001) hx hb hF.2.2.2.1 (hF.2.2.2.2 _ wd_x3) dL_refused_399 ?_
                                                      refine lv_icmp_ne (tgt := 422) hx hb dL_refused_401 (by decide) (fun c401 => ?_) (fun c401 => ?_)
                                                      · skip
                                                        exact absurd rfl c401
                                                      · skip
                                                        refine lv_aload_n hx hb dL_refused_404 rfl (lv_at hl 2 rfl) ?_
                                                        refine lv_bipush (v := 21) hx hb dL_refused_405 (by decide) ?_
                                                        refine lv_iconst (v := (-1)) hx hb dL_refused_407 (by decide) ?_
                                                        refine lv_iconst (v := 0) hx hb dL_refused_408 (by decide) ?_
                                                        refine lv_iconst (v := 0) hx hb dL_refused_409 (by decide) ?_
                                                        refine p_iSXk (mc1 := 3) (ms1 := 18) (fr := 11) (lo := 214) (n := 5) (As := [.ref xa, .int 21, .int (-1), .int 0, .int 0]) (rest := []) hF (p_cx (nm := k_n2) (sp := sp_snd mm (-1)) (r_snd1 (by decide)) (by decide) cf1 (m_call (fun Z ad h => by rw [← h]; exact m_does_21 l hflag G Z ad mm (-1) 0 0 hL.1) (Or.inr rfl))) p_Em.id ke_L_call wd_l_L_131 (by decide) hI hX hS rfl hl.1 rfl (Nat.le_of_ble_eq_true rfl) dL_refused_410 (by first | decide | omega | (dsimp only; omega)) (fun H locs hI hS => ?_)
                                                        replace hI : p_I G xa Z mm H := hI
                                                        refine lv_ldc (v := -2100000001) hx hb hF.2.2.2.1 (hF.2.2.2.2 _ wd_x3) dL_refused_413 ?_
                                                        refine lv_icmp_ne (tgt := 422) hx hb dL_refused_415 (by decide) (fun c415 => ?_) (fun c415 => ?_)
                                                        · skip
                                                          exact absurd rfl c415
                                                        · skip
                                                          refine lv_iconst (v := 1) hx hb dL_refused_418 (by decide) ?_
                                                          refine lv_goto (tgt := 423) hx hb dL_refused_419 (by decide) ?_
                                                          refine lv_istore_n (lv' := [(3, .int 1), (1, .long (al mm)), (0, .ref xa)]) hx hb dL_refused_423 rfl hl (by decide) rfl (fun ls hl => ?_)
                                                          refine lv_iload_n hx hb dL_refused_424 rfl (lv_at hl 0 rfl) ?_
                                                          refine lv_if_eq (tgt := 501) hx hb dL_refused_425 (by decide) (fun c425 => ?_) (fun c425 => ?_)
                                                          · skip
                                                            exact absurd c425 (by decide)
                                                          · skip
                                                            refine lv_aload_n hx hb dL_refused_428 rfl (lv_at hl 2 rfl) ?_
                                                            refine p_lSk (mc1 := 460) (ms1 := 2760) (fr := 12) (lo := 240) (n := 1) (As := [.ref xa]) (rest := []) hF (m_all l hflag G xa mm hL) p_Em.id ke_L_all wd_l_L_151 (by decide) hI hX hS rfl hl.1 rfl (Nat.le_of_ble_eq_true rfl) dL_refused_429 (by first | decide | omega | (dsimp only; omega)) (fun H locs hI hS => ?_)
                                                            replace hI : p_I G xa Z mm H := hI
                                                            refine lv_lload_n hx hb dL_refused_432 rfl (lv_at hl 1 rfl) ?_
                                                            refine W.lcmp hx hb dL_refused_433 ?_
                                                            refine bo_to (v := 0) (by simp [lg_cmp]) ?_
                                                            refine lv_if_ne (tgt := 501) hx hb dL_refused_434 (by decide) (fun c434 => ?_) (fun c434 => ?_)
                                                            · skip
                                                              exact absurd rfl c434
                                                            · skip
                                                              refine lv_aload_n hx hb dL_refused_437 rfl (lv_at hl 2 rfl) ?_
                                                              refine p_iVk (fr := 1) (lo := 20) (mc1 := 0) (ms1 := 0) (n := 0) (As := []) (rest := []) hF (pv_ways l G xa mm) p_Em.id ke_X4_ways wd_l_L_108 (by decide) hI hX hS rfl hl.1 rfl (Nat.le_of_ble_eq_true rfl) dL_refused_438 (by first | decide | omega | (dsimp only; omega)) (fun H locs hI hS => ?_)
                                                              replace hI : p_I G xa Z mm H := hI
                                                              refine lv_if_eq (tgt := 497) hx hb dL_refused_441 (by decide) (fun c441 => ?_) (fun c441 => ?_)
                                                              · skip
                                                                refine lv_iconst (v := 1) hx hb dL_refused_497 (by decide) ?_
                                                                refine lv_goto (tgt := 502) hx hb dL_refused_498 (by decide) ?_
                                                                exact p_zret hx hb hr hlk hI hS (by first | decide | omega | (dsimp only; omega)) (by first | decide | omega | (dsimp only; omega)) (by decide) (⟨rfl, rfl⟩) dL_refused_502
                                                              · skip
                                                                have hwy : sp_wy mm 0 := ⟨by decide, by
                                                                  have h40 := hL.1.W40
                                                                  rw [hL.1.W] at c441 ⊢
                                                                  have h0 : ¬ sp_W mm = 0 := fun q => c441 (by rw [q]; rfl)
                                                                  exact nI_lt (a := 0) (by omega) (by omega)⟩
                                                                refine lv_aload_n hx hb dL_refused_444 rfl (lv_at hl 2 rfl) ?_
                                                                refine lv_iconst (v := 4) hx hb dL_refused_445 (by decide) ?_
                                                                refine lv_iconst (v := 0) hx hb dL_refused_446 (by decide) ?_
                                                                refine lv_bipush (v := 101) hx hb dL_refused_447 (by decide) ?_
                                                                refine lv_iconst (v := 0) hx hb dL_refused_449 (by decide) ?_
                                                                refine p_iSXk (mc1 := 2) (ms1 := 12) (fr := 11) (lo := 214) (n := 5) (As := [.ref xa, .int 4, .int 0, .int 101, .int 0]) (rest := []) hF (p_cx (nm := k_n3) (sp := sp_guard mm 0 101) (r_guard2 hwy (by decide)) (by decide) ce2 (m_call (fun Z ad h => by rw [← h]; exact m_does_4 l hflag G Z ad mm 0 101 0 hL.1) (Or.inl rfl))) p_Em.id ke_L_call wd_l_L_131 (by decide) hI hX hS rfl hl.1 rfl (Nat.le_of_ble_eq_true rfl) dL_refused_450 (by first | decide | omega | (dsimp only; omega)) (fun H locs hI hS => ?_)
                                                                replace hI : p_I G xa Z mm H := hI
                                                                refine lv_ldc (v := -2100000002) hx hb hF.2.2.2.1 (hF.2.2.2.2 _ wd_x4) dL_refused_453 ?_
                                                                refine lv_icmp_ne (tgt := 501) hx hb dL_refused_455 (by decide) (fun c455 => ?_) (fun c455 => ?_)
                                                                · skip
                                                                  exact absurd rfl c455
                                                                · skip
                                                                  refine lv_aload_n hx hb dL_refused_458 rfl (lv_at hl 2 rfl) ?_
                                                                  refine lv_iconst (v := 1) hx hb dL_refused_459 (by decide) ?_
                                                                  refine lv_iconst (v := 0) hx hb dL_refused_460 (by decide) ?_
                                                                  refine lv_iconst (v := 0) hx hb dL_refused_461 (by decide) ?_
                                                                  refine lv_bipush (v := 98) hx hb dL_refused_462 (by decide) ?_
                                                                  refine p_iSXk (mc1 := 4) (ms1 := 19) (fr := 11) (lo := 214) (n := 5) (As := [.ref xa, .int 1, .int 0, .int 0, .int 98]) (rest := []) hF (p_cx (nm := k_n3) (sp := sp_edit mm 0 0 (98 / 16 - 2) ((98 - 98 / 16 * 16) - 2)) (r_edit2 ⟨by decide, hwy⟩ (by decide)) (by decide) ce2 (m_call (fun Z ad h => by rw [← h]; exact m_does_1 l hflag G Z ad mm 0 0 98 hL.1 hK1) (Or.inl rfl))) p_Em.id ke_L_call wd_l_L_131 (by decide) hI hX hS rfl hl.1 rfl (Nat.le_of_ble_eq_true rfl) dL_refused_464 (by first | decide | omega | (dsimp only; omega)) (fun H locs hI hS => ?_)
                                                                  replace hI : p_I G xa Z mm H := hI
                                                                  refine lv_ldc (v := -2100000002) hx hb hF.2.2.2.1 (hF.2.2.2.2 _ wd_x4) dL_refused_467 ?_
                                                                  refine lv_icmp_ne (tgt := 501) hx hb dL_refused_469 (by decide) (fun c469 => ?_) (fun c469 => ?_)
                                                                  · skip
                                                                    exact absurd rfl c469
                                                                  · skip
                                                                    refine lv_aload_n hx hb dL_refused_472 rfl (lv_at hl 2 rfl) ?_
                                                                    refine lv_bipush (v := 17) hx hb dL_refused_473 (by decide) ?_
                                                                    refine lv_iconst (v := 0) hx hb dL_refused_475 (by decide) ?_
                                                                    refine lv_iconst (v := 0) hx hb dL_refused_476 (by decide) ?_
                                                                    refine lv_sipush (v := 648) hx hb dL_refused_477 (by decide) ?_
                                                                    refine p_iSXk (mc1 := 4) (ms1 := 19) (fr := 11) (lo := 214) (n := 5) (As := [.ref xa, .int 17, .int 0, .int 0, .int 648]) (rest := []) hF (p_cx (nm := k_n3) (sp := sp_see mm 0 0 (648 / 128 - 2) ((648 - 648 / 128 * 128) - 8)) (r_see2 ⟨by decide, hwy⟩ (by decide)) (by decide) ce2 (m_call (fun Z ad h => by rw [← h]; exact m_does_17 l hflag G Z ad mm 0 0 648 hL.1 hK1) (Or.inl rfl))) p_Em.id ke_L_call wd_l_L_131 (by decide) hI hX hS rfl hl.1 rfl (Nat.le_of_ble_eq_true rfl) dL_refused_480 (by first | decide | omega | (dsimp only; omega)) (fun H locs hI hS => ?_)
                                                                    replace hI : p_I G xa Z mm H := hI
                                                                    refine lv_ldc (v := -2100000002) hx hb hF.2.2.2.1 (hF.2.2.2.2 _ wd_x4) dL_refused_483 ?_
                                                                    refine lv_icmp_ne (tgt := 501) hx hb dL_refused_485 (by decide) (fun c485 => ?_) (fun c485 => ?_)
                                                                    · skip
                                                                      exact absurd rfl c485
                                                                    · skip
                                                                      refine lv_aload_n hx hb dL_refused_488 rfl (lv_at hl 2 rfl) ?_
                                                                      refine p_lSk (mc1 := 460) (ms1 := 2760) (fr := 12) (lo := 240) (n := 1) (As := [.ref xa]) (rest := []) hF (m_all l hflag G xa mm hL) p_Em.id ke_L_all wd_l_L_151 (by decide) hI hX hS rfl hl.1 rfl (Nat.le_of_ble_eq_true rfl) dL_refused_489 (by first | decide | omega | (dsimp only; omega)) (fun H locs hI hS => ?_)
                                                                      replace hI : p_I G xa Z mm H := hI
                                                                      refine lv_lload_n hx hb dL_refused_492 rfl (lv_at hl 1 rfl) ?_
                                                                      refine W.lcmp hx hb dL_refused_493 ?_
                                                                      refine bo_to (v := 0) (by simp [lg_cmp]) ?_
                                                                      refine lv_if_ne (tgt := 501) hx hb dL_refused_494 (by decide) (fun c494 => ?_) (fun c494 => ?_)
                                                                      · skip
                                                                        exact absurd rfl c494
                                                                      · skip
                                                                        refine lv_iconst (v := 1) hx hb dL_refused_497 (by decide) ?_
                                                                        refine lv_goto (tgt := 502) hx hb dL_refused_498 (by decide) ?_
                                                                        exact p_zret hx hb hr hlk hI hS (by first | decide | omega | (dsimp only; omega)) (by first | decide | omega | (dsimp only; omega)) (by decide) (⟨rfl, rfl⟩) dL_refused_502
theorem ke_L_refused : wl_S yL_refused cL_refused 4 (some .boolean) 1 := ⟨wd_c_L_refused, wd_t_L_refused, wd_n_L, by decide, by decide +kernel⟩
