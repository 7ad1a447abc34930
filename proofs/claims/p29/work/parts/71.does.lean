/-! ===== the law's switch over the class's calls ===== -/
section
variable {mm : q_Mem} {x1 x2 x3 x4 : Int32}
theorem bx_edit : (sp_edit mm x1 x2 x3 x4).1 = 0 ∨ (sp_edit mm x1 x2 x3 x4).1 = 1 := by
  unfold sp_edit sp_edit0
  split
  · split
    · split
      · exact Or.inl rfl
      · split
        · exact Or.inr rfl
        · exact Or.inl rfl
    · exact Or.inl rfl
  · exact Or.inl rfl
theorem bx_isStale : (sp_isst mm x1 x2 x3).1 = 0 ∨ (sp_isst mm x1 x2 x3).1 = 1 := by
  unfold sp_isst
  split
  · dsimp only
    split
    · exact Or.inr rfl
    · exact Or.inl rfl
  · exact Or.inl rfl
theorem bx_see : (sp_see mm x1 x2 x3 x4).1 = 0 ∨ (sp_see mm x1 x2 x3 x4).1 = 1 := by
  unfold sp_see sp_see0
  split
  · split
    · split
      · split
        · exact Or.inr rfl
        · exact Or.inl rfl
      · exact Or.inl rfl
    · exact Or.inl rfl
  · exact Or.inl rfl
end
theorem ke_L_does : wl_S yL_does cL_does 5 (some .int) 5 := ⟨wd_c_L_does, wd_t_L_does, wd_n_L, by decide, by decide +kernel⟩
theorem dL_does_0 : decode cL_does 0 = .ok (.iload_n 1, 1) := by decide +kernel
theorem dL_does_1 : decode cL_does 1 = .ok (.tableswitch 355 0 21 #[103, 138, 167, 185, 192, 199, 205, 211, 218, 225, 231, 240, 249, 258, 267, 284, 290, 299, 331, 337, 343, 349], 103) := by decide +kernel
theorem dL_does_104 : decode cL_does 104 = .ok (.aload_n 0, 1) := by decide +kernel
theorem dL_does_105 : decode cL_does 105 = .ok (.iload_n 2, 1) := by decide +kernel
theorem dL_does_106 : decode cL_does 106 = .ok (.iload_n 3, 1) := by decide +kernel
theorem dL_does_107 : decode cL_does 107 = .ok (.bipush 32, 2) := by decide +kernel
theorem dL_does_109 : decode cL_does 109 = .ok (.idiv, 1) := by decide +kernel
theorem dL_does_110 : decode cL_does 110 = .ok (.bipush 8, 2) := by decide +kernel
theorem dL_does_112 : decode cL_does 112 = .ok (.isub, 1) := by decide +kernel
theorem dL_does_113 : decode cL_does 113 = .ok (.iload_n 3, 1) := by decide +kernel
theorem dL_does_114 : decode cL_does 114 = .ok (.bipush 32, 2) := by decide +kernel
theorem dL_does_116 : decode cL_does 116 = .ok (.irem, 1) := by decide +kernel
theorem dL_does_117 : decode cL_does 117 = .ok (.bipush 8, 2) := by decide +kernel
theorem dL_does_119 : decode cL_does 119 = .ok (.isub, 1) := by decide +kernel
theorem dL_does_120 : decode cL_does 120 = .ok (.iload 4, 2) := by decide +kernel
theorem dL_does_122 : decode cL_does 122 = .ok (.bipush 16, 2) := by decide +kernel
theorem dL_does_124 : decode cL_does 124 = .ok (.idiv, 1) := by decide +kernel
theorem dL_does_125 : decode cL_does 125 = .ok (.bipush 40, 2) := by decide +kernel
theorem dL_does_127 : decode cL_does 127 = .ok (.isub, 1) := by decide +kernel
theorem dL_does_128 : decode cL_does 128 = .ok (.iload 4, 2) := by decide +kernel
theorem dL_does_130 : decode cL_does 130 = .ok (.bipush 16, 2) := by decide +kernel
theorem dL_does_132 : decode cL_does 132 = .ok (.irem, 1) := by decide +kernel
theorem dL_does_133 : decode cL_does 133 = .ok (.iconst 2, 1) := by decide +kernel
theorem dL_does_134 : decode cL_does 134 = .ok (.isub, 1) := by decide +kernel
theorem dL_does_135 : decode cL_does 135 = .ok (.invokevirtual 24, 3) := by decide +kernel
theorem dL_does_138 : decode cL_does 138 = .ok (.ireturn, 1) := by decide +kernel
theorem dL_does_139 : decode cL_does 139 = .ok (.aload_n 0, 1) := by decide +kernel
theorem dL_does_140 : decode cL_does 140 = .ok (.iload_n 2, 1) := by decide +kernel
theorem dL_does_141 : decode cL_does 141 = .ok (.iload_n 3, 1) := by decide +kernel
theorem dL_does_142 : decode cL_does 142 = .ok (.iload 4, 2) := by decide +kernel
theorem dL_does_144 : decode cL_does 144 = .ok (.bipush 16, 2) := by decide +kernel
theorem dL_does_146 : decode cL_does 146 = .ok (.idiv, 1) := by decide +kernel
theorem dL_does_147 : decode cL_does 147 = .ok (.iconst 2, 1) := by decide +kernel
theorem dL_does_148 : decode cL_does 148 = .ok (.isub, 1) := by decide +kernel
theorem dL_does_149 : decode cL_does 149 = .ok (.iload 4, 2) := by decide +kernel
theorem dL_does_151 : decode cL_does 151 = .ok (.bipush 16, 2) := by decide +kernel
theorem dL_does_153 : decode cL_does 153 = .ok (.irem, 1) := by decide +kernel
theorem dL_does_154 : decode cL_does 154 = .ok (.iconst 2, 1) := by decide +kernel
theorem dL_does_155 : decode cL_does 155 = .ok (.isub, 1) := by decide +kernel
theorem dL_does_156 : decode cL_does 156 = .ok (.invokevirtual 30, 3) := by decide +kernel
theorem dL_does_159 : decode cL_does 159 = .ok (.ifCond .eq 7, 3) := by decide +kernel
theorem dL_does_162 : decode cL_does 162 = .ok (.iconst 1, 1) := by decide +kernel
theorem dL_does_163 : decode cL_does 163 = .ok (.goto 4, 3) := by decide +kernel
theorem dL_does_166 : decode cL_does 166 = .ok (.iconst 0, 1) := by decide +kernel
theorem dL_does_167 : decode cL_does 167 = .ok (.ireturn, 1) := by decide +kernel
theorem dL_does_168 : decode cL_does 168 = .ok (.aload_n 0, 1) := by decide +kernel
theorem dL_does_169 : decode cL_does 169 = .ok (.iload_n 2, 1) := by decide +kernel
theorem dL_does_170 : decode cL_does 170 = .ok (.iload_n 3, 1) := by decide +kernel
theorem dL_does_171 : decode cL_does 171 = .ok (.iload 4, 2) := by decide +kernel
theorem dL_does_173 : decode cL_does 173 = .ok (.iconst 1, 1) := by decide +kernel
theorem dL_does_174 : decode cL_does 174 = .ok (.if_icmp .ne 7, 3) := by decide +kernel
theorem dL_does_177 : decode cL_does 177 = .ok (.iconst 1, 1) := by decide +kernel
theorem dL_does_178 : decode cL_does 178 = .ok (.goto 4, 3) := by decide +kernel
theorem dL_does_181 : decode cL_does 181 = .ok (.iconst 0, 1) := by decide +kernel
theorem dL_does_182 : decode cL_does 182 = .ok (.invokevirtual 34, 3) := by decide +kernel
theorem dL_does_185 : decode cL_does 185 = .ok (.ireturn, 1) := by decide +kernel
theorem dL_does_186 : decode cL_does 186 = .ok (.aload_n 0, 1) := by decide +kernel
theorem dL_does_187 : decode cL_does 187 = .ok (.iload_n 2, 1) := by decide +kernel
theorem dL_does_188 : decode cL_does 188 = .ok (.iload_n 3, 1) := by decide +kernel
theorem dL_does_189 : decode cL_does 189 = .ok (.invokevirtual 38, 3) := by decide +kernel
theorem dL_does_192 : decode cL_does 192 = .ok (.ireturn, 1) := by decide +kernel
theorem dL_does_193 : decode cL_does 193 = .ok (.aload_n 0, 1) := by decide +kernel
theorem dL_does_194 : decode cL_does 194 = .ok (.iload_n 2, 1) := by decide +kernel
theorem dL_does_195 : decode cL_does 195 = .ok (.iload_n 3, 1) := by decide +kernel
theorem dL_does_196 : decode cL_does 196 = .ok (.invokevirtual 42, 3) := by decide +kernel
theorem dL_does_199 : decode cL_does 199 = .ok (.ireturn, 1) := by decide +kernel
theorem dL_does_200 : decode cL_does 200 = .ok (.aload_n 0, 1) := by decide +kernel
theorem dL_does_201 : decode cL_does 201 = .ok (.iload_n 2, 1) := by decide +kernel
theorem dL_does_202 : decode cL_does 202 = .ok (.invokevirtual 45, 3) := by decide +kernel
theorem dL_does_205 : decode cL_does 205 = .ok (.ireturn, 1) := by decide +kernel
theorem dL_does_226 : decode cL_does 226 = .ok (.aload_n 0, 1) := by decide +kernel
theorem dL_does_227 : decode cL_does 227 = .ok (.iload_n 2, 1) := by decide +kernel
theorem dL_does_228 : decode cL_does 228 = .ok (.invokevirtual 58, 3) := by decide +kernel
theorem dL_does_231 : decode cL_does 231 = .ok (.ireturn, 1) := by decide +kernel
theorem dL_does_232 : decode cL_does 232 = .ok (.aload_n 0, 1) := by decide +kernel
theorem dL_does_233 : decode cL_does 233 = .ok (.iload_n 2, 1) := by decide +kernel
theorem dL_does_234 : decode cL_does 234 = .ok (.iload_n 3, 1) := by decide +kernel
theorem dL_does_235 : decode cL_does 235 = .ok (.iload 4, 2) := by decide +kernel
theorem dL_does_237 : decode cL_does 237 = .ok (.invokevirtual 61, 3) := by decide +kernel
theorem dL_does_240 : decode cL_does 240 = .ok (.ireturn, 1) := by decide +kernel
theorem dL_does_241 : decode cL_does 241 = .ok (.aload_n 0, 1) := by decide +kernel
theorem dL_does_242 : decode cL_does 242 = .ok (.iload_n 2, 1) := by decide +kernel
theorem dL_does_243 : decode cL_does 243 = .ok (.iload_n 3, 1) := by decide +kernel
theorem dL_does_244 : decode cL_does 244 = .ok (.iload 4, 2) := by decide +kernel
theorem dL_does_246 : decode cL_does 246 = .ok (.invokevirtual 65, 3) := by decide +kernel
theorem dL_does_249 : decode cL_does 249 = .ok (.ireturn, 1) := by decide +kernel
theorem dL_does_250 : decode cL_does 250 = .ok (.aload_n 0, 1) := by decide +kernel
theorem dL_does_251 : decode cL_does 251 = .ok (.iload_n 2, 1) := by decide +kernel
theorem dL_does_252 : decode cL_does 252 = .ok (.iload_n 3, 1) := by decide +kernel
theorem dL_does_253 : decode cL_does 253 = .ok (.iload 4, 2) := by decide +kernel
theorem dL_does_255 : decode cL_does 255 = .ok (.invokevirtual 68, 3) := by decide +kernel
theorem dL_does_258 : decode cL_does 258 = .ok (.ireturn, 1) := by decide +kernel
theorem dL_does_268 : decode cL_does 268 = .ok (.aload_n 0, 1) := by decide +kernel
theorem dL_does_269 : decode cL_does 269 = .ok (.iload_n 2, 1) := by decide +kernel
theorem dL_does_270 : decode cL_does 270 = .ok (.iload_n 3, 1) := by decide +kernel
theorem dL_does_271 : decode cL_does 271 = .ok (.iload 4, 2) := by decide +kernel
theorem dL_does_273 : decode cL_does 273 = .ok (.invokevirtual 74, 3) := by decide +kernel
theorem dL_does_276 : decode cL_does 276 = .ok (.ifCond .eq 7, 3) := by decide +kernel
theorem dL_does_279 : decode cL_does 279 = .ok (.iconst 1, 1) := by decide +kernel
theorem dL_does_280 : decode cL_does 280 = .ok (.goto 4, 3) := by decide +kernel
theorem dL_does_283 : decode cL_does 283 = .ok (.iconst 0, 1) := by decide +kernel
theorem dL_does_284 : decode cL_does 284 = .ok (.ireturn, 1) := by decide +kernel
theorem dL_does_285 : decode cL_does 285 = .ok (.aload_n 0, 1) := by decide +kernel
theorem dL_does_286 : decode cL_does 286 = .ok (.iload_n 2, 1) := by decide +kernel
theorem dL_does_287 : decode cL_does 287 = .ok (.invokevirtual 78, 3) := by decide +kernel
theorem dL_does_290 : decode cL_does 290 = .ok (.ireturn, 1) := by decide +kernel
theorem dL_does_291 : decode cL_does 291 = .ok (.aload_n 0, 1) := by decide +kernel
theorem dL_does_292 : decode cL_does 292 = .ok (.iload_n 2, 1) := by decide +kernel
theorem dL_does_293 : decode cL_does 293 = .ok (.iload_n 3, 1) := by decide +kernel
theorem dL_does_294 : decode cL_does 294 = .ok (.iload 4, 2) := by decide +kernel
theorem dL_does_296 : decode cL_does 296 = .ok (.invokevirtual 81, 3) := by decide +kernel
theorem dL_does_299 : decode cL_does 299 = .ok (.ireturn, 1) := by decide +kernel
theorem dL_does_300 : decode cL_does 300 = .ok (.aload_n 0, 1) := by decide +kernel
theorem dL_does_301 : decode cL_does 301 = .ok (.iload_n 2, 1) := by decide +kernel
theorem dL_does_302 : decode cL_does 302 = .ok (.iload_n 3, 1) := by decide +kernel
theorem dL_does_303 : decode cL_does 303 = .ok (.iload 4, 2) := by decide +kernel
theorem dL_does_305 : decode cL_does 305 = .ok (.sipush 128, 3) := by decide +kernel
theorem dL_does_308 : decode cL_does 308 = .ok (.idiv, 1) := by decide +kernel
theorem dL_does_309 : decode cL_does 309 = .ok (.iconst 2, 1) := by decide +kernel
theorem dL_does_310 : decode cL_does 310 = .ok (.isub, 1) := by decide +kernel
theorem dL_does_311 : decode cL_does 311 = .ok (.iload 4, 2) := by decide +kernel
theorem dL_does_313 : decode cL_does 313 = .ok (.sipush 128, 3) := by decide +kernel
theorem dL_does_316 : decode cL_does 316 = .ok (.irem, 1) := by decide +kernel
theorem dL_does_317 : decode cL_does 317 = .ok (.bipush 8, 2) := by decide +kernel
theorem dL_does_319 : decode cL_does 319 = .ok (.isub, 1) := by decide +kernel
theorem dL_does_320 : decode cL_does 320 = .ok (.invokevirtual 84, 3) := by decide +kernel
theorem dL_does_323 : decode cL_does 323 = .ok (.ifCond .eq 7, 3) := by decide +kernel
theorem dL_does_326 : decode cL_does 326 = .ok (.iconst 1, 1) := by decide +kernel
theorem dL_does_327 : decode cL_does 327 = .ok (.goto 4, 3) := by decide +kernel
theorem dL_does_330 : decode cL_does 330 = .ok (.iconst 0, 1) := by decide +kernel
theorem dL_does_331 : decode cL_does 331 = .ok (.ireturn, 1) := by decide +kernel
theorem dL_does_332 : decode cL_does 332 = .ok (.aload_n 0, 1) := by decide +kernel
theorem dL_does_333 : decode cL_does 333 = .ok (.iload_n 2, 1) := by decide +kernel
theorem dL_does_334 : decode cL_does 334 = .ok (.invokevirtual 87, 3) := by decide +kernel
theorem dL_does_337 : decode cL_does 337 = .ok (.ireturn, 1) := by decide +kernel
theorem dL_does_338 : decode cL_does 338 = .ok (.aload_n 0, 1) := by decide +kernel
theorem dL_does_339 : decode cL_does 339 = .ok (.iload_n 2, 1) := by decide +kernel
theorem dL_does_340 : decode cL_does 340 = .ok (.invokevirtual 90, 3) := by decide +kernel
theorem dL_does_343 : decode cL_does 343 = .ok (.ireturn, 1) := by decide +kernel
theorem dL_does_344 : decode cL_does 344 = .ok (.aload_n 0, 1) := by decide +kernel
theorem dL_does_345 : decode cL_does 345 = .ok (.iload_n 2, 1) := by decide +kernel
theorem dL_does_346 : decode cL_does 346 = .ok (.invokevirtual 93, 3) := by decide +kernel
theorem dL_does_349 : decode cL_does 349 = .ok (.ireturn, 1) := by decide +kernel
theorem dL_does_350 : decode cL_does 350 = .ok (.aload_n 0, 1) := by decide +kernel
theorem dL_does_351 : decode cL_does 351 = .ok (.iload_n 2, 1) := by decide +kernel
theorem dL_does_352 : decode cL_does 352 = .ok (.invokevirtual 96, 3) := by decide +kernel
theorem dL_does_355 : decode cL_does 355 = .ok (.ireturn, 1) := by decide +kernel
set_option maxHeartbeats 4000000 in
set_option maxRecDepth 100000 in
theorem m_does_0 (l : Launch) (hflag : l.stackTraces = false) (G : k_G) (Z : Nat → Prop) (ad : k_Ad) (mm : q_Mem) (x1 x2 x3 : Int32) (hI : Inv mm) (hK1 : sp_K mm < 512) : kx_i l yL_does cL_does 5 (some .int) 10 190 9 100 G Z ad (k_C G ad mm) [.ref (ad 0 0), .int 0, .int x1, .int x2, .int x3] (k_po G ad (sp_add mm x1 (x2 / 32 - 8) ((x2 - x2 / 32 * 32) - 8) (x3 / 16 - 40) ((x3 - x3 / 16 * 16) - 2))) (k_px k_n3 (sp_add mm x1 (x2 / 32 - 8) ((x2 - x2 / 32 * 32) - 8) (x3 / 16 - 40) ((x3 - x3 / 16 * 16) - 2)) mm) := by
  refine kx_of (by decide) (Nat.le_of_ble_eq_true rfl) ?_
  intro p e s m args below meth c hx hb hr hF hlk hnt hB ls hl
  obtain ⟨⟨hM, hN⟩, hK, hP, hT⟩ := hB
  have hS : va_S Z s.heap s.heap [] := va_S.rf
  have hl : lv_has ls 5 [(0, .ref (ad 0 0)), (1, .int 0), (2, .int x1), (3, .int x2), (4, .int x3)] := hl
  refine lv_iload_n hx hb dL_does_0 rfl (lv_at hl 1 rfl) ?_
  refine lv_tableIn (off := 103) (tgt := 104) hx hb dL_does_1 (by decide) (by decide) (by decide) (by decide) ?_
  refine lv_aload_n hx hb dL_does_104 rfl (lv_at hl 0 rfl) ?_
  refine lv_iload_n hx hb dL_does_105 rfl (lv_at hl 2 rfl) ?_
  refine lv_iload_n hx hb dL_does_106 rfl (lv_at hl 3 rfl) ?_
  refine lv_bipush (v := 32) hx hb dL_does_107 (by decide) ?_
  refine lv_idiv hx hb dL_does_109 (by decide) ?_
  refine lv_bipush (v := 8) hx hb dL_does_110 (by decide) ?_
  refine lv_isub hx hb dL_does_112 ?_
  refine lv_iload_n hx hb dL_does_113 rfl (lv_at hl 3 rfl) ?_
  refine lv_bipush (v := 32) hx hb dL_does_114 (by decide) ?_
  refine lv_irem hx hb dL_does_116 (by decide) ?_
  refine lv_bipush (v := 8) hx hb dL_does_117 (by decide) ?_
  refine lv_isub hx hb dL_does_119 ?_
  refine lv_iload hx hb dL_does_120 (lv_at hl 4 rfl) ?_
  refine lv_bipush (v := 16) hx hb dL_does_122 (by decide) ?_
  refine lv_idiv hx hb dL_does_124 (by decide) ?_
  refine lv_bipush (v := 40) hx hb dL_does_125 (by decide) ?_
  refine lv_isub hx hb dL_does_127 ?_
  refine lv_iload hx hb dL_does_128 (lv_at hl 4 rfl) ?_
  refine lv_bipush (v := 16) hx hb dL_does_130 (by decide) ?_
  refine lv_irem hx hb dL_does_132 (by decide) ?_
  refine lv_iconst (v := 2) hx hb dL_does_133 (by decide) ?_
  refine lv_isub hx hb dL_does_134 ?_
  refine kx_iV (C := RX4) (fr := 7) (lo := 155) (mc1 := 9) (ms1 := 100) (As := [.int x1, .int ((x2 / 32) - 8), .int ((x2 - x2 / 32 * 32) - 8), .int ((x3 / 16) - 40), .int ((x3 - x3 / 16 * 16) - 2)]) (rest := []) hF (m_X4_addWay l hflag G Z ad mm x1 ((x2 / 32) - 8) ((x2 - x2 / 32 * 32) - 8) ((x3 / 16) - 40) ((x3 - x3 / 16 * 16) - 2) hI hK1) ke_X4_addWay wd_l_L_24 (by decide) hM hN hK hP hT hS (g_recv hK (hM 0 0 _ rfl) rfl) rfl hl.1 rfl (Nat.le_of_ble_eq_true rfl) dL_does_135 (by decide) hnt hlk (fun E hE => ⟨hE, rfl, rfl⟩) (by decide) (by decide) (fun r u H locs hq hM hN hS _ _ => ?_)
  exact kx_iret hx hb hr hlk hM hN hK hS (by decide) (by decide) hq dL_does_138
set_option maxHeartbeats 4000000 in
set_option maxRecDepth 100000 in
theorem m_does_1 (l : Launch) (hflag : l.stackTraces = false) (G : k_G) (Z : Nat → Prop) (ad : k_Ad) (mm : q_Mem) (x1 x2 x3 : Int32) (hI : Inv mm) (hK1 : sp_K mm < 512) : kx_i l yL_does cL_does 5 (some .int) 10 190 4 19 G Z ad (k_C G ad mm) [.ref (ad 0 0), .int 1, .int x1, .int x2, .int x3] (k_po G ad (sp_edit mm x1 x2 (x3 / 16 - 2) ((x3 - x3 / 16 * 16) - 2))) (k_px k_n3 (sp_edit mm x1 x2 (x3 / 16 - 2) ((x3 - x3 / 16 * 16) - 2)) mm) := by
  refine kx_of (by decide) (Nat.le_of_ble_eq_true rfl) ?_
  intro p e s m args below meth c hx hb hr hF hlk hnt hB ls hl
  obtain ⟨⟨hM, hN⟩, hK, hP, hT⟩ := hB
  have hS : va_S Z s.heap s.heap [] := va_S.rf
  have hl : lv_has ls 5 [(0, .ref (ad 0 0)), (1, .int 1), (2, .int x1), (3, .int x2), (4, .int x3)] := hl
  refine lv_iload_n hx hb dL_does_0 rfl (lv_at hl 1 rfl) ?_
  refine lv_tableIn (off := 138) (tgt := 139) hx hb dL_does_1 (by decide) (by decide) (by decide) (by decide) ?_
  refine lv_aload_n hx hb dL_does_139 rfl (lv_at hl 0 rfl) ?_
  refine lv_iload_n hx hb dL_does_140 rfl (lv_at hl 2 rfl) ?_
  refine lv_iload_n hx hb dL_does_141 rfl (lv_at hl 3 rfl) ?_
  refine lv_iload hx hb dL_does_142 (lv_at hl 4 rfl) ?_
  refine lv_bipush (v := 16) hx hb dL_does_144 (by decide) ?_
  refine lv_idiv hx hb dL_does_146 (by decide) ?_
  refine lv_iconst (v := 2) hx hb dL_does_147 (by decide) ?_
  refine lv_isub hx hb dL_does_148 ?_
  refine lv_iload hx hb dL_does_149 (lv_at hl 4 rfl) ?_
  refine lv_bipush (v := 16) hx hb dL_does_151 (by decide) ?_
  refine lv_irem hx hb dL_does_153 (by decide) ?_
  refine lv_iconst (v := 2) hx hb dL_does_154 (by decide) ?_
  refine lv_isub hx hb dL_does_155 ?_
  refine kx_iV (C := RX4) (fr := 7) (lo := 111) (mc1 := 4) (ms1 := 19) (As := [.int x1, .int x2, .int ((x3 / 16) - 2), .int ((x3 - x3 / 16 * 16) - 2)]) (rest := []) hF (m_X4_edit l hflag G Z ad mm x1 x2 ((x3 / 16) - 2) ((x3 - x3 / 16 * 16) - 2) hI hK1) ke_X4_edit wd_l_L_30 (by decide) hM hN hK hP hT hS (g_recv hK (hM 0 0 _ rfl) rfl) rfl hl.1 rfl (Nat.le_of_ble_eq_true rfl) dL_does_156 (by decide) hnt hlk (fun E hE => ⟨hE, rfl, rfl⟩) (by decide) (by decide) (fun r u H locs hq hM hN hS _ _ => ?_)
  refine lv_if_eq (tgt := 166) hx hb dL_does_159 (by decide) (fun cB => ?_) (fun cB => ?_)
  · skip
    refine lv_iconst (v := 0) hx hb dL_does_166 (by decide) ?_
    exact kx_iret hx hb hr hlk hM hN hK hS (by decide) (by decide) (⟨hq.1, cB.symm.trans hq.2.1, hq.2.2⟩) dL_does_167
  · skip
    refine lv_iconst (v := 1) hx hb dL_does_162 (by decide) ?_
    refine lv_goto (tgt := 167) hx hb dL_does_163 (by decide) ?_
    exact kx_iret hx hb hr hlk hM hN hK hS (by decide) (by decide) (⟨hq.1, ((bx_edit).resolve_left (fun z => cB (hq.2.1.trans z))).symm, hq.2.2⟩) dL_does_167
set_option maxHeartbeats 4000000 in
set_option maxRecDepth 100000 in
theorem m_does_2 (l : Launch) (hflag : l.stackTraces = false) (G : k_G) (Z : Nat → Prop) (ad : k_Ad) (mm : q_Mem) (x1 x2 x3 : Int32) (hI : Inv mm) (hK1 : sp_K mm < 512) : kx_i l yL_does cL_does 5 (some .int) 10 190 4 19 G Z ad (k_C G ad mm) [.ref (ad 0 0), .int 2, .int x1, .int x2, .int x3] (k_po G ad (sp_judge mm x1 x2 (x3 = 1))) (k_px k_n2 (sp_judge mm x1 x2 (x3 = 1)) mm) := by
  refine kx_of (by decide) (Nat.le_of_ble_eq_true rfl) ?_
  intro p e s m args below meth c hx hb hr hF hlk hnt hB ls hl
  obtain ⟨⟨hM, hN⟩, hK, hP, hT⟩ := hB
  have hS : va_S Z s.heap s.heap [] := va_S.rf
  have hl : lv_has ls 5 [(0, .ref (ad 0 0)), (1, .int 2), (2, .int x1), (3, .int x2), (4, .int x3)] := hl
  refine lv_iload_n hx hb dL_does_0 rfl (lv_at hl 1 rfl) ?_
  refine lv_tableIn (off := 167) (tgt := 168) hx hb dL_does_1 (by decide) (by decide) (by decide) (by decide) ?_
  refine lv_aload_n hx hb dL_does_168 rfl (lv_at hl 0 rfl) ?_
  refine lv_iload_n hx hb dL_does_169 rfl (lv_at hl 2 rfl) ?_
  refine lv_iload_n hx hb dL_does_170 rfl (lv_at hl 3 rfl) ?_
  refine lv_iload hx hb dL_does_171 (lv_at hl 4 rfl) ?_
  refine lv_iconst (v := 1) hx hb dL_does_173 (by decide) ?_
  refine lv_icmp_ne (tgt := 181) hx hb dL_does_174 (by decide) (fun cJ => ?_) (fun cJ => ?_)
  · skip
    refine lv_iconst (v := 0) hx hb dL_does_181 (by decide) ?_
    refine kx_iV (C := RX4) (fr := 7) (lo := 111) (mc1 := 4) (ms1 := 19) (As := [.int x1, .int x2, .int 0]) (rest := []) hF (m_X4_judge l hflag G Z ad mm x1 x2 0 (x3 = 1) ((if_neg cJ).symm) hI hK1) ke_X4_judge wd_l_L_34 (by decide) hM hN hK hP hT hS (g_recv hK (hM 0 0 _ rfl) rfl) rfl hl.1 rfl (Nat.le_of_ble_eq_true rfl) dL_does_182 (by decide) hnt hlk (fun E hE => ⟨hE, rfl, rfl⟩) (by decide) (by decide) (fun r u H locs hq hM hN hS _ _ => ?_)
    exact kx_iret hx hb hr hlk hM hN hK hS (by decide) (by decide) hq dL_does_185
  · skip
    refine lv_iconst (v := 1) hx hb dL_does_177 (by decide) ?_
    refine lv_goto (tgt := 182) hx hb dL_does_178 (by decide) ?_
    refine kx_iV (C := RX4) (fr := 7) (lo := 111) (mc1 := 4) (ms1 := 19) (As := [.int x1, .int x2, .int 1]) (rest := []) hF (m_X4_judge l hflag G Z ad mm x1 x2 1 (x3 = 1) ((if_pos cJ).symm) hI hK1) ke_X4_judge wd_l_L_34 (by decide) hM hN hK hP hT hS (g_recv hK (hM 0 0 _ rfl) rfl) rfl hl.1 rfl (Nat.le_of_ble_eq_true rfl) dL_does_182 (by decide) hnt hlk (fun E hE => ⟨hE, rfl, rfl⟩) (by decide) (by decide) (fun r u H locs hq hM hN hS _ _ => ?_)
    exact kx_iret hx hb hr hlk hM hN hK hS (by decide) (by decide) hq dL_does_185
set_option maxHeartbeats 4000000 in
set_option maxRecDepth 100000 in
theorem m_does_3 (l : Launch) (hflag : l.stackTraces = false) (G : k_G) (Z : Nat → Prop) (ad : k_Ad) (mm : q_Mem) (x1 x2 x3 : Int32) (hI : Inv mm) (hK1 : sp_K mm < 512) : kx_i l yL_does cL_does 5 (some .int) 10 190 4 19 G Z ad (k_C G ad mm) [.ref (ad 0 0), .int 3, .int x1, .int x2, .int x3] (k_po G ad (sp_rev mm x1 x2)) (k_px k_n2 (sp_rev mm x1 x2) mm) := by
  refine kx_of (by decide) (Nat.le_of_ble_eq_true rfl) ?_
  intro p e s m args below meth c hx hb hr hF hlk hnt hB ls hl
  obtain ⟨⟨hM, hN⟩, hK, hP, hT⟩ := hB
  have hS : va_S Z s.heap s.heap [] := va_S.rf
  have hl : lv_has ls 5 [(0, .ref (ad 0 0)), (1, .int 3), (2, .int x1), (3, .int x2), (4, .int x3)] := hl
  refine lv_iload_n hx hb dL_does_0 rfl (lv_at hl 1 rfl) ?_
  refine lv_tableIn (off := 185) (tgt := 186) hx hb dL_does_1 (by decide) (by decide) (by decide) (by decide) ?_
  refine lv_aload_n hx hb dL_does_186 rfl (lv_at hl 0 rfl) ?_
  refine lv_iload_n hx hb dL_does_187 rfl (lv_at hl 2 rfl) ?_
  refine lv_iload_n hx hb dL_does_188 rfl (lv_at hl 3 rfl) ?_
  refine kx_iV (C := RX4) (fr := 7) (lo := 111) (mc1 := 4) (ms1 := 19) (As := [.int x1, .int x2]) (rest := []) hF (m_X4_revert l hflag G Z ad mm x1 x2 hI hK1) ke_X4_revert wd_l_L_38 (by decide) hM hN hK hP hT hS (g_recv hK (hM 0 0 _ rfl) rfl) rfl hl.1 rfl (Nat.le_of_ble_eq_true rfl) dL_does_189 (by decide) hnt hlk (fun E hE => ⟨hE, rfl, rfl⟩) (by decide) (by decide) (fun r u H locs hq hM hN hS _ _ => ?_)
  exact kx_iret hx hb hr hlk hM hN hK hS (by decide) (by decide) hq dL_does_192
set_option maxHeartbeats 4000000 in
set_option maxRecDepth 100000 in
theorem m_does_4 (l : Launch) (hflag : l.stackTraces = false) (G : k_G) (Z : Nat → Prop) (ad : k_Ad) (mm : q_Mem) (x1 x2 x3 : Int32) (hI : Inv mm) : kx_i l yL_does cL_does 5 (some .int) 10 190 2 12 G Z ad (k_C G ad mm) [.ref (ad 0 0), .int 4, .int x1, .int x2, .int x3] (k_po G ad (sp_guard mm x1 x2)) (k_px k_n3 (sp_guard mm x1 x2) mm) := by
  refine kx_of (by decide) (Nat.le_of_ble_eq_true rfl) ?_
  intro p e s m args below meth c hx hb hr hF hlk hnt hB ls hl
  obtain ⟨⟨hM, hN⟩, hK, hP, hT⟩ := hB
  have hS : va_S Z s.heap s.heap [] := va_S.rf
  have hl : lv_has ls 5 [(0, .ref (ad 0 0)), (1, .int 4), (2, .int x1), (3, .int x2), (4, .int x3)] := hl
  refine lv_iload_n hx hb dL_does_0 rfl (lv_at hl 1 rfl) ?_
  refine lv_tableIn (off := 192) (tgt := 193) hx hb dL_does_1 (by decide) (by decide) (by decide) (by decide) ?_
  refine lv_aload_n hx hb dL_does_193 rfl (lv_at hl 0 rfl) ?_
  refine lv_iload_n hx hb dL_does_194 rfl (lv_at hl 2 rfl) ?_
  refine lv_iload_n hx hb dL_does_195 rfl (lv_at hl 3 rfl) ?_
  refine kx_iV (C := RX4) (fr := 7) (lo := 111) (mc1 := 2) (ms1 := 12) (As := [.int x1, .int x2]) (rest := []) hF (m_X4_guard l hflag G Z ad mm x1 x2 hI) ke_X4_guard wd_l_L_42 (by decide) hM hN hK hP hT hS (g_recv hK (hM 0 0 _ rfl) rfl) rfl hl.1 rfl (Nat.le_of_ble_eq_true rfl) dL_does_196 (by decide) hnt hlk (fun E hE => ⟨hE, rfl, rfl⟩) (by decide) (by decide) (fun r u H locs hq hM hN hS _ _ => ?_)
  exact kx_iret hx hb hr hlk hM hN hK hS (by decide) (by decide) hq dL_does_199
set_option maxHeartbeats 4000000 in
set_option maxRecDepth 100000 in
theorem m_does_5 (l : Launch) (hflag : l.stackTraces = false) (G : k_G) (Z : Nat → Prop) (ad : k_Ad) (mm : q_Mem) (x1 x2 x3 : Int32)  : kx_i l yL_does cL_does 5 (some .int) 10 190 1 6 G Z ad (k_C G ad mm) [.ref (ad 0 0), .int 5, .int x1, .int x2, .int x3] (k_po G ad (sp_trust mm x1)) (k_px k_n3 (sp_trust mm x1) mm) := by
  refine kx_of (by decide) (Nat.le_of_ble_eq_true rfl) ?_
  intro p e s m args below meth c hx hb hr hF hlk hnt hB ls hl
  obtain ⟨⟨hM, hN⟩, hK, hP, hT⟩ := hB
  have hS : va_S Z s.heap s.heap [] := va_S.rf
  have hl : lv_has ls 5 [(0, .ref (ad 0 0)), (1, .int 5), (2, .int x1), (3, .int x2), (4, .int x3)] := hl
  refine lv_iload_n hx hb dL_does_0 rfl (lv_at hl 1 rfl) ?_
  refine lv_tableIn (off := 199) (tgt := 200) hx hb dL_does_1 (by decide) (by decide) (by decide) (by decide) ?_
  refine lv_aload_n hx hb dL_does_200 rfl (lv_at hl 0 rfl) ?_
  refine lv_iload_n hx hb dL_does_201 rfl (lv_at hl 2 rfl) ?_
  refine kx_iV (C := RX4) (fr := 7) (lo := 110) (mc1 := 1) (ms1 := 6) (As := [.int x1]) (rest := []) hF (m_X4_trust l hflag G Z ad mm x1 ) ke_X4_trust wd_l_L_45 (by decide) hM hN hK hP hT hS (g_recv hK (hM 0 0 _ rfl) rfl) rfl hl.1 rfl (Nat.le_of_ble_eq_true rfl) dL_does_202 (by decide) hnt hlk (fun E hE => ⟨hE, rfl, rfl⟩) (by decide) (by decide) (fun r u H locs hq hM hN hS _ _ => ?_)
  exact kx_iret hx hb hr hlk hM hN hK hS (by decide) (by decide) hq dL_does_205
set_option maxHeartbeats 4000000 in
set_option maxRecDepth 100000 in
theorem m_does_9 (l : Launch) (hflag : l.stackTraces = false) (G : k_G) (Z : Nat → Prop) (ad : k_Ad) (mm : q_Mem) (x1 x2 x3 : Int32) (hI : Inv mm) : kx_i l yL_does cL_does 5 (some .int) 10 190 1 6 G Z ad (k_C G ad mm) [.ref (ad 0 0), .int 9, .int x1, .int x2, .int x3] (k_po G ad (sp_ofway 9 mm x1)) (k_px k_n3 (sp_ofway 9 mm x1) mm) := by
  refine kx_of (by decide) (Nat.le_of_ble_eq_true rfl) ?_
  intro p e s m args below meth c hx hb hr hF hlk hnt hB ls hl
  obtain ⟨⟨hM, hN⟩, hK, hP, hT⟩ := hB
  have hS : va_S Z s.heap s.heap [] := va_S.rf
  have hl : lv_has ls 5 [(0, .ref (ad 0 0)), (1, .int 9), (2, .int x1), (3, .int x2), (4, .int x3)] := hl
  refine lv_iload_n hx hb dL_does_0 rfl (lv_at hl 1 rfl) ?_
  refine lv_tableIn (off := 225) (tgt := 226) hx hb dL_does_1 (by decide) (by decide) (by decide) (by decide) ?_
  refine lv_aload_n hx hb dL_does_226 rfl (lv_at hl 0 rfl) ?_
  refine lv_iload_n hx hb dL_does_227 rfl (lv_at hl 2 rfl) ?_
  refine kx_iV (C := RX4) (fr := 7) (lo := 111) (mc1 := 1) (ms1 := 6) (As := [.int x1]) (rest := []) hF (m_X4_waiting l hflag G Z ad mm x1 hI) ke_X4_waiting wd_l_L_58 (by decide) hM hN hK hP hT hS (g_recv hK (hM 0 0 _ rfl) rfl) rfl hl.1 rfl (Nat.le_of_ble_eq_true rfl) dL_does_228 (by decide) hnt hlk (fun E hE => ⟨hE, rfl, rfl⟩) (by decide) (by decide) (fun r u H locs hq hM hN hS _ _ => ?_)
  exact kx_iret hx hb hr hlk hM hN hK hS (by decide) (by decide) hq dL_does_231
set_option maxHeartbeats 4000000 in
set_option maxRecDepth 100000 in
theorem m_does_10 (l : Launch) (hflag : l.stackTraces = false) (G : k_G) (Z : Nat → Prop) (ad : k_Ad) (mm : q_Mem) (x1 x2 x3 : Int32) (hI : Inv mm) : kx_i l yL_does cL_does 5 (some .int) 10 190 3 19 G Z ad (k_C G ad mm) [.ref (ad 0 0), .int 10, .int x1, .int x2, .int x3] (k_po G ad (sp_draw mm x1 x2 x3)) (k_px k_n3 (sp_draw mm x1 x2 x3) mm) := by
  refine kx_of (by decide) (Nat.le_of_ble_eq_true rfl) ?_
  intro p e s m args below meth c hx hb hr hF hlk hnt hB ls hl
  obtain ⟨⟨hM, hN⟩, hK, hP, hT⟩ := hB
  have hS : va_S Z s.heap s.heap [] := va_S.rf
  have hl : lv_has ls 5 [(0, .ref (ad 0 0)), (1, .int 10), (2, .int x1), (3, .int x2), (4, .int x3)] := hl
  refine lv_iload_n hx hb dL_does_0 rfl (lv_at hl 1 rfl) ?_
  refine lv_tableIn (off := 231) (tgt := 232) hx hb dL_does_1 (by decide) (by decide) (by decide) (by decide) ?_
  refine lv_aload_n hx hb dL_does_232 rfl (lv_at hl 0 rfl) ?_
  refine lv_iload_n hx hb dL_does_233 rfl (lv_at hl 2 rfl) ?_
  refine lv_iload_n hx hb dL_does_234 rfl (lv_at hl 3 rfl) ?_
  refine lv_iload hx hb dL_does_235 (lv_at hl 4 rfl) ?_
  refine kx_iV (C := RX4) (fr := 8) (lo := 133) (mc1 := 3) (ms1 := 19) (As := [.int x1, .int x2, .int x3]) (rest := []) hF (m_X4_draw l hflag G Z ad mm x1 x2 x3 hI) ke_X4_draw wd_l_L_61 (by decide) hM hN hK hP hT hS (g_recv hK (hM 0 0 _ rfl) rfl) rfl hl.1 rfl (Nat.le_of_ble_eq_true rfl) dL_does_237 (by decide) hnt hlk (fun E hE => ⟨hE, rfl, rfl⟩) (by decide) (by decide) (fun r u H locs hq hM hN hS _ _ => ?_)
  exact kx_iret hx hb hr hlk hM hN hK hS (by decide) (by decide) hq dL_does_240
set_option maxHeartbeats 4000000 in
set_option maxRecDepth 100000 in
theorem m_does_11 (l : Launch) (hflag : l.stackTraces = false) (G : k_G) (Z : Nat → Prop) (ad : k_Ad) (mm : q_Mem) (x1 x2 x3 : Int32)  : kx_i l yL_does cL_does 5 (some .int) 10 190 3 18 G Z ad (k_C G ad mm) [.ref (ad 0 0), .int 11, .int x1, .int x2, .int x3] (k_po G ad (sp_ptr mm x1 x2 x3)) (k_px k_n2 (sp_ptr mm x1 x2 x3) mm) := by
  refine kx_of (by decide) (Nat.le_of_ble_eq_true rfl) ?_
  intro p e s m args below meth c hx hb hr hF hlk hnt hB ls hl
  obtain ⟨⟨hM, hN⟩, hK, hP, hT⟩ := hB
  have hS : va_S Z s.heap s.heap [] := va_S.rf
  have hl : lv_has ls 5 [(0, .ref (ad 0 0)), (1, .int 11), (2, .int x1), (3, .int x2), (4, .int x3)] := hl
  refine lv_iload_n hx hb dL_does_0 rfl (lv_at hl 1 rfl) ?_
  refine lv_tableIn (off := 240) (tgt := 241) hx hb dL_does_1 (by decide) (by decide) (by decide) (by decide) ?_
  refine lv_aload_n hx hb dL_does_241 rfl (lv_at hl 0 rfl) ?_
  refine lv_iload_n hx hb dL_does_242 rfl (lv_at hl 2 rfl) ?_
  refine lv_iload_n hx hb dL_does_243 rfl (lv_at hl 3 rfl) ?_
  refine lv_iload hx hb dL_does_244 (lv_at hl 4 rfl) ?_
  refine kx_iV (C := RX4) (fr := 9) (lo := 157) (mc1 := 3) (ms1 := 18) (As := [.int x1, .int x2, .int x3]) (rest := []) hF (m_X4_picture l hflag G Z ad mm x1 x2 x3 ) ke_X4_picture wd_l_L_65 (by decide) hM hN hK hP hT hS (g_recv hK (hM 0 0 _ rfl) rfl) rfl hl.1 rfl (Nat.le_of_ble_eq_true rfl) dL_does_246 (by decide) hnt hlk (fun E hE => ⟨hE, rfl, rfl⟩) (by decide) (by decide) (fun r u H locs hq hM hN hS _ _ => ?_)
  exact kx_iret hx hb hr hlk hM hN hK hS (by decide) (by decide) hq dL_does_249
set_option maxHeartbeats 4000000 in
set_option maxRecDepth 100000 in
theorem m_does_12 (l : Launch) (hflag : l.stackTraces = false) (G : k_G) (Z : Nat → Prop) (ad : k_Ad) (mm : q_Mem) (x1 x2 x3 : Int32) (hI : Inv mm) : kx_i l yL_does cL_does 5 (some .int) 10 190 3 18 G Z ad (k_C G ad mm) [.ref (ad 0 0), .int 12, .int x1, .int x2, .int x3] (k_po G ad (sp_anew mm x1 x2 x3)) (k_px k_n2 (sp_anew mm x1 x2 x3) mm) := by
  refine kx_of (by decide) (Nat.le_of_ble_eq_true rfl) ?_
  intro p e s m args below meth c hx hb hr hF hlk hnt hB ls hl
  obtain ⟨⟨hM, hN⟩, hK, hP, hT⟩ := hB
  have hS : va_S Z s.heap s.heap [] := va_S.rf
  have hl : lv_has ls 5 [(0, .ref (ad 0 0)), (1, .int 12), (2, .int x1), (3, .int x2), (4, .int x3)] := hl
  refine lv_iload_n hx hb dL_does_0 rfl (lv_at hl 1 rfl) ?_
  refine lv_tableIn (off := 249) (tgt := 250) hx hb dL_does_1 (by decide) (by decide) (by decide) (by decide) ?_
  refine lv_aload_n hx hb dL_does_250 rfl (lv_at hl 0 rfl) ?_
  refine lv_iload_n hx hb dL_does_251 rfl (lv_at hl 2 rfl) ?_
  refine lv_iload_n hx hb dL_does_252 rfl (lv_at hl 3 rfl) ?_
  refine lv_iload hx hb dL_does_253 (lv_at hl 4 rfl) ?_
  refine kx_iV (C := RX4) (fr := 9) (lo := 157) (mc1 := 3) (ms1 := 18) (As := [.int x1, .int x2, .int x3]) (rest := []) hF (m_X4_pictureAnew l hflag G Z ad mm x1 x2 x3 hI) ke_X4_pictureAnew wd_l_L_68 (by decide) hM hN hK hP hT hS (g_recv hK (hM 0 0 _ rfl) rfl) rfl hl.1 rfl (Nat.le_of_ble_eq_true rfl) dL_does_255 (by decide) hnt hlk (fun E hE => ⟨hE, rfl, rfl⟩) (by decide) (by decide) (fun r u H locs hq hM hN hS _ _ => ?_)
  exact kx_iret hx hb hr hlk hM hN hK hS (by decide) (by decide) hq dL_does_258
set_option maxHeartbeats 4000000 in
set_option maxRecDepth 100000 in
theorem m_does_14 (l : Launch) (hflag : l.stackTraces = false) (G : k_G) (Z : Nat → Prop) (ad : k_Ad) (mm : q_Mem) (x1 x2 x3 : Int32) (hI : Inv mm) : kx_i l yL_does cL_does 5 (some .int) 10 190 3 18 G Z ad (k_C G ad mm) [.ref (ad 0 0), .int 14, .int x1, .int x2, .int x3] (k_po G ad (sp_isst mm x1 x2 x3)) (k_px k_n3 (sp_isst mm x1 x2 x3) mm) := by
  refine kx_of (by decide) (Nat.le_of_ble_eq_true rfl) ?_
  intro p e s m args below meth c hx hb hr hF hlk hnt hB ls hl
  obtain ⟨⟨hM, hN⟩, hK, hP, hT⟩ := hB
  have hS : va_S Z s.heap s.heap [] := va_S.rf
  have hl : lv_has ls 5 [(0, .ref (ad 0 0)), (1, .int 14), (2, .int x1), (3, .int x2), (4, .int x3)] := hl
  refine lv_iload_n hx hb dL_does_0 rfl (lv_at hl 1 rfl) ?_
  refine lv_tableIn (off := 267) (tgt := 268) hx hb dL_does_1 (by decide) (by decide) (by decide) (by decide) ?_
  refine lv_aload_n hx hb dL_does_268 rfl (lv_at hl 0 rfl) ?_
  refine lv_iload_n hx hb dL_does_269 rfl (lv_at hl 2 rfl) ?_
  refine lv_iload_n hx hb dL_does_270 rfl (lv_at hl 3 rfl) ?_
  refine lv_iload hx hb dL_does_271 (lv_at hl 4 rfl) ?_
  refine kx_iV (C := RX4) (fr := 8) (lo := 133) (mc1 := 3) (ms1 := 18) (As := [.int x1, .int x2, .int x3]) (rest := []) hF (m_X4_isStale l hflag G Z ad mm x1 x2 x3 hI) ke_X4_isStale wd_l_L_74 (by decide) hM hN hK hP hT hS (g_recv hK (hM 0 0 _ rfl) rfl) rfl hl.1 rfl (Nat.le_of_ble_eq_true rfl) dL_does_273 (by decide) hnt hlk (fun E hE => ⟨hE, rfl, rfl⟩) (by decide) (by decide) (fun r u H locs hq hM hN hS _ _ => ?_)
  refine lv_if_eq (tgt := 283) hx hb dL_does_276 (by decide) (fun cB => ?_) (fun cB => ?_)
  · skip
    refine lv_iconst (v := 0) hx hb dL_does_283 (by decide) ?_
    exact kx_iret hx hb hr hlk hM hN hK hS (by decide) (by decide) (⟨hq.1, cB.symm.trans hq.2.1, hq.2.2⟩) dL_does_284
  · skip
    refine lv_iconst (v := 1) hx hb dL_does_279 (by decide) ?_
    refine lv_goto (tgt := 284) hx hb dL_does_280 (by decide) ?_
    exact kx_iret hx hb hr hlk hM hN hK hS (by decide) (by decide) (⟨hq.1, ((bx_isStale).resolve_left (fun z => cB (hq.2.1.trans z))).symm, hq.2.2⟩) dL_does_284
set_option maxHeartbeats 4000000 in
set_option maxRecDepth 100000 in
theorem m_does_15 (l : Launch) (hflag : l.stackTraces = false) (G : k_G) (Z : Nat → Prop) (ad : k_Ad) (mm : q_Mem) (x1 x2 x3 : Int32) (hI : Inv mm) : kx_i l yL_does cL_does 5 (some .int) 10 190 1 6 G Z ad (k_C G ad mm) [.ref (ad 0 0), .int 15, .int x1, .int x2, .int x3] (k_po G ad (sp_stl mm x1)) (k_px k_n3 (sp_stl mm x1) mm) := by
  refine kx_of (by decide) (Nat.le_of_ble_eq_true rfl) ?_
  intro p e s m args below meth c hx hb hr hF hlk hnt hB ls hl
  obtain ⟨⟨hM, hN⟩, hK, hP, hT⟩ := hB
  have hS : va_S Z s.heap s.heap [] := va_S.rf
  have hl : lv_has ls 5 [(0, .ref (ad 0 0)), (1, .int 15), (2, .int x1), (3, .int x2), (4, .int x3)] := hl
  refine lv_iload_n hx hb dL_does_0 rfl (lv_at hl 1 rfl) ?_
  refine lv_tableIn (off := 284) (tgt := 285) hx hb dL_does_1 (by decide) (by decide) (by decide) (by decide) ?_
  refine lv_aload_n hx hb dL_does_285 rfl (lv_at hl 0 rfl) ?_
  refine lv_iload_n hx hb dL_does_286 rfl (lv_at hl 2 rfl) ?_
  refine kx_iV (C := RX4) (fr := 7) (lo := 110) (mc1 := 1) (ms1 := 6) (As := [.int x1]) (rest := []) hF (m_X4_staleTiles l hflag G Z ad mm x1 hI) ke_X4_staleTiles wd_l_L_78 (by decide) hM hN hK hP hT hS (g_recv hK (hM 0 0 _ rfl) rfl) rfl hl.1 rfl (Nat.le_of_ble_eq_true rfl) dL_does_287 (by decide) hnt hlk (fun E hE => ⟨hE, rfl, rfl⟩) (by decide) (by decide) (fun r u H locs hq hM hN hS _ _ => ?_)
  exact kx_iret hx hb hr hlk hM hN hK hS (by decide) (by decide) hq dL_does_290
set_option maxHeartbeats 4000000 in
set_option maxRecDepth 100000 in
theorem m_does_16 (l : Launch) (hflag : l.stackTraces = false) (G : k_G) (Z : Nat → Prop) (ad : k_Ad) (mm : q_Mem) (x1 x2 x3 : Int32) (hI : Inv mm) : kx_i l yL_does cL_does 5 (some .int) 10 190 2 12 G Z ad (k_C G ad mm) [.ref (ad 0 0), .int 16, .int x1, .int x2, .int x3] (k_po G ad (sp_drive mm x1 x2 x3)) (k_px k_n3 (sp_drive mm x1 x2 x3) mm) := by
  refine kx_of (by decide) (Nat.le_of_ble_eq_true rfl) ?_
  intro p e s m args below meth c hx hb hr hF hlk hnt hB ls hl
  obtain ⟨⟨hM, hN⟩, hK, hP, hT⟩ := hB
  have hS : va_S Z s.heap s.heap [] := va_S.rf
  have hl : lv_has ls 5 [(0, .ref (ad 0 0)), (1, .int 16), (2, .int x1), (3, .int x2), (4, .int x3)] := hl
  refine lv_iload_n hx hb dL_does_0 rfl (lv_at hl 1 rfl) ?_
  refine lv_tableIn (off := 290) (tgt := 291) hx hb dL_does_1 (by decide) (by decide) (by decide) (by decide) ?_
  refine lv_aload_n hx hb dL_does_291 rfl (lv_at hl 0 rfl) ?_
  refine lv_iload_n hx hb dL_does_292 rfl (lv_at hl 2 rfl) ?_
  refine lv_iload_n hx hb dL_does_293 rfl (lv_at hl 3 rfl) ?_
  refine lv_iload hx hb dL_does_294 (lv_at hl 4 rfl) ?_
  refine kx_iV (C := RX4) (fr := 7) (lo := 111) (mc1 := 2) (ms1 := 12) (As := [.int x1, .int x2, .int x3]) (rest := []) hF (m_X4_drive l hflag G Z ad mm x1 x2 x3 hI) ke_X4_drive wd_l_L_81 (by decide) hM hN hK hP hT hS (g_recv hK (hM 0 0 _ rfl) rfl) rfl hl.1 rfl (Nat.le_of_ble_eq_true rfl) dL_does_296 (by decide) hnt hlk (fun E hE => ⟨hE, rfl, rfl⟩) (by decide) (by decide) (fun r u H locs hq hM hN hS _ _ => ?_)
  exact kx_iret hx hb hr hlk hM hN hK hS (by decide) (by decide) hq dL_does_299
set_option maxHeartbeats 4000000 in
set_option maxRecDepth 100000 in
theorem m_does_17 (l : Launch) (hflag : l.stackTraces = false) (G : k_G) (Z : Nat → Prop) (ad : k_Ad) (mm : q_Mem) (x1 x2 x3 : Int32) (hI : Inv mm) (hK1 : sp_K mm < 512) : kx_i l yL_does cL_does 5 (some .int) 10 190 4 19 G Z ad (k_C G ad mm) [.ref (ad 0 0), .int 17, .int x1, .int x2, .int x3] (k_po G ad (sp_see mm x1 x2 (x3 / 128 - 2) ((x3 - x3 / 128 * 128) - 8))) (k_px k_n3 (sp_see mm x1 x2 (x3 / 128 - 2) ((x3 - x3 / 128 * 128) - 8)) mm) := by
  refine kx_of (by decide) (Nat.le_of_ble_eq_true rfl) ?_
  intro p e s m args below meth c hx hb hr hF hlk hnt hB ls hl
  obtain ⟨⟨hM, hN⟩, hK, hP, hT⟩ := hB
  have hS : va_S Z s.heap s.heap [] := va_S.rf
  have hl : lv_has ls 5 [(0, .ref (ad 0 0)), (1, .int 17), (2, .int x1), (3, .int x2), (4, .int x3)] := hl
  refine lv_iload_n hx hb dL_does_0 rfl (lv_at hl 1 rfl) ?_
  refine lv_tableIn (off := 299) (tgt := 300) hx hb dL_does_1 (by decide) (by decide) (by decide) (by decide) ?_
  refine lv_aload_n hx hb dL_does_300 rfl (lv_at hl 0 rfl) ?_
  refine lv_iload_n hx hb dL_does_301 rfl (lv_at hl 2 rfl) ?_
  refine lv_iload_n hx hb dL_does_302 rfl (lv_at hl 3 rfl) ?_
  refine lv_iload hx hb dL_does_303 (lv_at hl 4 rfl) ?_
  refine lv_sipush (v := 128) hx hb dL_does_305 (by decide) ?_
  refine lv_idiv hx hb dL_does_308 (by decide) ?_
  refine lv_iconst (v := 2) hx hb dL_does_309 (by decide) ?_
  refine lv_isub hx hb dL_does_310 ?_
  refine lv_iload hx hb dL_does_311 (lv_at hl 4 rfl) ?_
  refine lv_sipush (v := 128) hx hb dL_does_313 (by decide) ?_
  refine lv_irem hx hb dL_does_316 (by decide) ?_
  refine lv_bipush (v := 8) hx hb dL_does_317 (by decide) ?_
  refine lv_isub hx hb dL_does_319 ?_
  refine kx_iV (C := RX4) (fr := 7) (lo := 111) (mc1 := 4) (ms1 := 19) (As := [.int x1, .int x2, .int ((x3 / 128) - 2), .int ((x3 - x3 / 128 * 128) - 8)]) (rest := []) hF (m_X4_see l hflag G Z ad mm x1 x2 ((x3 / 128) - 2) ((x3 - x3 / 128 * 128) - 8) hI hK1) ke_X4_see wd_l_L_84 (by decide) hM hN hK hP hT hS (g_recv hK (hM 0 0 _ rfl) rfl) rfl hl.1 rfl (Nat.le_of_ble_eq_true rfl) dL_does_320 (by decide) hnt hlk (fun E hE => ⟨hE, rfl, rfl⟩) (by decide) (by decide) (fun r u H locs hq hM hN hS _ _ => ?_)
  refine lv_if_eq (tgt := 330) hx hb dL_does_323 (by decide) (fun cB => ?_) (fun cB => ?_)
  · skip
    refine lv_iconst (v := 0) hx hb dL_does_330 (by decide) ?_
    exact kx_iret hx hb hr hlk hM hN hK hS (by decide) (by decide) (⟨hq.1, cB.symm.trans hq.2.1, hq.2.2⟩) dL_does_331
  · skip
    refine lv_iconst (v := 1) hx hb dL_does_326 (by decide) ?_
    refine lv_goto (tgt := 331) hx hb dL_does_327 (by decide) ?_
    exact kx_iret hx hb hr hlk hM hN hK hS (by decide) (by decide) (⟨hq.1, ((bx_see).resolve_left (fun z => cB (hq.2.1.trans z))).symm, hq.2.2⟩) dL_does_331
set_option maxHeartbeats 4000000 in
set_option maxRecDepth 100000 in
theorem m_does_18 (l : Launch) (hflag : l.stackTraces = false) (G : k_G) (Z : Nat → Prop) (ad : k_Ad) (mm : q_Mem) (x1 x2 x3 : Int32) (hI : Inv mm) : kx_i l yL_does cL_does 5 (some .int) 10 190 1 6 G Z ad (k_C G ad mm) [.ref (ad 0 0), .int 18, .int x1, .int x2, .int x3] (k_po G ad (sp_sgt mm x1)) (k_px k_n3 (sp_sgt mm x1) mm) := by
  refine kx_of (by decide) (Nat.le_of_ble_eq_true rfl) ?_
  intro p e s m args below meth c hx hb hr hF hlk hnt hB ls hl
  obtain ⟨⟨hM, hN⟩, hK, hP, hT⟩ := hB
  have hS : va_S Z s.heap s.heap [] := va_S.rf
  have hl : lv_has ls 5 [(0, .ref (ad 0 0)), (1, .int 18), (2, .int x1), (3, .int x2), (4, .int x3)] := hl
  refine lv_iload_n hx hb dL_does_0 rfl (lv_at hl 1 rfl) ?_
  refine lv_tableIn (off := 331) (tgt := 332) hx hb dL_does_1 (by decide) (by decide) (by decide) (by decide) ?_
  refine lv_aload_n hx hb dL_does_332 rfl (lv_at hl 0 rfl) ?_
  refine lv_iload_n hx hb dL_does_333 rfl (lv_at hl 2 rfl) ?_
  refine kx_iV (C := RX4) (fr := 7) (lo := 111) (mc1 := 1) (ms1 := 6) (As := [.int x1]) (rest := []) hF (m_X4_sightings l hflag G Z ad mm x1 hI) ke_X4_sightings wd_l_L_87 (by decide) hM hN hK hP hT hS (g_recv hK (hM 0 0 _ rfl) rfl) rfl hl.1 rfl (Nat.le_of_ble_eq_true rfl) dL_does_334 (by decide) hnt hlk (fun E hE => ⟨hE, rfl, rfl⟩) (by decide) (by decide) (fun r u H locs hq hM hN hS _ _ => ?_)
  exact kx_iret hx hb hr hlk hM hN hK hS (by decide) (by decide) hq dL_does_337
set_option maxHeartbeats 4000000 in
set_option maxRecDepth 100000 in
theorem m_does_19 (l : Launch) (hflag : l.stackTraces = false) (G : k_G) (Z : Nat → Prop) (ad : k_Ad) (mm : q_Mem) (x1 x2 x3 : Int32) (hI : Inv mm) : kx_i l yL_does cL_does 5 (some .int) 10 190 1 6 G Z ad (k_C G ad mm) [.ref (ad 0 0), .int 19, .int x1, .int x2, .int x3] (k_po G ad (sp_dear mm x1)) (k_px k_n3 (sp_dear mm x1) mm) := by
  refine kx_of (by decide) (Nat.le_of_ble_eq_true rfl) ?_
  intro p e s m args below meth c hx hb hr hF hlk hnt hB ls hl
  obtain ⟨⟨hM, hN⟩, hK, hP, hT⟩ := hB
  have hS : va_S Z s.heap s.heap [] := va_S.rf
  have hl : lv_has ls 5 [(0, .ref (ad 0 0)), (1, .int 19), (2, .int x1), (3, .int x2), (4, .int x3)] := hl
  refine lv_iload_n hx hb dL_does_0 rfl (lv_at hl 1 rfl) ?_
  refine lv_tableIn (off := 337) (tgt := 338) hx hb dL_does_1 (by decide) (by decide) (by decide) (by decide) ?_
  refine lv_aload_n hx hb dL_does_338 rfl (lv_at hl 0 rfl) ?_
  refine lv_iload_n hx hb dL_does_339 rfl (lv_at hl 2 rfl) ?_
  refine kx_iV (C := RX4) (fr := 7) (lo := 111) (mc1 := 1) (ms1 := 6) (As := [.int x1]) (rest := []) hF (m_X4_dear l hflag G Z ad mm x1 hI) ke_X4_dear wd_l_L_90 (by decide) hM hN hK hP hT hS (g_recv hK (hM 0 0 _ rfl) rfl) rfl hl.1 rfl (Nat.le_of_ble_eq_true rfl) dL_does_340 (by decide) hnt hlk (fun E hE => ⟨hE, rfl, rfl⟩) (by decide) (by decide) (fun r u H locs hq hM hN hS _ _ => ?_)
  exact kx_iret hx hb hr hlk hM hN hK hS (by decide) (by decide) hq dL_does_343
set_option maxHeartbeats 4000000 in
set_option maxRecDepth 100000 in
theorem m_does_20 (l : Launch) (hflag : l.stackTraces = false) (G : k_G) (Z : Nat → Prop) (ad : k_Ad) (mm : q_Mem) (x1 x2 x3 : Int32) (hI : Inv mm) : kx_i l yL_does cL_does 5 (some .int) 10 190 1 6 G Z ad (k_C G ad mm) [.ref (ad 0 0), .int 20, .int x1, .int x2, .int x3] (k_po G ad (sp_tar mm x1)) (k_px k_n3 (sp_tar mm x1) mm) := by
  refine kx_of (by decide) (Nat.le_of_ble_eq_true rfl) ?_
  intro p e s m args below meth c hx hb hr hF hlk hnt hB ls hl
  obtain ⟨⟨hM, hN⟩, hK, hP, hT⟩ := hB
  have hS : va_S Z s.heap s.heap [] := va_S.rf
  have hl : lv_has ls 5 [(0, .ref (ad 0 0)), (1, .int 20), (2, .int x1), (3, .int x2), (4, .int x3)] := hl
  refine lv_iload_n hx hb dL_does_0 rfl (lv_at hl 1 rfl) ?_
  refine lv_tableIn (off := 343) (tgt := 344) hx hb dL_does_1 (by decide) (by decide) (by decide) (by decide) ?_
  refine lv_aload_n hx hb dL_does_344 rfl (lv_at hl 0 rfl) ?_
  refine lv_iload_n hx hb dL_does_345 rfl (lv_at hl 2 rfl) ?_
  refine kx_iV (C := RX4) (fr := 7) (lo := 118) (mc1 := 1) (ms1 := 6) (As := [.int x1]) (rest := []) hF (m_X4_target l hflag G Z ad mm x1 hI) ke_X4_target wd_l_L_93 (by decide) hM hN hK hP hT hS (g_recv hK (hM 0 0 _ rfl) rfl) rfl hl.1 rfl (Nat.le_of_ble_eq_true rfl) dL_does_346 (by decide) hnt hlk (fun E hE => ⟨hE, rfl, rfl⟩) (by decide) (by decide) (fun r u H locs hq hM hN hS _ _ => ?_)
  exact kx_iret hx hb hr hlk hM hN hK hS (by decide) (by decide) hq dL_does_349
set_option maxHeartbeats 4000000 in
set_option maxRecDepth 100000 in
theorem m_does_21 (l : Launch) (hflag : l.stackTraces = false) (G : k_G) (Z : Nat → Prop) (ad : k_Ad) (mm : q_Mem) (x1 x2 x3 : Int32) (hI : Inv mm) : kx_i l yL_does cL_does 5 (some .int) 10 190 3 18 G Z ad (k_C G ad mm) [.ref (ad 0 0), .int 21, .int x1, .int x2, .int x3] (k_po G ad (sp_snd mm x1)) (k_px k_n2 (sp_snd mm x1) mm) := by
  refine kx_of (by decide) (Nat.le_of_ble_eq_true rfl) ?_
  intro p e s m args below meth c hx hb hr hF hlk hnt hB ls hl
  obtain ⟨⟨hM, hN⟩, hK, hP, hT⟩ := hB
  have hS : va_S Z s.heap s.heap [] := va_S.rf
  have hl : lv_has ls 5 [(0, .ref (ad 0 0)), (1, .int 21), (2, .int x1), (3, .int x2), (4, .int x3)] := hl
  refine lv_iload_n hx hb dL_does_0 rfl (lv_at hl 1 rfl) ?_
  refine lv_tableIn (off := 349) (tgt := 350) hx hb dL_does_1 (by decide) (by decide) (by decide) (by decide) ?_
  refine lv_aload_n hx hb dL_does_350 rfl (lv_at hl 0 rfl) ?_
  refine lv_iload_n hx hb dL_does_351 rfl (lv_at hl 2 rfl) ?_
  refine kx_iV (C := RX4) (fr := 7) (lo := 118) (mc1 := 3) (ms1 := 18) (As := [.int x1]) (rest := []) hF (m_X4_send l hflag G Z ad mm x1 hI) ke_X4_send wd_l_L_96 (by decide) hM hN hK hP hT hS (g_recv hK (hM 0 0 _ rfl) rfl) rfl hl.1 rfl (Nat.le_of_ble_eq_true rfl) dL_does_352 (by decide) hnt hlk (fun E hE => ⟨hE, rfl, rfl⟩) (by decide) (by decide) (fun r u H locs hq hM hN hS _ _ => ?_)
  exact kx_iret hx hb hr hlk hM hN hK hS (by decide) (by decide) hq dL_does_355
