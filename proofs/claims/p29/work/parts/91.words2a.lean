theorem wi_of {ws : List Cond} {ps : List Nat} (h : ws = ps.filterMap (fun i => lw_tbl[i]?)) : ∀ w ∈ ws, w ∈ lw_tbl := by
  intro w hw
  rw [h] at hw
  obtain ⟨i, -, hi⟩ := List.mem_filterMap.mp hw
  exact List.mem_of_getElem? hi
set_option maxRecDepth 100000 in
theorem wi_r1 : wsL_law0_r1 = [36, 37, 16, 38, 39, 40, 41, 42, 43, 44, 45, 19, 75, 94, 76, 77, 78, 70, 79, 80, 46, 47, 48, 56].filterMap (fun i => lw_tbl[i]?) := by decide +kernel
set_option maxRecDepth 100000 in
theorem wi_r2 : wsL_law0_r2 = [58, 49, 50, 18, 51, 60, 52, 53, 17, 54, 55, 72, 73, 20, 74, 732, 733, 15, 734, 693, 694, 226, 227, 228].filterMap (fun i => lw_tbl[i]?) := by decide +kernel
set_option maxRecDepth 100000 in
theorem wi_r3 : wsL_law0_r3 = [229, 230, 242, 251, 256, 257, 258, 275, 284, 314, 344, 696, 206, 207, 208, 209, 95, 96, 97, 98, 99, 100, 101, 102].filterMap (fun i => lw_tbl[i]?) := by decide +kernel
set_option maxRecDepth 100000 in
theorem wi_r4 : wsL_law0_r4 = [59, 231, 232, 233, 234, 235, 236, 237, 111, 24, 238, 239, 240, 103, 104, 105, 106, 107, 109, 0, 110, 193, 179, 180].filterMap (fun i => lw_tbl[i]?) := by decide +kernel
set_option maxRecDepth 100000 in
theorem wi_r5 : wsL_law0_r5 = [181, 182, 183, 184, 25, 185, 186, 187, 26, 188, 189, 190, 191, 192, 194, 195, 196, 30, 197, 471, 442, 243, 244, 245].filterMap (fun i => lw_tbl[i]?) := by decide +kernel
set_option maxRecDepth 100000 in
theorem wi_r6 : wsL_law0_r6 = [246, 437, 247, 248, 249, 472, 443, 445, 202, 203, 204, 31, 205, 408, 412, 415, 198, 199, 200, 201, 474, 252, 253, 254].filterMap (fun i => lw_tbl[i]?) := by decide +kernel
set_option maxRecDepth 100000 in
theorem wi_r7 : wsL_law0_r7 = [255, 440, 210, 211, 212, 213, 214, 215, 216, 217, 475, 259, 260, 261, 262, 263, 264, 265, 266, 267, 268, 269, 270, 435].filterMap (fun i => lw_tbl[i]?) := by decide +kernel
