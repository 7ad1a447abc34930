set_option maxRecDepth 100000 in
theorem wi_r8 : wsL_law0_r8 = [413, 271, 272, 273, 274, 409, 276, 277, 278, 279, 280, 281, 282, 285, 286, 287, 288, 289, 291, 2, 292, 293, 294, 295].filterMap (fun i => lw_tbl[i]?) := by decide +kernel
set_option maxRecDepth 100000 in
theorem wi_r9 : wsL_law0_r9 = [296, 311, 312, 27, 313, 297, 298, 299, 300, 461, 463, 302, 303, 304, 305, 306, 307, 308, 309, 310, 465, 467, 315, 316].filterMap (fun i => lw_tbl[i]?) := by decide +kernel
set_option maxRecDepth 100000 in
theorem wi_r10 : wsL_law0_r10 = [317, 318, 323, 319, 320, 321, 325, 326, 327, 328, 330, 3, 331, 332, 333, 334, 335, 439, 607, 446, 336, 337, 338, 339].filterMap (fun i => lw_tbl[i]?) := by decide +kernel
set_option maxRecDepth 100000 in
theorem wi_r11 : wsL_law0_r11 = [601, 599, 605, 603, 340, 341, 342, 35, 343, 436, 410, 597, 345, 346, 347, 348, 349, 350, 695, 351, 352, 353, 354, 355].filterMap (fun i => lw_tbl[i]?) := by decide +kernel
set_option maxRecDepth 100000 in
theorem wi_r12 : wsL_law0_r12 = [356, 357, 365, 28, 385, 29, 193, 401, 402, 403, 358, 359, 360, 362, 363, 364, 381, 383, 4, 384, 404, 405, 406, 407].filterMap (fun i => lw_tbl[i]?) := by decide +kernel
set_option maxRecDepth 100000 in
theorem wi_r13 : wsL_law0_r13 = [424, 426, 5, 427, 428, 429, 32, 430, 431, 432, 433, 434, 438, 441, 444, 456, 457, 458, 459, 469, 473, 460, 493, 494].filterMap (fun i => lw_tbl[i]?) := by decide +kernel
set_option maxRecDepth 100000 in
theorem wi_r14 : wsL_law0_r14 = [495, 496, 61, 62, 497, 499, 6, 500, 501, 503, 7, 504, 505, 507, 8, 508, 545, 513, 514, 546, 509, 510, 33, 511].filterMap (fun i => lw_tbl[i]?) := by decide +kernel
