theorem ap_in {a b c : List Cond} (h1 : ∀ w ∈ a, w ∈ c) (h2 : ∀ w ∈ b, w ∈ c) : ∀ w ∈ a ++ b, w ∈ c := fun w h => (List.mem_append.mp h).elim (h1 w) (h2 w)
theorem nil_in {c : List Cond} : ∀ w ∈ ([] : List Cond), w ∈ c := fun _ h => absurd h List.not_mem_nil
set_option maxRecDepth 20000 in
theorem in_wsL_law0_r1 : ∀ w ∈ wsL_law0_r1, w ∈ lw_tbl := fun w h => (goodIn_r (big := lw_tbl) wsL_law0_r1 [32, 33, 20, 56, 34, 35, 36, 37, 38, 39, 40, 41, 21, 146, 147, 88, 89, 23, 148, 115, 116, 24, 149, 130] (by decide +kernel) (by decide +kernel) w h).1
set_option maxRecDepth 20000 in
theorem in_wsL_law0_r2 : ∀ w ∈ wsL_law0_r2, w ∈ lw_tbl := fun w h => (goodIn_r (big := lw_tbl) wsL_law0_r2 [131, 25, 150, 43, 44, 45, 46, 47, 22, 57, 58, 59, 60, 61, 62, 63, 64, 65, 66, 48, 49, 50, 51, 52] (by decide +kernel) (by decide +kernel) w h).1
set_option maxRecDepth 20000 in
theorem in_wsL_law0_r3 : ∀ w ∈ wsL_law0_r3, w ∈ lw_tbl := fun w h => (goodIn_r (big := lw_tbl) wsL_law0_r3 [91, 92, 93, 94, 96, 97, 98, 99, 100, 101, 95, 118, 119, 120, 121, 123, 124, 122, 132, 133, 134, 135, 136, 139] (by decide +kernel) (by decide +kernel) w h).1
set_option maxRecDepth 20000 in
theorem in_wsL_law0_r4 : ∀ w ∈ wsL_law0_r4, w ∈ lw_tbl := by
  have h1 : ∀ w ∈ ([Cond.fieldLink RX2 17 "DoorstepRounds$History" "count" "I", Cond.methodLink RL 141 yL_isSo, Cond.static yL_isSo, Cond.initialized RL] : List Cond), w ∈ lw_tbl := (fun w h => (goodIn_r (big := lw_tbl) [Cond.fieldLink RX2 17 "DoorstepRounds$History" "count" "I", Cond.methodLink RL 141 yL_isSo, Cond.static yL_isSo, Cond.initialized RL] [140, 396, 397, 19] (by decide +kernel) (by decide +kernel) w h).1)
  have h2 : ∀ w ∈ ([Cond.methodLink RL 69 yL_share, Cond.static yL_share, Cond.code yL_share cL_share 14 (some .int), Cond.methodLink RL 59 yL_men, Cond.static yL_men, Cond.code yL_men cL_men 3 (some .int), Cond.methodLink RL 65 yL_roundOf, Cond.static yL_roundOf, Cond.code yL_roundOf cL_roundOf 5 (some .int), Cond.methodLink RL 73 yX5_pints, Cond.instanceMethod yX5_pints, Cond.selects RX5 yX5_pints yX5_pints, Cond.code yX5_pints cX5_pints 2 (some .int), Cond.methodLink RX5 63 yX5_checkDoorstep, Cond.instanceMethod yX5_checkDoorstep, Cond.selects RX5 yX5_checkDoorstep yX5_checkDoorstep, Cond.code yX5_checkDoorstep cX5_checkDoorstep 2 none, Cond.classLink RX5 231 "java/lang/IndexOutOfBoundsException", Cond.initialized "java/lang/IndexOutOfBoundsException"] : List Cond), w ∈ lw_tbl := (fun w h => (goodIn_r (big := lw_tbl) [Cond.methodLink RL 69 yL_share, Cond.static yL_share, Cond.code yL_share cL_share 14 (some .int), Cond.methodLink RL 59 yL_men, Cond.static yL_men, Cond.code yL_men cL_men 3 (some .int), Cond.methodLink RL 65 yL_roundOf, Cond.static yL_roundOf, Cond.code yL_roundOf cL_roundOf 5 (some .int), Cond.methodLink RL 73 yX5_pints, Cond.instanceMethod yX5_pints, Cond.selects RX5 yX5_pints yX5_pints, Cond.code yX5_pints cX5_pints 2 (some .int), Cond.methodLink RX5 63 yX5_checkDoorstep, Cond.instanceMethod yX5_checkDoorstep, Cond.selects RX5 yX5_checkDoorstep yX5_checkDoorstep, Cond.code yX5_checkDoorstep cX5_checkDoorstep 2 none, Cond.classLink RX5 231 "java/lang/IndexOutOfBoundsException", Cond.initialized "java/lang/IndexOutOfBoundsException"] [399, 400, 401, 402, 403, 404, 405, 406, 407, 408, 409, 410, 411, 412, 414, 12, 415, 277, 29] (by decide +kernel) (by decide +kernel) w h).1)
  have h3 : Cond.code yL_isSo cL_isSo 16 (some .boolean) ∈ lw_tbl := List.mem_of_getElem? (i := 398) rfl
  intro w h
  rcases List.mem_append.mp (show w ∈ ([Cond.fieldLink RX2 17 "DoorstepRounds$History" "count" "I", Cond.methodLink RL 141 yL_isSo, Cond.static yL_isSo, Cond.initialized RL] : List Cond) ++ (Cond.code yL_isSo cL_isSo 16 (some .boolean) :: [Cond.methodLink RL 69 yL_share, Cond.static yL_share, Cond.code yL_share cL_share 14 (some .int), Cond.methodLink RL 59 yL_men, Cond.static yL_men, Cond.code yL_men cL_men 3 (some .int), Cond.methodLink RL 65 yL_roundOf, Cond.static yL_roundOf, Cond.code yL_roundOf cL_roundOf 5 (some .int), Cond.methodLink RL 73 yX5_pints, Cond.instanceMethod yX5_pints, Cond.selects RX5 yX5_pints yX5_pints, Cond.code yX5_pints cX5_pints 2 (some .int), Cond.methodLink RX5 63 yX5_checkDoorstep, Cond.instanceMethod yX5_checkDoorstep, Cond.selects RX5 yX5_checkDoorstep yX5_checkDoorstep, Cond.code yX5_checkDoorstep cX5_checkDoorstep 2 none, Cond.classLink RX5 231 "java/lang/IndexOutOfBoundsException", Cond.initialized "java/lang/IndexOutOfBoundsException"]) from h) with h | h
  · exact h1 w h
  · rcases List.mem_cons.mp h with h | h
    · rw [h]; exact h3
    · exact h2 w h
set_option maxRecDepth 20000 in
theorem in_wsL_law0_r5 : ∀ w ∈ wsL_law0_r5, w ∈ lw_tbl := fun w h => (goodIn_r (big := lw_tbl) wsL_law0_r5 [416, 417, 418, 419, 421, 365, 366, 367, 297, 263, 264, 265, 422, 423, 424, 425, 426, 373, 374, 375, 427, 428, 429, 430] (by decide +kernel) (by decide +kernel) w h).1
set_option maxRecDepth 20000 in
theorem in_wsL_law0_r6 : ∀ w ∈ wsL_law0_r6, w ∈ lw_tbl := fun w h => (goodIn_r (big := lw_tbl) wsL_law0_r6 [431, 432, 433, 434, 435, 436, 437, 438, 439, 440, 441, 442, 331, 332, 333, 334, 335, 336, 337, 338, 339, 327, 328, 329] (by decide +kernel) (by decide +kernel) w h).1
set_option maxRecDepth 20000 in
theorem in_wsL_law0_r7 : ∀ w ∈ wsL_law0_r7, w ∈ lw_tbl := fun w h => (goodIn_r (big := lw_tbl) wsL_law0_r7 [330, 311, 312, 313, 340, 341, 342, 343, 344, 346, 3, 347, 348, 349, 294, 295, 296, 350, 319, 320, 321, 351, 353, 4] (by decide +kernel) (by decide +kernel) w h).1
set_option maxRecDepth 20000 in
theorem in_wsL_law0_r8 : ∀ w ∈ wsL_law0_r8, w ∈ lw_tbl := fun w h => (goodIn_r (big := lw_tbl) wsL_law0_r8 [354, 355, 356, 358, 5, 359, 360, 362, 6, 363, 364, 368, 370, 7, 371, 372, 376, 378, 8, 379, 380, 381, 382, 383] (by decide +kernel) (by decide +kernel) w h).1
set_option maxRecDepth 20000 in
theorem in_wsL_law0_r9 : ∀ w ∈ wsL_law0_r9, w ∈ lw_tbl := fun w h => (goodIn_r (big := lw_tbl) wsL_law0_r9 [384, 386, 9, 387, 388, 390, 10, 391, 392, 394, 11, 395, 443, 444, 445, 446, 447, 448, 449, 450, 451, 453, 13, 454] (by decide +kernel) (by decide +kernel) w h).1
set_option maxRecDepth 20000 in
theorem in_wsL_law0_r10 : ∀ w ∈ wsL_law0_r10, w ∈ lw_tbl := fun w h => (goodIn_r (big := lw_tbl) wsL_law0_r10 [455, 456, 457, 458, 459, 274, 275, 276, 310, 270, 271, 272, 273, 293, 460, 461, 462, 463, 464, 465, 466, 467, 301, 302] (by decide +kernel) (by decide +kernel) w h).1
set_option maxRecDepth 20000 in
theorem in_wsL_law0_r11 : ∀ w ∈ wsL_law0_r11, w ∈ lw_tbl := fun w h => (goodIn_r (big := lw_tbl) wsL_law0_r11 [303, 304, 305, 307, 2, 308, 309, 255, 256, 257, 258, 259, 260, 261, 262, 314, 315, 316, 317, 318, 322, 323, 324, 325] (by decide +kernel) (by decide +kernel) w h).1
set_option maxRecDepth 20000 in
theorem in_wsL_law0_r12 : ∀ w ∈ wsL_law0_r12, w ∈ lw_tbl := fun w h => (goodIn_r (big := lw_tbl) wsL_law0_r12 [326, 468, 469, 470, 471, 472, 473, 474, 475, 476, 477, 478, 479, 480, 481, 482, 483, 484, 485, 486, 487, 488, 489, 490] (by decide +kernel) (by decide +kernel) w h).1
set_option maxRecDepth 20000 in
theorem in_wsL_law0_r13 : ∀ w ∈ wsL_law0_r13, w ∈ lw_tbl := fun w h => (goodIn_r (big := lw_tbl) wsL_law0_r13 [491, 492, 493, 494, 495, 496, 497, 498, 499, 500, 501, 502, 503, 504, 505, 506, 507, 508, 509, 510, 511, 512, 513, 514] (by decide +kernel) (by decide +kernel) w h).1
set_option maxRecDepth 20000 in
theorem in_wsL_law0_r14 : ∀ w ∈ wsL_law0_r14, w ∈ lw_tbl := fun w h => (goodIn_r (big := lw_tbl) wsL_law0_r14 [515, 516, 517, 166, 167, 168, 169, 170, 171, 172, 173, 178, 30, 174, 175, 176, 177, 246, 247, 248, 249, 250, 252, 1] (by decide +kernel) (by decide +kernel) w h).1
set_option maxRecDepth 20000 in
theorem in_wsL_law0_r15 : ∀ w ∈ wsL_law0_r15, w ∈ lw_tbl := fun w h => (goodIn_r (big := lw_tbl) wsL_law0_r15 [253, 254, 266, 267, 268, 269, 298, 299, 300, 162, 163, 164, 165, 518, 519, 520, 521, 522, 523, 524, 525, 526, 527, 528] (by decide +kernel) (by decide +kernel) w h).1
set_option maxRecDepth 20000 in
theorem in_wsL_law0_r16 : ∀ w ∈ wsL_law0_r16, w ∈ lw_tbl := fun w h => (goodIn_r (big := lw_tbl) wsL_law0_r16 [529, 530, 531, 532, 533, 534, 535, 536, 31, 552, 553, 554, 555, 557, 558, 559, 560, 561, 563, 14, 564, 565, 566, 567] (by decide +kernel) (by decide +kernel) w h).1
set_option maxRecDepth 20000 in
theorem in_wsL_law0_r17 : ∀ w ∈ wsL_law0_r17, w ∈ lw_tbl := fun w h => (goodIn_r (big := lw_tbl) wsL_law0_r17 [568, 569, 570, 571, 572, 573, 574, 575, 576, 577, 578, 579, 580, 582, 583, 584, 585, 586, 587, 588, 589, 590, 591, 592] (by decide +kernel) (by decide +kernel) w h).1
set_option maxRecDepth 20000 in
theorem in_wsL_law0_r18 : ∀ w ∈ wsL_law0_r18, w ∈ lw_tbl := by
  have h1 : ∀ w ∈ ([Cond.methodLink RL 24 yX5_setPints, Cond.instanceMethod yX5_setPints, Cond.selects RX5 yX5_setPints yX5_setPints, Cond.code yX5_setPints cX5_setPints 3 (some .int), Cond.methodLink RX5 75 yX1_changePints, Cond.instanceMethod yX1_changePints, Cond.selects RX1 yX1_changePints yX1_changePints, Cond.code yX1_changePints cX1_changePints 4 (some .int), Cond.methodLink RL 122 yL_owner, Cond.static yL_owner, Cond.codeWith yL_owner cL_owner 4 (some .int) [(0, 6, 9, 22)], Cond.methodLink RL 124 yL_reason, Cond.static yL_reason, Cond.codeWith yL_reason cL_reason 4 (some .int) [(0, 6, 9, 22)], Cond.methodLink RL 159 yL_others, Cond.static yL_others] : List Cond), w ∈ lw_tbl := (fun w h => (goodIn_r (big := lw_tbl) [Cond.methodLink RL 24 yX5_setPints, Cond.instanceMethod yX5_setPints, Cond.selects RX5 yX5_setPints yX5_setPints, Cond.code yX5_setPints cX5_setPints 3 (some .int), Cond.methodLink RX5 75 yX1_changePints, Cond.instanceMethod yX1_changePints, Cond.selects RX1 yX1_changePints yX1_changePints, Cond.code yX1_changePints cX1_changePints 4 (some .int), Cond.methodLink RL 122 yL_owner, Cond.static yL_owner, Cond.codeWith yL_owner cL_owner 4 (some .int) [(0, 6, 9, 22)], Cond.methodLink RL 124 yL_reason, Cond.static yL_reason, Cond.codeWith yL_reason cL_reason 4 (some .int) [(0, 6, 9, 22)], Cond.methodLink RL 159 yL_others, Cond.static yL_others] [593, 594, 595, 596, 597, 598, 599, 600, 601, 602, 603, 604, 605, 606, 607, 608] (by decide +kernel) (by decide +kernel) w h).1)
  have h2 : ∀ w ∈ ([Cond.methodLink RL 126 yL_come, Cond.static yL_come, Cond.codeWith yL_come cL_come 4 (some .int) [(0, 6, 9, 22), (0, 6, 13, 17)], Cond.methodLink RL 28 yX5_come, Cond.instanceMethod yX5_come, Cond.selects RX5 yX5_come yX5_come, Cond.code yX5_come cX5_come 2 (some .int)] : List Cond), w ∈ lw_tbl := (fun w h => (goodIn_r (big := lw_tbl) [Cond.methodLink RL 126 yL_come, Cond.static yL_come, Cond.codeWith yL_come cL_come 4 (some .int) [(0, 6, 9, 22), (0, 6, 13, 17)], Cond.methodLink RL 28 yX5_come, Cond.instanceMethod yX5_come, Cond.selects RX5 yX5_come yX5_come, Cond.code yX5_come cX5_come 2 (some .int)] [610, 611, 612, 613, 614, 615, 616] (by decide +kernel) (by decide +kernel) w h).1)
  have h3 : Cond.code yL_others cL_others 14 (some .boolean) ∈ lw_tbl := List.mem_of_getElem? (i := 609) rfl
  intro w h
  rcases List.mem_append.mp (show w ∈ ([Cond.methodLink RL 24 yX5_setPints, Cond.instanceMethod yX5_setPints, Cond.selects RX5 yX5_setPints yX5_setPints, Cond.code yX5_setPints cX5_setPints 3 (some .int), Cond.methodLink RX5 75 yX1_changePints, Cond.instanceMethod yX1_changePints, Cond.selects RX1 yX1_changePints yX1_changePints, Cond.code yX1_changePints cX1_changePints 4 (some .int), Cond.methodLink RL 122 yL_owner, Cond.static yL_owner, Cond.codeWith yL_owner cL_owner 4 (some .int) [(0, 6, 9, 22)], Cond.methodLink RL 124 yL_reason, Cond.static yL_reason, Cond.codeWith yL_reason cL_reason 4 (some .int) [(0, 6, 9, 22)], Cond.methodLink RL 159 yL_others, Cond.static yL_others] : List Cond) ++ (Cond.code yL_others cL_others 14 (some .boolean) :: [Cond.methodLink RL 126 yL_come, Cond.static yL_come, Cond.codeWith yL_come cL_come 4 (some .int) [(0, 6, 9, 22), (0, 6, 13, 17)], Cond.methodLink RL 28 yX5_come, Cond.instanceMethod yX5_come, Cond.selects RX5 yX5_come yX5_come, Cond.code yX5_come cX5_come 2 (some .int)]) from h) with h | h
  · exact h1 w h
  · rcases List.mem_cons.mp h with h | h
    · rw [h]; exact h3
    · exact h2 w h
set_option maxRecDepth 20000 in
theorem in_wsL_law0_r19 : ∀ w ∈ wsL_law0_r19, w ∈ lw_tbl := fun w h => (goodIn_r (big := lw_tbl) wsL_law0_r19 [617, 618, 619, 620, 622, 623, 624, 625, 626, 627, 628, 629, 630, 631, 632, 634, 635, 636, 637, 638, 639, 640, 641, 642] (by decide +kernel) (by decide +kernel) w h).1
set_option maxRecDepth 20000 in
theorem in_wsL_law0_r20 : ∀ w ∈ wsL_law0_r20, w ∈ lw_tbl := fun w h => (goodIn_r (big := lw_tbl) wsL_law0_r20 [643, 644, 646, 648, 15, 649, 650, 651, 652, 653, 654, 655, 656, 657, 658, 659, 660, 661, 662, 664, 665, 666, 667, 668] (by decide +kernel) (by decide +kernel) w h).1
set_option maxRecDepth 20000 in
theorem in_wsL_law0_r21 : ∀ w ∈ wsL_law0_r21, w ∈ lw_tbl := fun w h => (goodIn_r (big := lw_tbl) wsL_law0_r21 [670, 16, 671, 672, 674, 17, 675, 676, 678, 18, 679, 680, 681, 682, 683, 684, 685, 686, 687, 688, 689, 690, 691, 692] (by decide +kernel) (by decide +kernel) w h).1
set_option maxRecDepth 20000 in
theorem in_wsL_law0_r22 : ∀ w ∈ wsL_law0_r22, w ∈ lw_tbl := fun w h => (goodIn_r (big := lw_tbl) wsL_law0_r22 [693, 694, 695, 696, 697, 698] (by decide +kernel) (by decide +kernel) w h).1
set_option maxRecDepth 20000 in
theorem in_wsX50 : ∀ w ∈ wsX50, w ∈ lw_tbl := fun w h => (goodIn_p wsX50 [] (by decide +kernel) (by decide +kernel) w h).1
set_option maxRecDepth 20000 in
theorem in_wsX10 : ∀ w ∈ wsX10, w ∈ lw_tbl := fun w h => (goodIn_p wsX10 [] (by decide +kernel) (by decide +kernel) w h).1
set_option maxRecDepth 20000 in
theorem in_wsX40 : ∀ w ∈ wsX40, w ∈ lw_tbl := fun w h => (goodIn_p wsX40 [] (by decide +kernel) (by decide +kernel) w h).1
set_option maxRecDepth 20000 in
theorem in_wsX00 : ∀ w ∈ wsX00, w ∈ lw_tbl := fun w h => (goodIn_p wsX00 [] (by decide +kernel) (by decide +kernel) w h).1
set_option maxRecDepth 20000 in
theorem in_wsX20 : ∀ w ∈ wsX20, w ∈ lw_tbl := fun w h => (goodIn_p wsX20 [] (by decide +kernel) (by decide +kernel) w h).1
set_option maxRecDepth 20000 in
theorem in_wsX30 : ∀ w ∈ wsX30, w ∈ lw_tbl := fun w h => (goodIn_p wsX30 [] (by decide +kernel) (by decide +kernel) w h).1

theorem wsL_law_in0 : ∀ w ∈ wsL_law0, w ∈ lw_tbl := (ap_in (ap_in (ap_in (ap_in (ap_in (ap_in (ap_in (ap_in in_wsL_law0_r1 (ap_in in_wsL_law0_r2 (ap_in in_wsL_law0_r3 (ap_in in_wsL_law0_r4 (ap_in in_wsL_law0_r5 (ap_in in_wsL_law0_r6 (ap_in in_wsL_law0_r7 (ap_in in_wsL_law0_r8 (ap_in in_wsL_law0_r9 (ap_in in_wsL_law0_r10 (ap_in in_wsL_law0_r11 (ap_in in_wsL_law0_r12 (ap_in in_wsL_law0_r13 (ap_in in_wsL_law0_r14 (ap_in in_wsL_law0_r15 (ap_in in_wsL_law0_r16 (ap_in in_wsL_law0_r17 (ap_in in_wsL_law0_r18 (ap_in in_wsL_law0_r19 (ap_in in_wsL_law0_r20 (ap_in in_wsL_law0_r21 in_wsL_law0_r22))))))))))))))))))))) in_wsX50) in_wsX10) in_wsX40) in_wsX00) in_wsX20) in_wsX30) nil_in)
set_option maxRecDepth 20000 in
theorem wsL_law_x0 : ∀ w ∈ (vx_atS RX5 235 "java/lang/IndexOutOfBoundsException" ["java/lang/RuntimeException", "java/lang/Exception"]).filter goodWord, w ∈ lw_tbl := by decide +kernel
theorem wsL_law_x1 : ∀ w ∈ (vx_atS RX5 52 "java/lang/IllegalStateException" ["java/lang/RuntimeException", "java/lang/Exception"]).filter goodWord, w ∈ lw_tbl := by decide +kernel
theorem wsL_law_x2 : ∀ w ∈ (vx_atS RX5 174 "java/lang/IllegalArgumentException" ["java/lang/RuntimeException", "java/lang/Exception"]).filter goodWord, w ∈ lw_tbl := by decide +kernel
theorem wsL_law_in : ∀ w ∈ wsL_law, w ∈ lw_tbl := fun w h => (List.mem_append.mp h).elim (fun h => (List.mem_append.mp h).elim (fun h => (List.mem_append.mp h).elim (fun h => wsL_law_in0 w h) (fun h => wsL_law_x0 w h)) (fun h => wsL_law_x1 w h)) (fun h => wsL_law_x2 w h)
theorem inlX0 : ∀ w ∈ wsX00, w ∈ wsL_law := fun _ h => List.mem_append_left _ (List.mem_append_left _ (List.mem_append_left _ (List.mem_append_left _ (List.mem_append_left _ (List.mem_append_left _ (List.mem_append_right _ h))))))
theorem inX0 : ∀ w ∈ wsX00, w ∈ lw_tbl := fun w h => wsL_law_in w (inlX0 w h)
theorem inlX1 : ∀ w ∈ wsX10, w ∈ wsL_law := fun _ h => List.mem_append_left _ (List.mem_append_left _ (List.mem_append_left _ (List.mem_append_left _ (List.mem_append_left _ (List.mem_append_left _ (List.mem_append_left _ (List.mem_append_left _ (List.mem_append_right _ h))))))))
theorem inX1 : ∀ w ∈ wsX10, w ∈ lw_tbl := fun w h => wsL_law_in w (inlX1 w h)
theorem inlX2 : ∀ w ∈ wsX20, w ∈ wsL_law := fun _ h => List.mem_append_left _ (List.mem_append_left _ (List.mem_append_left _ (List.mem_append_left _ (List.mem_append_left _ (List.mem_append_right _ h)))))
theorem inX2 : ∀ w ∈ wsX20, w ∈ lw_tbl := fun w h => wsL_law_in w (inlX2 w h)
theorem inlX3 : ∀ w ∈ wsX30, w ∈ wsL_law := fun _ h => List.mem_append_left _ (List.mem_append_left _ (List.mem_append_left _ (List.mem_append_left _ (List.mem_append_right _ h))))
theorem inX3 : ∀ w ∈ wsX30, w ∈ lw_tbl := fun w h => wsL_law_in w (inlX3 w h)
theorem inlX4 : ∀ w ∈ wsX40, w ∈ wsL_law := fun _ h => List.mem_append_left _ (List.mem_append_left _ (List.mem_append_left _ (List.mem_append_left _ (List.mem_append_left _ (List.mem_append_left _ (List.mem_append_left _ (List.mem_append_right _ h)))))))
theorem inX4 : ∀ w ∈ wsX40, w ∈ lw_tbl := fun w h => wsL_law_in w (inlX4 w h)
theorem inlX5 : ∀ w ∈ wsX50, w ∈ wsL_law := fun _ h => List.mem_append_left _ (List.mem_append_left _ (List.mem_append_left _ (List.mem_append_left _ (List.mem_append_left _ (List.mem_append_left _ (List.mem_append_left _ (List.mem_append_left _ (List.mem_append_left _ (List.mem_append_right _ h)))))))))
theorem inX5 : ∀ w ∈ wsX50, w ∈ lw_tbl := fun w h => wsL_law_in w (inlX5 w h)
