/-! the law's words lie in the tables, each by its place -/
theorem in_p {big ws : List Cond} (ps : List Nat) (hp : ws = ps.filterMap (fun i => big[i]?)) : ∀ w ∈ ws, w ∈ big := by
  intro w hw
  rw [hp] at hw
  obtain ⟨i, -, hi⟩ := List.mem_filterMap.mp hw
  exact List.mem_of_getElem? hi
set_option maxRecDepth 20000 in
theorem li_r1 : ∀ w ∈ wsL_law0_r1, w ∈ lw_tbl := in_p [44, 45, 34, 456, 457, 36, 648, 46, 47, 48, 49, 50, 51, 131, 85, 86, 87, 88, 89, 90, 91, 92, 93, 94] (by decide +kernel)
set_option maxRecDepth 20000 in
theorem li_r2 : ∀ w ∈ wsL_law0_r2, w ∈ lw_tbl := in_p [96, 97, 52, 53, 35, 54, 55, 57, 0, 58, 59, 61, 1, 62, 63, 64, 65, 66, 68, 2, 69, 70, 72, 3] (by decide +kernel)
set_option maxRecDepth 20000 in
theorem li_r3 : ∀ w ∈ wsL_law0_r3, w ∈ lw_tbl := in_p [73, 74, 75, 76, 77, 79, 4, 80, 81, 83, 5, 84, 458, 459, 460, 461, 462, 463, 464, 465, 466, 469, 470, 471] (by decide +kernel)
set_option maxRecDepth 20000 in
theorem li_r4 : ∀ w ∈ wsL_law0_r4, w ∈ lw_tbl := in_p [473, 474, 476, 206, 207, 33, 208, 209, 210, 211, 212, 213, 214, 294, 41, 215, 216, 217, 221, 40, 218, 219, 220, 290] (by decide +kernel)
set_option maxRecDepth 20000 in
theorem li_r5 : ∀ w ∈ wsL_law0_r5, w ∈ lw_tbl := in_p [291, 292, 155, 157, 8, 158, 512, 513, 514, 515, 472, 516, 517, 518, 519, 520, 521, 522, 524, 23, 525, 508, 509, 510] (by decide +kernel)
set_option maxRecDepth 20000 in
theorem li_r6 : ∀ w ∈ wsL_law0_r6, w ∈ lw_tbl := in_p [511, 310, 311, 312, 313, 314, 315, 316, 526, 527, 528, 529, 530, 531, 532, 318, 319, 320, 321, 322, 323, 324, 98, 327] (by decide +kernel)
set_option maxRecDepth 20000 in
theorem li_r7 : ∀ w ∈ wsL_law0_r7, w ∈ lw_tbl := in_p [329, 19, 330, 332, 334, 20, 335, 533, 534, 535, 536, 467, 336, 337, 338, 339, 340, 341, 342, 343, 344, 346, 21, 347] (by decide +kernel)
set_option maxRecDepth 20000 in
theorem li_r8 : ∀ w ∈ wsL_law0_r8, w ∈ lw_tbl := in_p [348, 42, 537, 538, 539, 540, 541, 543, 24, 544, 132, 133, 134, 135, 99, 545, 546, 547, 548, 468, 364, 365, 366, 367] (by decide +kernel)
set_option maxRecDepth 20000 in
theorem li_r9 : ∀ w ∈ wsL_law0_r9, w ∈ lw_tbl := in_p [368, 369, 370, 140, 141, 142, 549, 550, 551, 552, 371, 372, 373, 374, 375, 376, 377, 553, 554, 555, 556, 378, 379, 380] (by decide +kernel)
set_option maxRecDepth 20000 in
theorem li_r10 : ∀ w ∈ wsL_law0_r10, w ∈ lw_tbl := in_p [381, 382, 383, 384, 175, 177, 13, 178, 557, 558, 559, 560, 561, 563, 25, 564, 565, 566, 568, 26, 569, 385, 386, 387] (by decide +kernel)
set_option maxRecDepth 20000 in
theorem li_r11 : ∀ w ∈ wsL_law0_r11, w ∈ lw_tbl := in_p [388, 389, 390, 391, 179, 181, 14, 182, 570, 571, 572, 573, 574, 576, 27, 577, 392, 393, 394, 395, 396, 397, 398, 195] (by decide +kernel)
set_option maxRecDepth 20000 in
theorem li_r12 : ∀ w ∈ wsL_law0_r12, w ∈ lw_tbl := in_p [196, 43, 197, 198, 199, 200, 578, 579, 580, 581, 582, 583, 584, 136, 137, 138, 139, 585, 586, 587, 588, 399, 400, 401] (by decide +kernel)
set_option maxRecDepth 20000 in
theorem li_r13 : ∀ w ∈ wsL_law0_r13, w ∈ lw_tbl := in_p [402, 403, 404, 405, 589, 590, 591, 592, 593, 595, 28, 596, 406, 407, 408, 409, 410, 411, 412, 597, 598, 599, 600, 413] (by decide +kernel)
set_option maxRecDepth 20000 in
theorem li_r14 : ∀ w ∈ wsL_law0_r14, w ∈ lw_tbl := in_p [414, 415, 416, 417, 418, 419, 601, 602, 603, 604, 420, 421, 422, 423, 424, 425, 426, 427, 428, 429, 147, 149, 6, 150] (by decide +kernel)
set_option maxRecDepth 20000 in
theorem li_r15 : ∀ w ∈ wsL_law0_r15, w ∈ lw_tbl := in_p [95, 159, 161, 9, 162, 163, 165, 10, 166, 167, 169, 11, 170, 171, 173, 12, 174, 605, 606, 607, 608, 609, 610, 611] (by decide +kernel)
set_option maxRecDepth 20000 in
theorem li_r16 : ∀ w ∈ wsL_law0_r16, w ∈ lw_tbl := in_p [612, 614, 29, 615, 475, 430, 431, 432, 433, 434, 435, 436, 437, 616, 617, 618, 619, 438, 439, 440, 441, 442, 443, 444] (by decide +kernel)
set_option maxRecDepth 20000 in
theorem li_r17 : ∀ w ∈ wsL_law0_r17, w ∈ lw_tbl := in_p [620, 621, 622, 623, 143, 144, 145, 146, 151, 153, 7, 154, 624, 625, 626, 627, 628, 630, 30, 631, 632, 634, 31, 635] (by decide +kernel)
set_option maxRecDepth 20000 in
theorem li_r18 : ∀ w ∈ wsL_law0_r18, w ∈ lw_tbl := in_p [183, 184, 185, 186, 187, 189, 15, 190, 191, 193, 16, 194, 201, 203, 17, 204, 205, 636, 637, 638, 639, 445, 446, 447] (by decide +kernel)
set_option maxRecDepth 20000 in
theorem li_r19 : ∀ w ∈ wsL_law0_r19, w ∈ lw_tbl := in_p [448, 449, 450, 451, 452, 454, 22, 455, 640, 641, 642, 643, 644, 646, 32, 647] (by decide +kernel)
set_option maxRecDepth 20000 in
theorem li_wsX00 : ∀ w ∈ wsX00, w ∈ lw_tbl := by decide +kernel
set_option maxRecDepth 20000 in
theorem li_wsX10 : ∀ w ∈ wsX10, w ∈ lw_tbl := by decide +kernel
