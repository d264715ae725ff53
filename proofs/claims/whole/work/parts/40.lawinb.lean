set_option maxRecDepth 20000 in
theorem lwi_8 : ∀ w ∈ wsL_law_r8, w ∈ lw_tbl := in_pl [14, 749, 239, 240, 241, 242, 76, 243, 244, 245, 246, 247, 248, 249, 250, 251, 252, 253, 254, 255, 256, 257, 258, 259] (by decide +kernel)
set_option maxRecDepth 20000 in
theorem lwi_9 : ∀ w ∈ wsL_law_r9, w ∈ lw_tbl := in_pl [260, 261, 750, 751, 752, 753, 754, 756, 15, 757, 758, 760, 16, 761, 762, 764, 17, 765, 766, 768, 18, 769, 770, 772] (by decide +kernel)
set_option maxRecDepth 20000 in
theorem lwi_10 : ∀ w ∈ wsL_law_r10, w ∈ lw_tbl := in_pl [19, 773, 262, 263, 264, 265, 91, 269, 266, 267, 268, 270, 271, 272, 273, 774, 775, 776, 777, 778, 779, 781, 20, 782] (by decide +kernel)
set_option maxRecDepth 20000 in
theorem lwi_11 : ∀ w ∈ wsL_law_r11, w ∈ lw_tbl := in_pl [783, 785, 21, 786, 274, 275, 276, 277, 93, 95, 97, 99, 101, 278, 280, 1, 281, 282, 283, 284, 285, 286, 287, 288] (by decide +kernel)
set_option maxRecDepth 20000 in
theorem lwi_12 : ∀ w ∈ wsL_law_r12, w ∈ lw_tbl := in_pl [289, 290, 291, 292, 293, 296, 297, 298, 299, 55, 300, 301, 302, 303, 304, 305, 306, 307, 308, 787, 788, 789, 790, 791] (by decide +kernel)
set_option maxRecDepth 20000 in
theorem lwi_13 : ∀ w ∈ wsL_law_r13, w ∈ lw_tbl := in_pl [793, 22, 794, 795, 797, 23, 798, 799, 800, 801, 802, 804, 24, 805, 309, 310, 311, 312, 313, 314, 315, 806, 807, 808] (by decide +kernel)
set_option maxRecDepth 20000 in
theorem lwi_14 : ∀ w ∈ wsL_law_r14, w ∈ lw_tbl := in_pl [809, 316, 317, 318, 319, 810, 811, 812, 813, 320, 321, 322, 323, 327, 324, 325, 326, 814, 815, 816, 817, 818, 328, 329] (by decide +kernel)
