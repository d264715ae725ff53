set_option maxRecDepth 20000 in
theorem lwi_22 : ∀ w ∈ wsL_law_r22, w ∈ lw_tbl := in_pl [420, 421, 422, 423, 424, 425, 897, 898, 899, 900, 426, 427, 428, 429, 901, 902, 903, 904, 430, 431, 432, 433, 905, 906] (by decide +kernel)
set_option maxRecDepth 20000 in
theorem lwi_23 : ∀ w ∈ wsL_law_r23, w ∈ lw_tbl := in_pl [907, 908, 434, 435, 436, 437, 909, 910, 911, 912, 438, 439, 440, 441, 134, 442, 443, 444, 445, 913, 914, 915, 916, 659] (by decide +kernel)
set_option maxRecDepth 20000 in
theorem lwi_24 : ∀ w ∈ wsL_law_r24, w ∈ lw_tbl := in_pl [446, 447, 448, 449, 917, 918, 919, 920, 450, 451, 452, 453, 138, 136, 454, 455, 456, 457, 458, 459, 460, 461, 462, 463] (by decide +kernel)
set_option maxRecDepth 20000 in
theorem lwi_25 : ∀ w ∈ wsL_law_r25, w ∈ lw_tbl := in_pl [464, 465, 466, 467, 468, 469, 470, 471, 472, 473, 474, 475, 476, 477, 478, 479, 480, 481, 488, 489, 490, 491, 492, 493] (by decide +kernel)
set_option maxRecDepth 20000 in
theorem lwi_26 : ∀ w ∈ wsL_law_r26, w ∈ lw_tbl := in_pl [494, 57, 495, 1040, 496, 497, 498, 499, 500, 1041, 502, 503, 504, 505, 506, 507, 508, 509, 510, 511, 58, 512, 513, 514] (by decide +kernel)
set_option maxRecDepth 20000 in
theorem lwi_27 : ∀ w ∈ wsL_law_r27, w ∈ lw_tbl := in_pl [515, 516, 518, 519, 59, 520, 521, 522, 60, 523, 524, 525, 526, 527, 528, 529, 530, 531, 532, 533, 534, 536, 538, 540] (by decide +kernel)
set_option maxRecDepth 20000 in
theorem lwi_28 : ∀ w ∈ wsL_law_r28, w ∈ lw_tbl := in_pl [541, 542, 543, 90, 545, 546, 547, 548, 550, 552, 553, 554, 555, 88, 556, 557, 558, 559, 79, 82, 85, 921, 922, 923] (by decide +kernel)
