set_option maxRecDepth 20000 in
theorem lwi_22 : ∀ w ∈ wsL_law_r22, w ∈ lw_tbl := in_pl [420, 421, 422, 423, 424, 425, 898, 899, 900, 901, 426, 427, 428, 429, 430, 902, 903, 904, 905, 431, 432, 433, 434, 906] (by decide +kernel)
set_option maxRecDepth 20000 in
theorem lwi_23 : ∀ w ∈ wsL_law_r23, w ∈ lw_tbl := in_pl [907, 908, 909, 435, 436, 437, 438, 910, 911, 912, 913, 439, 440, 441, 442, 134, 443, 444, 445, 446, 914, 915, 916, 917] (by decide +kernel)
set_option maxRecDepth 20000 in
theorem lwi_24 : ∀ w ∈ wsL_law_r24, w ∈ lw_tbl := in_pl [660, 447, 448, 449, 450, 918, 919, 920, 921, 451, 452, 453, 454, 138, 136, 455, 456, 457, 458, 459, 460, 461, 462, 463] (by decide +kernel)
set_option maxRecDepth 20000 in
theorem lwi_25 : ∀ w ∈ wsL_law_r25, w ∈ lw_tbl := in_pl [464, 465, 466, 467, 468, 469, 470, 471, 472, 473, 474, 475, 476, 477, 478, 479, 480, 481, 482, 489, 490, 491, 492, 493] (by decide +kernel)
set_option maxRecDepth 20000 in
theorem lwi_26 : ∀ w ∈ wsL_law_r26, w ∈ lw_tbl := in_pl [494, 495, 57, 496, 1041, 497, 498, 499, 500, 501, 1042, 503, 504, 505, 506, 507, 508, 509, 510, 511, 512, 58, 513, 514] (by decide +kernel)
set_option maxRecDepth 20000 in
theorem lwi_27 : ∀ w ∈ wsL_law_r27, w ∈ lw_tbl := in_pl [515, 516, 517, 519, 520, 59, 521, 522, 523, 60, 524, 525, 526, 527, 528, 529, 530, 531, 532, 533, 534, 535, 537, 539] (by decide +kernel)
set_option maxRecDepth 20000 in
theorem lwi_28 : ∀ w ∈ wsL_law_r28, w ∈ lw_tbl := in_pl [541, 542, 543, 544, 90, 546, 547, 548, 549, 551, 553, 554, 555, 556, 88, 557, 558, 559, 560, 79, 82, 85, 922, 923] (by decide +kernel)
