set_option maxRecDepth 20000 in
theorem lwi_15 : ∀ w ∈ wsL_law_r15, w ∈ lw_tbl := in_pl [330, 331, 332, 333, 334, 335, 336, 337, 338, 339, 340, 341, 342, 343, 344, 345, 346, 347, 348, 349, 819, 820, 821, 822] (by decide +kernel)
set_option maxRecDepth 20000 in
theorem lwi_16 : ∀ w ∈ wsL_law_r16, w ∈ lw_tbl := in_pl [823, 824, 825, 827, 25, 828, 829, 831, 26, 832, 833, 835, 27, 836, 350, 351, 352, 353, 354, 355, 356, 357, 358, 359] (by decide +kernel)
set_option maxRecDepth 20000 in
theorem lwi_17 : ∀ w ∈ wsL_law_r17, w ∈ lw_tbl := in_pl [360, 361, 362, 364, 363, 56, 837, 838, 839, 840, 841, 843, 28, 844, 845, 846, 847, 848, 850, 29, 851, 365, 366, 367] (by decide +kernel)
set_option maxRecDepth 20000 in
theorem lwi_18 : ∀ w ∈ wsL_law_r18, w ∈ lw_tbl := in_pl [368, 369, 371, 2, 372, 373, 374, 375, 376, 852, 853, 854, 855, 856, 858, 30, 859, 377, 378, 379, 380, 382, 381, 860] (by decide +kernel)
set_option maxRecDepth 20000 in
theorem lwi_19 : ∀ w ∈ wsL_law_r19, w ∈ lw_tbl := in_pl [861, 862, 863, 864, 383, 384, 385, 386, 865, 866, 867, 868, 387, 388, 389, 390, 869, 870, 871, 872, 391, 392, 393, 394] (by decide +kernel)
set_option maxRecDepth 20000 in
theorem lwi_20 : ∀ w ∈ wsL_law_r20, w ∈ lw_tbl := in_pl [395, 397, 3, 398, 399, 401, 4, 402, 873, 874, 875, 876, 877, 879, 31, 880, 881, 883, 32, 884, 403, 404, 405, 406] (by decide +kernel)
set_option maxRecDepth 20000 in
theorem lwi_21 : ∀ w ∈ wsL_law_r21, w ∈ lw_tbl := in_pl [885, 886, 887, 888, 407, 408, 409, 410, 411, 412, 413, 414, 416, 417, 889, 890, 891, 892, 893, 895, 33, 896, 418, 419] (by decide +kernel)
