set_option maxRecDepth 20000 in
theorem lwi_15 : ∀ w ∈ wsL_law_r15, w ∈ lw_tbl := in_pl [330, 331, 332, 333, 334, 335, 336, 337, 338, 339, 340, 341, 342, 343, 344, 345, 346, 347, 348, 349, 820, 821, 822, 823] (by decide +kernel)
set_option maxRecDepth 20000 in
theorem lwi_16 : ∀ w ∈ wsL_law_r16, w ∈ lw_tbl := in_pl [824, 825, 826, 828, 25, 829, 830, 832, 26, 833, 834, 836, 27, 837, 350, 351, 352, 353, 354, 355, 356, 357, 358, 359] (by decide +kernel)
set_option maxRecDepth 20000 in
theorem lwi_17 : ∀ w ∈ wsL_law_r17, w ∈ lw_tbl := in_pl [360, 361, 362, 364, 363, 56, 838, 839, 840, 841, 842, 844, 28, 845, 846, 847, 848, 849, 851, 29, 852, 365, 366, 367] (by decide +kernel)
set_option maxRecDepth 20000 in
theorem lwi_18 : ∀ w ∈ wsL_law_r18, w ∈ lw_tbl := in_pl [368, 369, 371, 2, 372, 373, 374, 375, 376, 853, 854, 855, 856, 857, 859, 30, 860, 377, 378, 379, 380, 382, 381, 861] (by decide +kernel)
set_option maxRecDepth 20000 in
theorem lwi_19 : ∀ w ∈ wsL_law_r19, w ∈ lw_tbl := in_pl [862, 863, 864, 865, 383, 384, 385, 386, 866, 867, 868, 869, 387, 388, 389, 390, 870, 871, 872, 873, 391, 392, 393, 394] (by decide +kernel)
set_option maxRecDepth 20000 in
theorem lwi_20 : ∀ w ∈ wsL_law_r20, w ∈ lw_tbl := in_pl [395, 397, 3, 398, 399, 401, 4, 402, 874, 875, 876, 877, 878, 880, 31, 881, 882, 884, 32, 885, 403, 404, 405, 406] (by decide +kernel)
set_option maxRecDepth 20000 in
theorem lwi_21 : ∀ w ∈ wsL_law_r21, w ∈ lw_tbl := in_pl [886, 887, 888, 889, 407, 408, 409, 410, 411, 412, 413, 414, 416, 417, 890, 891, 892, 893, 894, 896, 33, 897, 418, 419] (by decide +kernel)
