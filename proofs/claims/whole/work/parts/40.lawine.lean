set_option maxRecDepth 20000 in
theorem lwi_29 : ∀ w ∈ wsL_law_r29, w ∈ lw_tbl := in_pl [924, 925, 663, 665, 661, 662, 926, 928, 34, 929, 664, 930, 932, 35, 933, 934, 936, 36, 937, 938, 940, 37, 941, 942] (by decide +kernel)
set_option maxRecDepth 20000 in
theorem lwi_30 : ∀ w ∈ wsL_law_r30, w ∈ lw_tbl := in_pl [944, 946, 38, 947, 948, 950, 39, 951, 952, 954, 40, 955, 956, 958, 41, 959, 960, 962, 42, 963, 964, 966, 43, 967] (by decide +kernel)
set_option maxRecDepth 20000 in
theorem lwi_31 : ∀ w ∈ wsL_law_r31, w ∈ lw_tbl := in_pl [565, 566, 567, 568, 575, 167, 569, 570, 571, 572, 573, 574, 576, 577, 578, 579, 968, 969, 970, 971, 975, 972, 973, 974] (by decide +kernel)
set_option maxRecDepth 20000 in
theorem lwi_32 : ∀ w ∈ wsL_law_r32, w ∈ lw_tbl := in_pl [580, 581, 582, 583, 588, 169, 584, 585, 586, 587, 589, 590, 591, 592, 976, 977, 978, 979, 980, 982, 44, 983, 984, 985] (by decide +kernel)
set_option maxRecDepth 20000 in
theorem lwi_33 : ∀ w ∈ wsL_law_r33, w ∈ lw_tbl := in_pl [986, 987, 593, 594, 595, 596, 165, 601, 597, 598, 599, 600, 988, 989, 990, 991, 992, 994, 45, 995, 602, 603, 604, 605] (by decide +kernel)
set_option maxRecDepth 20000 in
theorem lwi_34 : ∀ w ∈ wsL_law_r34, w ∈ lw_tbl := in_pl [606, 996, 997, 998, 999, 607, 608, 609, 610, 611, 613, 5, 614, 1000, 1001, 1002, 1003, 1004, 1006, 46, 1007, 615, 616, 617] (by decide +kernel)
set_option maxRecDepth 20000 in
theorem lwi_35 : ∀ w ∈ wsL_law_r35, w ∈ lw_tbl := in_pl [618, 619, 621, 6, 622, 1008, 1009, 1010, 1011, 1012, 1014, 47, 1015, 623, 624, 625, 626, 1016, 1017, 1018, 1019, 657, 627, 628] (by decide +kernel)
