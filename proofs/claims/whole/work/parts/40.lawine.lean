set_option maxRecDepth 20000 in
theorem lwi_29 : ∀ w ∈ wsL_law_r29, w ∈ lw_tbl := in_pl [924, 662, 664, 660, 661, 925, 927, 34, 928, 663, 929, 931, 35, 932, 933, 935, 36, 936, 937, 939, 37, 940, 941, 943] (by decide +kernel)
set_option maxRecDepth 20000 in
theorem lwi_30 : ∀ w ∈ wsL_law_r30, w ∈ lw_tbl := in_pl [945, 38, 946, 947, 949, 39, 950, 951, 953, 40, 954, 955, 957, 41, 958, 959, 961, 42, 962, 963, 965, 43, 966, 564] (by decide +kernel)
set_option maxRecDepth 20000 in
theorem lwi_31 : ∀ w ∈ wsL_law_r31, w ∈ lw_tbl := in_pl [565, 566, 567, 574, 167, 568, 569, 570, 571, 572, 573, 575, 576, 577, 578, 967, 968, 969, 970, 974, 971, 972, 973, 579] (by decide +kernel)
set_option maxRecDepth 20000 in
theorem lwi_32 : ∀ w ∈ wsL_law_r32, w ∈ lw_tbl := in_pl [580, 581, 582, 587, 169, 583, 584, 585, 586, 588, 589, 590, 591, 975, 976, 977, 978, 979, 981, 44, 982, 983, 984, 985] (by decide +kernel)
set_option maxRecDepth 20000 in
theorem lwi_33 : ∀ w ∈ wsL_law_r33, w ∈ lw_tbl := in_pl [986, 592, 593, 594, 595, 165, 600, 596, 597, 598, 599, 987, 988, 989, 990, 991, 993, 45, 994, 601, 602, 603, 604, 605] (by decide +kernel)
set_option maxRecDepth 20000 in
theorem lwi_34 : ∀ w ∈ wsL_law_r34, w ∈ lw_tbl := in_pl [995, 996, 997, 998, 606, 607, 608, 609, 610, 612, 5, 613, 999, 1000, 1001, 1002, 1003, 1005, 46, 1006, 614, 615, 616, 617] (by decide +kernel)
set_option maxRecDepth 20000 in
theorem lwi_35 : ∀ w ∈ wsL_law_r35, w ∈ lw_tbl := in_pl [618, 620, 6, 621, 1007, 1008, 1009, 1010, 1011, 1013, 47, 1014, 622, 623, 624, 625, 1015, 1016, 1017, 1018, 656, 626, 627, 628] (by decide +kernel)
