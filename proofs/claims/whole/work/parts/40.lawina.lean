/-! the law's words stand in the tables -/
theorem in_pl {big ws : List Cond} (ps : List Nat) (hp : ws = ps.filterMap (fun i => big[i]?)) : ∀ w ∈ ws, w ∈ big := by
  intro w hw
  rw [hp] at hw
  obtain ⟨i, -, hi⟩ := List.mem_filterMap.mp hw
  exact List.mem_of_getElem? hi
set_option maxRecDepth 20000 in
theorem lwi_1 : ∀ w ∈ wsL_law_r1, w ∈ lw_tbl := in_pl [61, 62, 50, 648, 649, 54, 1040, 63, 64, 65, 66, 67, 68, 69, 70, 51, 178, 179, 180, 126, 127, 52, 181, 157] (by decide +kernel)
set_option maxRecDepth 20000 in
theorem lwi_2 : ∀ w ∈ wsL_law_r2, w ∈ lw_tbl := in_pl [182, 159, 53, 125, 183, 184, 71, 72, 73, 74, 75, 77, 80, 83, 86, 89, 92, 94, 96, 98, 100, 128, 129, 130] (by decide +kernel)
set_option maxRecDepth 20000 in
theorem lwi_3 : ∀ w ∈ wsL_law_r3, w ∈ lw_tbl := in_pl [131, 132, 133, 135, 137, 139, 140, 141, 160, 161, 162, 163, 164, 166, 177, 168, 650, 651, 652, 653, 654, 655, 656, 658] (by decide +kernel)
set_option maxRecDepth 20000 in
theorem lwi_4 : ∀ w ∈ wsL_law_r4, w ∈ lw_tbl := in_pl [659, 666, 667, 668, 200, 201, 202, 203, 210, 87, 204, 205, 206, 207, 208, 209, 211, 213, 0, 214, 700, 701, 702, 703] (by decide +kernel)
set_option maxRecDepth 20000 in
theorem lwi_5 : ∀ w ∈ wsL_law_r5, w ∈ lw_tbl := in_pl [714, 704, 705, 706, 707, 708, 709, 710, 712, 7, 713, 715, 717, 8, 718, 215, 216, 217, 218, 78, 81, 84, 719, 720] (by decide +kernel)
set_option maxRecDepth 20000 in
theorem lwi_6 : ∀ w ∈ wsL_law_r6, w ∈ lw_tbl := in_pl [721, 722, 219, 220, 221, 222, 223, 224, 225, 226, 227, 228, 229, 230, 231, 232, 233, 234, 235, 236, 237, 238, 723, 724] (by decide +kernel)
set_option maxRecDepth 20000 in
theorem lwi_7 : ∀ w ∈ wsL_law_r7, w ∈ lw_tbl := in_pl [725, 726, 727, 729, 9, 730, 731, 733, 10, 734, 735, 737, 11, 738, 739, 741, 12, 742, 743, 745, 13, 746, 747, 749] (by decide +kernel)
