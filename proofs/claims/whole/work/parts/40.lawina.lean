/-! the law's words stand in the tables -/
theorem in_pl {big ws : List Cond} (ps : List Nat) (hp : ws = ps.filterMap (fun i => big[i]?)) : ∀ w ∈ ws, w ∈ big := by
  intro w hw
  rw [hp] at hw
  obtain ⟨i, -, hi⟩ := List.mem_filterMap.mp hw
  exact List.mem_of_getElem? hi
set_option maxRecDepth 20000 in
theorem lwi_1 : ∀ w ∈ wsL_law_r1, w ∈ lw_tbl := in_pl [61, 62, 50, 647, 648, 54, 1039, 63, 64, 65, 66, 67, 68, 69, 70, 51, 178, 179, 180, 126, 127, 52, 181, 157] (by decide +kernel)
set_option maxRecDepth 20000 in
theorem lwi_2 : ∀ w ∈ wsL_law_r2, w ∈ lw_tbl := in_pl [182, 159, 53, 125, 183, 184, 71, 72, 73, 74, 75, 77, 80, 83, 86, 89, 92, 94, 96, 98, 100, 128, 129, 130] (by decide +kernel)
set_option maxRecDepth 20000 in
theorem lwi_3 : ∀ w ∈ wsL_law_r3, w ∈ lw_tbl := in_pl [131, 132, 133, 135, 137, 139, 140, 141, 160, 161, 162, 163, 164, 166, 177, 168, 649, 650, 651, 652, 653, 654, 655, 657] (by decide +kernel)
set_option maxRecDepth 20000 in
theorem lwi_4 : ∀ w ∈ wsL_law_r4, w ∈ lw_tbl := in_pl [658, 665, 666, 667, 200, 201, 202, 203, 210, 87, 204, 205, 206, 207, 208, 209, 211, 213, 0, 214, 699, 700, 701, 702] (by decide +kernel)
set_option maxRecDepth 20000 in
theorem lwi_5 : ∀ w ∈ wsL_law_r5, w ∈ lw_tbl := in_pl [713, 703, 704, 705, 706, 707, 708, 709, 711, 7, 712, 714, 716, 8, 717, 215, 216, 217, 218, 78, 81, 84, 718, 719] (by decide +kernel)
set_option maxRecDepth 20000 in
theorem lwi_6 : ∀ w ∈ wsL_law_r6, w ∈ lw_tbl := in_pl [720, 721, 219, 220, 221, 222, 223, 224, 225, 226, 227, 228, 229, 230, 231, 232, 233, 234, 235, 236, 237, 238, 722, 723] (by decide +kernel)
set_option maxRecDepth 20000 in
theorem lwi_7 : ∀ w ∈ wsL_law_r7, w ∈ lw_tbl := in_pl [724, 725, 726, 728, 9, 729, 730, 732, 10, 733, 734, 736, 11, 737, 738, 740, 12, 741, 742, 744, 13, 745, 746, 748] (by decide +kernel)
