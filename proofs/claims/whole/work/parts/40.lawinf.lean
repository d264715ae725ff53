set_option maxRecDepth 20000 in
theorem lwi_36 : ∀ w ∈ wsL_law_r36, w ∈ lw_tbl := in_pl [629, 1019, 1020, 1021, 1022, 630, 631, 632, 633, 1023, 1024, 1025, 1026, 634, 635, 636, 637, 638, 639, 640, 641, 1027, 1028, 1029] (by decide +kernel)
set_option maxRecDepth 20000 in
theorem lwi_37 : ∀ w ∈ wsL_law_r37, w ∈ lw_tbl := in_pl [1030, 1031, 1033, 48, 1034, 642, 643, 644, 645, 646, 1035, 1036, 1037, 1038] (by decide +kernel)
set_option maxRecDepth 20000 in
theorem lwiX0 : ∀ w ∈ wsX00, w ∈ lw_tbl := by decide +kernel
set_option maxRecDepth 20000 in
theorem lwiX1 : ∀ w ∈ wsX10, w ∈ lw_tbl := by decide +kernel
set_option maxRecDepth 20000 in
theorem lwiX2 : ∀ w ∈ wsX20, w ∈ lw_tbl := by decide +kernel
set_option maxRecDepth 20000 in
theorem lwiX3 : ∀ w ∈ wsX30, w ∈ lw_tbl := by decide +kernel
set_option maxRecDepth 20000 in
theorem lwiX4 : ∀ w ∈ wsX40, w ∈ lw_tbl := by decide +kernel
theorem wsL_law_in : ∀ w ∈ wsL_law, w ∈ lw_tbl := List.forall_mem_append.mpr ⟨(List.forall_mem_append.mpr ⟨(List.forall_mem_append.mpr ⟨(List.forall_mem_append.mpr ⟨(List.forall_mem_append.mpr ⟨(List.forall_mem_append.mpr ⟨(List.forall_mem_append.mpr ⟨lwi_1, (List.forall_mem_append.mpr ⟨lwi_2, (List.forall_mem_append.mpr ⟨lwi_3, (List.forall_mem_append.mpr ⟨lwi_4, (List.forall_mem_append.mpr ⟨lwi_5, (List.forall_mem_append.mpr ⟨lwi_6, (List.forall_mem_append.mpr ⟨lwi_7, (List.forall_mem_append.mpr ⟨lwi_8, (List.forall_mem_append.mpr ⟨lwi_9, (List.forall_mem_append.mpr ⟨lwi_10, (List.forall_mem_append.mpr ⟨lwi_11, (List.forall_mem_append.mpr ⟨lwi_12, (List.forall_mem_append.mpr ⟨lwi_13, (List.forall_mem_append.mpr ⟨lwi_14, (List.forall_mem_append.mpr ⟨lwi_15, (List.forall_mem_append.mpr ⟨lwi_16, (List.forall_mem_append.mpr ⟨lwi_17, (List.forall_mem_append.mpr ⟨lwi_18, (List.forall_mem_append.mpr ⟨lwi_19, (List.forall_mem_append.mpr ⟨lwi_20, (List.forall_mem_append.mpr ⟨lwi_21, (List.forall_mem_append.mpr ⟨lwi_22, (List.forall_mem_append.mpr ⟨lwi_23, (List.forall_mem_append.mpr ⟨lwi_24, (List.forall_mem_append.mpr ⟨lwi_25, (List.forall_mem_append.mpr ⟨lwi_26, (List.forall_mem_append.mpr ⟨lwi_27, (List.forall_mem_append.mpr ⟨lwi_28, (List.forall_mem_append.mpr ⟨lwi_29, (List.forall_mem_append.mpr ⟨lwi_30, (List.forall_mem_append.mpr ⟨lwi_31, (List.forall_mem_append.mpr ⟨lwi_32, (List.forall_mem_append.mpr ⟨lwi_33, (List.forall_mem_append.mpr ⟨lwi_34, (List.forall_mem_append.mpr ⟨lwi_35, (List.forall_mem_append.mpr ⟨lwi_36, lwi_37⟩)⟩)⟩)⟩)⟩)⟩)⟩)⟩)⟩)⟩)⟩)⟩)⟩)⟩)⟩)⟩)⟩)⟩)⟩)⟩)⟩)⟩)⟩)⟩)⟩)⟩)⟩)⟩)⟩)⟩)⟩)⟩)⟩)⟩)⟩)⟩), lwiX3⟩), lwiX4⟩), lwiX2⟩), lwiX1⟩), lwiX0⟩), fun _ h => absurd h List.not_mem_nil⟩
