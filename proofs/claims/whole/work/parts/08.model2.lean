set_option maxHeartbeats 4000000 in
set_option maxRecDepth 100000 in
theorem c_X4_clock (l : Launch) (E : gE) (h : Nat) (fs : List Value) (qm : Nat) (m : Nat → Int32) (hf0 : fs[0]? = some (.ref qm)) : gI l yX4_clock wsX4_clock ({ frames := 0, cells := 0, slots := 0, locals := 0 }) E [(h, .inr (4, fs)), (qm, .inl (eI E, 75, .inl m))] (fun _ : Unit => [(h, .inr (4, fs)), (qm, .inl (eI E, 75, .inl m))]) [.ref h] (fun (r : Int32) (_ : Unit) => r = day (m 0)) := by
  have hin4 : ∀ w ∈ wsX40, w ∈ wsX4_clock := (fun _ h => (List.mem_cons_of_mem _ (List.mem_append_right _ h)))
  refine gI.of (cc := cX4_clock) (maxL := 1) (by decide) rfl (Nat.le_of_ble_eq_true rfl) ?_
  intro pG eG sG mG below meth cG A ls H locs F hr hlk hX hP hD hA hS hl
  have hl : lv_has ls 1 [(0, .ref h)] := hl
  refine lv_aload_n F.1 F.2.1 dX4_clock_0 rfl (lv_at hl 0 rfl) ?_
  refine g_get F hX hP hin4 0 rfl rfl 0 (by decide) (mm 1 rfl) hf0 dX4_clock_1 ?_
  refine lv_iconst (v := 0) F.1 F.2.1 dX4_clock_4 (by decide) ?_
  refine g_iald F hX hP 1 rfl (j := 0) (rfl) (by decide) (by decide) dX4_clock_5 ?_
  refine lv_bipush (v := 100) F.1 F.2.1 dX4_clock_6 (by decide) ?_
  refine lv_irem F.1 F.2.1 dX4_clock_8 (by decide) ?_
  exact g_reti F hr hlk (vp_nar_int _) hS hP hD (()) (rfl) (rfl) dX4_clock_9
set_option maxHeartbeats 4000000 in
set_option maxRecDepth 100000 in
theorem c_X4_edge (l : Launch) (E : gE) (h : Nat) (fs : List Value) (qm : Nat) (m : Nat → Int32) (hf0 : fs[0]? = some (.ref qm)) : gI l yX4_edge wsX4_edge ({ frames := 1, cells := 0, slots := 0, locals := 20 }) E [(h, .inr (4, fs)), (qm, .inl (eI E, 75, .inl m))] (fun _ : Unit => [(h, .inr (4, fs)), (qm, .inl (eI E, 75, .inl m))]) [.ref h] (fun (r : Int32) (_ : Unit) => r = eg (m 0) (m 1) (m 3)) := by
  have hin4 : ∀ w ∈ wsX40, w ∈ wsX4_edge := (fun _ h => (List.mem_cons_of_mem _ (List.mem_append_right _ h)))
  refine gI.of (cc := cX4_edge) (maxL := 1) (by decide) rfl (Nat.le_of_ble_eq_true rfl) ?_
  intro pG eG sG mG below meth cG A ls H locs F hr hlk hX hP hD hA hS hl
  have hl : lv_has ls 1 [(0, .ref h)] := hl
  refine lv_aload_n F.1 F.2.1 dX4_edge_0 rfl (lv_at hl 0 rfl) ?_
  refine g_get F hX hP hin4 0 rfl rfl 0 (by decide) (mm 1 rfl) hf0 dX4_edge_1 ?_
  refine lv_iconst (v := 3) F.1 F.2.1 dX4_edge_4 (by decide) ?_
  refine g_iald F hX hP 1 rfl (j := 3) (rfl) (by decide) (by decide) dX4_edge_5 ?_
  refine lv_aload_n F.1 F.2.1 dX4_edge_6 rfl (lv_at hl 0 rfl) ?_
  refine g_goIr (g_runV (As := []) (rest := [.int (m 3)]) F hX hP hD hS hA (c_X4_clock l E h fs qm m (by first | assumption | rfl) H.size) (cwV 0 F.2.2.2.2 gX4_edge_X4_clock rfl rfl rfl (by decide +kernel) ⟨Nat.le_of_ble_eq_true rfl, Nat.le_of_ble_eq_true rfl⟩) [0, 1] rfl rfl (q0 := 0) (ci := 4) rfl rfl rfl hl.1 rfl (Nat.le_of_ble_eq_true rfl) dX4_edge_7 ⟨Nat.le_refl _, Nat.le_refl _⟩) hP hD hS hA [0, 1] rfl (fun r _ H locs hq hP hS => ?_)
  subst hq
  refine lv_aload_n F.1 F.2.1 dX4_edge_10 rfl (lv_at hl 0 rfl) ?_
  refine g_get F hX hP hin4 0 rfl rfl 0 (by decide) (mm 1 rfl) hf0 dX4_edge_11 ?_
  refine lv_iconst (v := 1) F.1 F.2.1 dX4_edge_14 (by decide) ?_
  refine g_iald F hX hP 1 rfl (j := 1) (rfl) (by decide) (by decide) dX4_edge_15 ?_
  refine lv_isub F.1 F.2.1 dX4_edge_16 ?_
  refine lv_imul F.1 F.2.1 dX4_edge_17 ?_
  exact g_reti F hr hlk (vp_nar_int _) hS hP hD (()) (rfl) (rfl) dX4_edge_18
set_option maxHeartbeats 4000000 in
set_option maxRecDepth 100000 in
theorem c_X4_isHush (l : Launch) (E : gE) (h : Nat) (fs : List Value) (qm : Nat) (m : Nat → Int32) (hf0 : fs[0]? = some (.ref qm)) : gI l yX4_isHush wsX4_isHush ({ frames := 2, cells := 0, slots := 0, locals := 40 }) E [(h, .inr (4, fs)), (qm, .inl (eI E, 75, .inl m))] (fun _ : Unit => [(h, .inr (4, fs)), (qm, .inl (eI E, 75, .inl m))]) [.ref h] (fun (r : Int32) (_ : Unit) => r = bi (huM (m 0) (m 1) (m 2) (m 3))) := by
  have hin4 : ∀ w ∈ wsX40, w ∈ wsX4_isHush := (fun _ h => (List.mem_cons_of_mem _ (List.mem_append_right _ h)))
  refine gI.of (cc := cX4_isHush) (maxL := 1) (by decide) rfl (Nat.le_of_ble_eq_true rfl) ?_
  intro pG eG sG mG below meth cG A ls H locs F hr hlk hX hP hD hA hS hl
  have hl : lv_has ls 1 [(0, .ref h)] := hl
  refine lv_aload_n F.1 F.2.1 dX4_isHush_0 rfl (lv_at hl 0 rfl) ?_
  refine g_goIr (g_runV (As := []) (rest := []) F hX hP hD hS hA (c_X4_clock l E h fs qm m (by first | assumption | rfl) H.size) (cwV 0 F.2.2.2.2 gX4_isHush_X4_clock rfl rfl rfl (by decide +kernel) ⟨Nat.le_of_ble_eq_true rfl, Nat.le_of_ble_eq_true rfl⟩) [0, 1] rfl rfl (q0 := 0) (ci := 4) rfl rfl rfl hl.1 rfl (Nat.le_of_ble_eq_true rfl) dX4_isHush_1 ⟨Nat.le_refl _, Nat.le_refl _⟩) hP hD hS hA [0, 1] rfl (fun r _ H locs hq hP hS => ?_)
  subst hq
  refine lv_aload_n F.1 F.2.1 dX4_isHush_4 rfl (lv_at hl 0 rfl) ?_
  refine g_get F hX hP hin4 0 rfl rfl 0 (by decide) (mm 1 rfl) hf0 dX4_isHush_5 ?_
  refine lv_iconst (v := 1) F.1 F.2.1 dX4_isHush_8 (by decide) ?_
  refine g_iald F hX hP 1 rfl (j := 1) (rfl) (by decide) (by decide) dX4_isHush_9 ?_
  refine lv_icmp_lt (tgt := 44) F.1 F.2.1 dX4_isHush_10 (by decide) (fun k1 => ?_) (fun k1 => ?_)
  · refine lv_iconst (v := 0) F.1 F.2.1 dX4_isHush_44 (by decide) ?_
    exact g_reti F hr hlk rfl hS hP hD (()) (rfl) (by simp [huM, bi, k1]) dX4_isHush_45
  · refine lv_aload_n F.1 F.2.1 dX4_isHush_13 rfl (lv_at hl 0 rfl) ?_
    refine g_get F hX hP hin4 0 rfl rfl 0 (by decide) (mm 1 rfl) hf0 dX4_isHush_14 ?_
    refine lv_iconst (v := 2) F.1 F.2.1 dX4_isHush_17 (by decide) ?_
    refine g_iald F hX hP 1 rfl (j := 2) (rfl) (by decide) (by decide) dX4_isHush_18 ?_
    refine lv_if_le (tgt := 44) F.1 F.2.1 dX4_isHush_19 (by decide) (fun k2 => ?_) (fun k2 => ?_)
    · refine lv_iconst (v := 0) F.1 F.2.1 dX4_isHush_44 (by decide) ?_
      exact g_reti F hr hlk rfl hS hP hD (()) (rfl) (by simp [huM, bi, k1, k2]) dX4_isHush_45
    · refine lv_aload_n F.1 F.2.1 dX4_isHush_22 rfl (lv_at hl 0 rfl) ?_
      refine g_goIr (g_runV (As := []) (rest := []) F hX hP hD hS hA (c_X4_edge l E h fs qm m (by first | assumption | rfl) H.size) (cwV 0 F.2.2.2.2 gX4_isHush_X4_edge rfl rfl rfl (by decide +kernel) ⟨Nat.le_of_ble_eq_true rfl, Nat.le_of_ble_eq_true rfl⟩) [0, 1] rfl rfl (q0 := 0) (ci := 4) rfl rfl rfl hl.1 rfl (Nat.le_of_ble_eq_true rfl) dX4_isHush_23 ⟨Nat.le_refl _, Nat.le_refl _⟩) hP hD hS hA [0, 1] rfl (fun r _ H locs hq hP hS => ?_)
      subst hq
      refine lv_aload_n F.1 F.2.1 dX4_isHush_26 rfl (lv_at hl 0 rfl) ?_
      refine g_get F hX hP hin4 0 rfl rfl 0 (by decide) (mm 1 rfl) hf0 dX4_isHush_27 ?_
      refine lv_iconst (v := 2) F.1 F.2.1 dX4_isHush_30 (by decide) ?_
      refine g_iald F hX hP 1 rfl (j := 2) (rfl) (by decide) (by decide) dX4_isHush_31 ?_
      refine lv_isub F.1 F.2.1 dX4_isHush_32 ?_
      refine lv_iconst (v := 1) F.1 F.2.1 dX4_isHush_33 (by decide) ?_
      refine lv_iadd F.1 F.2.1 dX4_isHush_34 ?_
      refine lv_bipush (v := 29) F.1 F.2.1 dX4_isHush_35 (by decide) ?_
      refine lv_icmp_gt (tgt := 44) F.1 F.2.1 dX4_isHush_37 (by decide) (fun k3 => ?_) (fun k3 => ?_)
      · refine lv_iconst (v := 0) F.1 F.2.1 dX4_isHush_44 (by decide) ?_
        exact g_reti F hr hlk rfl hS hP hD (()) (rfl) (by simp [huM, bi, k1, k2, k3]) dX4_isHush_45
      · refine lv_iconst (v := 1) F.1 F.2.1 dX4_isHush_40 (by decide) ?_
        refine lv_goto (tgt := 45) F.1 F.2.1 dX4_isHush_41 (by decide) ?_
        exact g_reti F hr hlk rfl hS hP hD (()) (rfl) (by simp [huM, bi, k1, k2, k3]) dX4_isHush_45
set_option maxHeartbeats 4000000 in
set_option maxRecDepth 100000 in
theorem c_X4_isTaken (l : Launch) (E : gE) (h : Nat) (fs : List Value) (qm : Nat) (m : Nat → Int32) (g : Int32) (hf0 : fs[0]? = some (.ref qm)) : gI l yX4_isTaken wsX4_isTaken ({ frames := 3, cells := 0, slots := 0, locals := 60 }) E [(h, .inr (4, fs)), (qm, .inl (eI E, 75, .inl m))] (fun _ : Unit => [(h, .inr (4, fs)), (qm, .inl (eI E, 75, .inl m))]) [.ref h, .int g] (fun (r : Int32) (_ : Unit) => r = bi (tkM (m 0) (m 1) (m 2) (m 3) g)) := by
  have hin4 : ∀ w ∈ wsX40, w ∈ wsX4_isTaken := (fun _ h => (List.mem_cons_of_mem _ (List.mem_append_right _ h)))
  refine gI.of (cc := cX4_isTaken) (maxL := 2) (by decide) rfl (Nat.le_of_ble_eq_true rfl) ?_
  intro pG eG sG mG below meth cG A ls H locs F hr hlk hX hP hD hA hS hl
  have hl : lv_has ls 2 [(0, .ref h), (1, .int g)] := hl
  refine lv_aload_n F.1 F.2.1 dX4_isTaken_0 rfl (lv_at hl 0 rfl) ?_
  refine g_goIr (g_runV (As := []) (rest := []) F hX hP hD hS hA (c_X4_isHush l E h fs qm m (by first | assumption | rfl) H.size) (cwV 0 F.2.2.2.2 gX4_isTaken_X4_isHush rfl rfl rfl (by decide +kernel) ⟨Nat.le_of_ble_eq_true rfl, Nat.le_of_ble_eq_true rfl⟩) [0, 1] rfl rfl (q0 := 0) (ci := 4) rfl rfl rfl hl.1 rfl (Nat.le_of_ble_eq_true rfl) dX4_isTaken_1 ⟨Nat.le_refl _, Nat.le_refl _⟩) hP hD hS hA [0, 1] rfl (fun r _ H locs hq hP hS => ?_)
  subst hq
  refine g_beq (tgt := 34) F dX4_isTaken_4 (by decide) (fun k1 => ?_) (fun k1 => ?_)
  · refine lv_iconst (v := 0) F.1 F.2.1 dX4_isTaken_34 (by decide) ?_
    exact g_reti F hr hlk rfl hS hP hD (()) (rfl) (by simp [tkM, bi, k1]) dX4_isTaken_35
  · refine lv_iload_n F.1 F.2.1 dX4_isTaken_7 rfl (lv_at hl 1 rfl) ?_
    refine lv_aload_n F.1 F.2.1 dX4_isTaken_8 rfl (lv_at hl 0 rfl) ?_
    refine g_goIr (g_runV (As := []) (rest := [.int g]) F hX hP hD hS hA (c_X4_edge l E h fs qm m (by first | assumption | rfl) H.size) (cwV 0 F.2.2.2.2 gX4_isTaken_X4_edge rfl rfl rfl (by decide +kernel) ⟨Nat.le_of_ble_eq_true rfl, Nat.le_of_ble_eq_true rfl⟩) [0, 1] rfl rfl (q0 := 0) (ci := 4) rfl rfl rfl hl.1 rfl (Nat.le_of_ble_eq_true rfl) dX4_isTaken_9 ⟨Nat.le_refl _, Nat.le_refl _⟩) hP hD hS hA [0, 1] rfl (fun r _ H locs hq hP hS => ?_)
    subst hq
    refine lv_icmp_gt (tgt := 34) F.1 F.2.1 dX4_isTaken_12 (by decide) (fun k2 => ?_) (fun k2 => ?_)
    · refine lv_iconst (v := 0) F.1 F.2.1 dX4_isTaken_34 (by decide) ?_
      exact g_reti F hr hlk rfl hS hP hD (()) (rfl) (by simp [tkM, bi, k1, k2]) dX4_isTaken_35
    · refine lv_iload_n F.1 F.2.1 dX4_isTaken_15 rfl (lv_at hl 1 rfl) ?_
      refine lv_aload_n F.1 F.2.1 dX4_isTaken_16 rfl (lv_at hl 0 rfl) ?_
      refine g_goIr (g_runV (As := []) (rest := [.int g]) F hX hP hD hS hA (c_X4_edge l E h fs qm m (by first | assumption | rfl) H.size) (cwV 0 F.2.2.2.2 gX4_isTaken_X4_edge rfl rfl rfl (by decide +kernel) ⟨Nat.le_of_ble_eq_true rfl, Nat.le_of_ble_eq_true rfl⟩) [0, 1] rfl rfl (q0 := 0) (ci := 4) rfl rfl rfl hl.1 rfl (Nat.le_of_ble_eq_true rfl) dX4_isTaken_17 ⟨Nat.le_refl _, Nat.le_refl _⟩) hP hD hS hA [0, 1] rfl (fun r _ H locs hq hP hS => ?_)
      subst hq
      refine lv_aload_n F.1 F.2.1 dX4_isTaken_20 rfl (lv_at hl 0 rfl) ?_
      refine g_get F hX hP hin4 0 rfl rfl 0 (by decide) (mm 1 rfl) hf0 dX4_isTaken_21 ?_
      refine lv_iconst (v := 2) F.1 F.2.1 dX4_isTaken_24 (by decide) ?_
      refine g_iald F hX hP 1 rfl (j := 2) (rfl) (by decide) (by decide) dX4_isTaken_25 ?_
      refine lv_isub F.1 F.2.1 dX4_isTaken_26 ?_
      refine lv_icmp_le (tgt := 34) F.1 F.2.1 dX4_isTaken_27 (by decide) (fun k3 => ?_) (fun k3 => ?_)
      · refine lv_iconst (v := 0) F.1 F.2.1 dX4_isTaken_34 (by decide) ?_
        exact g_reti F hr hlk rfl hS hP hD (()) (rfl) (by simp [tkM, bi, k1, k2, k3]) dX4_isTaken_35
      · refine lv_iconst (v := 1) F.1 F.2.1 dX4_isTaken_30 (by decide) ?_
        refine lv_goto (tgt := 35) F.1 F.2.1 dX4_isTaken_31 (by decide) ?_
        exact g_reti F hr hlk rfl hS hP hD (()) (rfl) (by simp [tkM, bi, k1, k2, k3]) dX4_isTaken_35
set_option maxHeartbeats 4000000 in
set_option maxRecDepth 100000 in
theorem c_X4_isIn (l : Launch) (E : gE) (h : Nat) (fs : List Value) (qm : Nat) (m : Nat → Int32) (j : Nat) (hf0 : fs[0]? = some (.ref qm)) (hj8 : j < 8) : gI l yX4_isIn wsX4_isIn ({ frames := 4, cells := 0, slots := 0, locals := 81 }) E [(h, .inr (4, fs)), (qm, .inl (eI E, 75, .inl m))] (fun _ : Unit => [(h, .inr (4, fs)), (qm, .inl (eI E, 75, .inl m))]) [.ref h, .int (nI j)] (fun (r : Int32) (_ : Unit) => r = bi (isInM m j)) := by
  refine gI.of (cc := cX4_isIn) (maxL := 2) (by decide) rfl (Nat.le_of_ble_eq_true rfl) ?_
  intro pG eG sG mG below meth cG A ls H locs F hr hlk hX hP hD hA hS hl
  have hl : lv_has ls 2 [(0, .ref h), (1, .int (nI j))] := hl
  refine lv_aload_n F.1 F.2.1 dX4_isIn_0 rfl (lv_at hl 0 rfl) ?_
  refine lv_aload_n F.1 F.2.1 dX4_isIn_1 rfl (lv_at hl 0 rfl) ?_
  refine lv_iload_n F.1 F.2.1 dX4_isIn_2 rfl (lv_at hl 1 rfl) ?_
  refine lv_iconst (v := 1) F.1 F.2.1 dX4_isIn_3 (by decide) ?_
  refine g_goIr (g_runV (As := [.int (nI j), .int 1]) (rest := [.ref h]) F hX hP hD hS hA (c_X4_it l E h fs qm m j 1 (by first | assumption | rfl) (by omega) (by decide) H.size) (cwV 2 F.2.2.2.2 gX4_isIn_X4_it rfl rfl rfl (by decide +kernel) ⟨Nat.le_of_ble_eq_true rfl, Nat.le_of_ble_eq_true rfl⟩) [0, 1] rfl rfl (q0 := 0) (ci := 4) rfl rfl rfl hl.1 rfl (Nat.le_of_ble_eq_true rfl) dX4_isIn_4 ⟨Nat.le_refl _, Nat.le_refl _⟩) hP hD hS hA [0, 1] rfl (fun r _ H locs hq hP hS => ?_)
  subst hq
  refine g_goIr (g_runV (As := [.int (pf m j 1)]) (rest := []) F hX hP hD hS hA (c_X4_isTaken l E h fs qm m (pf m j 1) (by first | assumption | rfl) H.size) (cwV 1 F.2.2.2.2 gX4_isIn_X4_isTaken rfl rfl rfl (by decide +kernel) ⟨Nat.le_of_ble_eq_true rfl, Nat.le_of_ble_eq_true rfl⟩) [0, 1] rfl rfl (q0 := 0) (ci := 4) rfl rfl rfl hl.1 rfl (Nat.le_of_ble_eq_true rfl) dX4_isIn_7 ⟨Nat.le_refl _, Nat.le_refl _⟩) hP hD hS hA [0, 1] rfl (fun r _ H locs hq hP hS => ?_)
  subst hq
  refine g_top (bi (isInM m j)) (rfl) ?_
  exact g_reti F hr hlk (bi_nar _) hS hP hD (()) (rfl) (rfl) dX4_isIn_10
set_option maxHeartbeats 4000000 in
set_option maxRecDepth 100000 in
theorem c_X4_isBell (l : Launch) (E : gE) (h : Nat) (fs : List Value) (qm : Nat) (m : Nat → Int32) (hf0 : fs[0]? = some (.ref qm)) : gI l yX4_isBell wsX4_isBell ({ frames := 1, cells := 0, slots := 0, locals := 20 }) E [(h, .inr (4, fs)), (qm, .inl (eI E, 75, .inl m))] (fun _ : Unit => [(h, .inr (4, fs)), (qm, .inl (eI E, 75, .inl m))]) [.ref h] (fun (r : Int32) (_ : Unit) => r = bi (bell (m 0))) := by
  refine gI.of (cc := cX4_isBell) (maxL := 1) (by decide) rfl (Nat.le_of_ble_eq_true rfl) ?_
  intro pG eG sG mG below meth cG A ls H locs F hr hlk hX hP hD hA hS hl
  have hl : lv_has ls 1 [(0, .ref h)] := hl
  refine lv_aload_n F.1 F.2.1 dX4_isBell_0 rfl (lv_at hl 0 rfl) ?_
  refine g_goIr (g_runV (As := []) (rest := []) F hX hP hD hS hA (c_X4_clock l E h fs qm m (by first | assumption | rfl) H.size) (cwV 0 F.2.2.2.2 gX4_isBell_X4_clock rfl rfl rfl (by decide +kernel) ⟨Nat.le_of_ble_eq_true rfl, Nat.le_of_ble_eq_true rfl⟩) [0, 1] rfl rfl (q0 := 0) (ci := 4) rfl rfl rfl hl.1 rfl (Nat.le_of_ble_eq_true rfl) dX4_isBell_1 ⟨Nat.le_refl _, Nat.le_refl _⟩) hP hD hS hA [0, 1] rfl (fun r _ H locs hq hP hS => ?_)
  subst hq
  refine lv_iconst (v := 5) F.1 F.2.1 dX4_isBell_4 (by decide) ?_
  refine lv_irem F.1 F.2.1 dX4_isBell_5 (by decide) ?_
  refine lv_if_ne (tgt := 13) F.1 F.2.1 dX4_isBell_6 (by decide) (fun k1 => ?_) (fun k1 => ?_)
  · refine lv_iconst (v := 0) F.1 F.2.1 dX4_isBell_13 (by decide) ?_
    exact g_reti F hr hlk rfl hS hP hD (()) (rfl) (by simp [bell, bi, k1]) dX4_isBell_14
  · refine lv_iconst (v := 1) F.1 F.2.1 dX4_isBell_9 (by decide) ?_
    refine lv_goto (tgt := 14) F.1 F.2.1 dX4_isBell_10 (by decide) ?_
    exact g_reti F hr hlk rfl hS hP hD (()) (rfl) (by simp [bell, bi, k1]) dX4_isBell_14
set_option maxHeartbeats 4000000 in
set_option maxRecDepth 100000 in
theorem c_X4_goesBy (l : Launch) (E : gE) (h : Nat) (fs : List Value) (qm : Nat) (m : Nat → Int32) (j : Nat) (hf0 : fs[0]? = some (.ref qm)) (hj8 : j < 8) : gI l yX4_goesBy wsX4_goesBy ({ frames := 5, cells := 0, slots := 0, locals := 102 }) E [(h, .inr (4, fs)), (qm, .inl (eI E, 75, .inl m))] (fun _ : Unit => [(h, .inr (4, fs)), (qm, .inl (eI E, 75, .inl m))]) [.ref h, .int (nI j)] (fun (r : Int32) (_ : Unit) => r = gqM (m 0) (m 1) (m 2) (m 3) (pf m j 0) (pf m j 1)) := by
  have hin4 : ∀ w ∈ wsX40, w ∈ wsX4_goesBy := (fun _ h => (List.mem_cons_of_mem _ (List.mem_append_right _ h)))
  refine gI.of (cc := cX4_goesBy) (maxL := 5) (by decide) rfl (Nat.le_of_ble_eq_true rfl) ?_
  intro pG eG sG mG below meth cG A ls H locs F hr hlk hX hP hD hA hS hl
  have hl : lv_has ls 5 [(0, .ref h), (1, .int (nI j))] := hl
  refine lv_aload_n F.1 F.2.1 dX4_goesBy_0 rfl (lv_at hl 0 rfl) ?_
  refine g_goIr (g_runV (As := []) (rest := []) F hX hP hD hS hA (c_X4_edge l E h fs qm m (by first | assumption | rfl) H.size) (cwV 0 F.2.2.2.2 gX4_goesBy_X4_edge rfl rfl rfl (by decide +kernel) ⟨Nat.le_of_ble_eq_true rfl, Nat.le_of_ble_eq_true rfl⟩) [0, 1] rfl rfl (q0 := 0) (ci := 4) rfl rfl rfl hl.1 rfl (Nat.le_of_ble_eq_true rfl) dX4_goesBy_1 ⟨Nat.le_refl _, Nat.le_refl _⟩) hP hD hS hA [0, 1] rfl (fun r _ H locs hq hP hS => ?_)
  subst hq
  refine lv_aload_n F.1 F.2.1 dX4_goesBy_4 rfl (lv_at hl 0 rfl) ?_
  refine lv_iload_n F.1 F.2.1 dX4_goesBy_5 rfl (lv_at hl 1 rfl) ?_
  refine lv_iconst (v := 1) F.1 F.2.1 dX4_goesBy_6 (by decide) ?_
  refine g_goIr (g_runV (As := [.int (nI j), .int 1]) (rest := [.int (eg (m 0) (m 1) (m 3))]) F hX hP hD hS hA (c_X4_it l E h fs qm m j 1 (by first | assumption | rfl) (by omega) (by decide) H.size) (cwV 2 F.2.2.2.2 gX4_goesBy_X4_it rfl rfl rfl (by decide +kernel) ⟨Nat.le_of_ble_eq_true rfl, Nat.le_of_ble_eq_true rfl⟩) [0, 1] rfl rfl (q0 := 0) (ci := 4) rfl rfl rfl hl.1 rfl (Nat.le_of_ble_eq_true rfl) dX4_goesBy_7 ⟨Nat.le_refl _, Nat.le_refl _⟩) hP hD hS hA [0, 1] rfl (fun r _ H locs hq hP hS => ?_)
  subst hq
  refine lv_isub F.1 F.2.1 dX4_goesBy_10 ?_
  refine lv_istore_n (lv' := [(2, .int ((eg (m 0) (m 1) (m 3)) - (pf m j 1))), (0, .ref h), (1, .int (nI j))]) F.1 F.2.1 dX4_goesBy_11 rfl hl (by decide) rfl (fun ls hl => ?_)
  refine lv_aload_n F.1 F.2.1 dX4_goesBy_12 rfl (lv_at hl 1 rfl) ?_
  refine lv_iload_n F.1 F.2.1 dX4_goesBy_13 rfl (lv_at hl 2 rfl) ?_
  refine g_goIr (g_runV (As := [.int (nI j)]) (rest := []) F hX hP hD hS hA (c_X4_isIn l E h fs qm m j (by first | assumption | rfl) (by omega) H.size) (cwV 1 F.2.2.2.2 gX4_goesBy_X4_isIn rfl rfl rfl (by decide +kernel) ⟨Nat.le_of_ble_eq_true rfl, Nat.le_of_ble_eq_true rfl⟩) [0, 1] rfl rfl (q0 := 0) (ci := 4) rfl rfl rfl hl.1 rfl (Nat.le_of_ble_eq_true rfl) dX4_goesBy_14 ⟨Nat.le_refl _, Nat.le_refl _⟩) hP hD hS hA [0, 1] rfl (fun r _ H locs hq hP hS => ?_)
  subst hq
  have jn30 : ∀ (H : Heap) (locs : List Loc) (ls : Array Slot), va_P (eD E) vwCl [(h, .inr (4, fs)), (qm, .inl (eI E, 75, .inl m))] H → va_D A [(h, .inr (4, fs)), (qm, .inl (eI E, 75, .inl m))] → va_S A sG.heap H locs → lv_has ls 5 [(2, .int ((eg (m 0) (m 1) (m 3)) - (pf m j 1))), (0, .ref h), (1, .int (nI j))] → W pG l eG { frames := 5, cells := 0, slots := 0, locals := 102 } sG mG [.ref h, .int (nI j)].toArray below meth cG H locs 0 0 (MQ below (va_Qi (fun (r : Int32) (_ : Unit) => r = gqM (m 0) (m 1) (m 2) (m 3) (pf m j 0) (pf m j 1)) (gR E (fun _ : Unit => [(h, .inr (4, fs)), (qm, .inl (eI E, 75, .inl m))]) A) A) [.ref h, .int (nI j)].toArray sG 0 0 A) (F0 mG 30 ls [.int (pgM (m 0) (m 1) (m 2) (m 3) (pf m j 1))]) := by
    intro H locs ls hP hD hS hl
    refine lv_istore_n (lv' := [(3, .int (pgM (m 0) (m 1) (m 2) (m 3) (pf m j 1))), (2, .int ((eg (m 0) (m 1) (m 3)) - (pf m j 1))), (0, .ref h), (1, .int (nI j))]) F.1 F.2.1 dX4_goesBy_30 rfl hl (by decide) rfl (fun ls hl => ?_)
    refine lv_iload_n F.1 F.2.1 dX4_goesBy_31 rfl (lv_at hl 1 rfl) ?_
    refine lv_i2l (v := ((eg (m 0) (m 1) (m 3)) - (pf m j 1) : Int32).toInt64) F.1 F.2.1 dX4_goesBy_32 rfl ?_
    refine lv_bipush (v := (-3)) F.1 F.2.1 dX4_goesBy_33 (by decide) ?_
    refine lv_iconst (v := 0) F.1 F.2.1 dX4_goesBy_35 (by decide) ?_
    refine g_goIr (g_runS (As := [.long (((eg (m 0) (m 1) (m 3)) - (pf m j 1) : Int32).toInt64), .int (-3), .int 0]) (rest := []) F hX hP hD hS hA (c_X4_in_i l E ((eg (m 0) (m 1) (m 3)) - (pf m j 1)) (-3) 0 H.size) (va_cwS 3 F.2.2.2.2 gX4_goesBy_X4_in rfl rfl rfl (by decide +kernel) ⟨Nat.le_of_ble_eq_true rfl, Nat.le_of_ble_eq_true rfl⟩) [] rfl rfl rfl hl.1 rfl (Nat.le_of_ble_eq_true rfl) dX4_goesBy_36 ⟨Nat.le_refl _, Nat.le_refl _⟩) hP hD hS hA [] rfl (fun r _ H locs hq hP hS => ?_)
    subst hq
    have jn47 : ∀ (H : Heap) (locs : List Loc) (ls : Array Slot), va_P (eD E) vwCl [(h, .inr (4, fs)), (qm, .inl (eI E, 75, .inl m))] H → va_D A [(h, .inr (4, fs)), (qm, .inl (eI E, 75, .inl m))] → va_S A sG.heap H locs → lv_has ls 5 [(3, .int (pgM (m 0) (m 1) (m 2) (m 3) (pf m j 1))), (2, .int ((eg (m 0) (m 1) (m 3)) - (pf m j 1))), (0, .ref h), (1, .int (nI j))] → W pG l eG { frames := 5, cells := 0, slots := 0, locals := 102 } sG mG [.ref h, .int (nI j)].toArray below meth cG H locs 0 0 (MQ below (va_Qi (fun (r : Int32) (_ : Unit) => r = gqM (m 0) (m 1) (m 2) (m 3) (pf m j 0) (pf m j 1)) (gR E (fun _ : Unit => [(h, .inr (4, fs)), (qm, .inl (eI E, 75, .inl m))]) A) A) [.ref h, .int (nI j)].toArray sG 0 0 A) (F0 mG 47 ls [.int (cg (eg (m 0) (m 1) (m 3) - pf m j 1))]) := by
      intro H locs ls hP hD hS hl
      refine lv_istore (lv' := [(4, .int (cg (eg (m 0) (m 1) (m 3) - pf m j 1))), (3, .int (pgM (m 0) (m 1) (m 2) (m 3) (pf m j 1))), (2, .int ((eg (m 0) (m 1) (m 3)) - (pf m j 1))), (0, .ref h), (1, .int (nI j))]) F.1 F.2.1 dX4_goesBy_47 hl (by decide) rfl (fun ls hl => ?_)
      refine lv_aload_n F.1 F.2.1 dX4_goesBy_49 rfl (lv_at hl 3 rfl) ?_
      refine g_goIr (g_runV (As := []) (rest := []) F hX hP hD hS hA (c_X4_isHush l E h fs qm m (by first | assumption | rfl) H.size) (cwV 0 F.2.2.2.2 gX4_goesBy_X4_isHush rfl rfl rfl (by decide +kernel) ⟨Nat.le_of_ble_eq_true rfl, Nat.le_of_ble_eq_true rfl⟩) [0, 1] rfl rfl (q0 := 0) (ci := 4) rfl rfl rfl hl.1 rfl (Nat.le_of_ble_eq_true rfl) dX4_goesBy_50 ⟨Nat.le_refl _, Nat.le_refl _⟩) hP hD hS hA [0, 1] rfl (fun r _ H locs hq hP hS => ?_)
      subst hq
      refine g_bne (tgt := 72) F dX4_goesBy_53 (by decide) (fun k1 => ?_) (fun k1 => ?_)
      · refine lv_aload_n F.1 F.2.1 dX4_goesBy_72 rfl (lv_at hl 3 rfl) ?_
        refine lv_iload_n F.1 F.2.1 dX4_goesBy_73 rfl (lv_at hl 4 rfl) ?_
        refine lv_iconst (v := 0) F.1 F.2.1 dX4_goesBy_74 (by decide) ?_
        refine g_goIr (g_runV (As := [.int (nI j), .int 0]) (rest := []) F hX hP hD hS hA (c_X4_it l E h fs qm m j 0 (by first | assumption | rfl) (by omega) (by decide) H.size) (cwV 2 F.2.2.2.2 gX4_goesBy_X4_it rfl rfl rfl (by decide +kernel) ⟨Nat.le_of_ble_eq_true rfl, Nat.le_of_ble_eq_true rfl⟩) [0, 1] rfl rfl (q0 := 0) (ci := 4) rfl rfl rfl hl.1 rfl (Nat.le_of_ble_eq_true rfl) dX4_goesBy_75 ⟨Nat.le_refl _, Nat.le_refl _⟩) hP hD hS hA [0, 1] rfl (fun r _ H locs hq hP hS => ?_)
        subst hq
        by_cases k2 : (pf m j 0) = 1
        · refine g_top 1 k2 ?_
          refine lv_tableIn (tgt := 112) F.1 F.2.1 dX4_goesBy_78 (by decide) (by decide) rfl (by decide) ?_
          refine lv_iload_n F.1 F.2.1 dX4_goesBy_112 rfl (lv_at hl 1 rfl) ?_
          exact g_reti F hr hlk (vp_nar_int _) hS hP hD (()) (rfl) (by simp [gqM, k1, k2]) dX4_goesBy_113
        by_cases k3 : (pf m j 0) = 2
        · refine g_top 2 k3 ?_
          refine lv_tableIn (tgt := 114) F.1 F.2.1 dX4_goesBy_78 (by decide) (by decide) rfl (by decide) ?_
          refine lv_iload F.1 F.2.1 dX4_goesBy_114 (lv_at hl 0 rfl) ?_
          exact g_reti F hr hlk (vp_nar_int _) hS hP hD (()) (rfl) (by simp [gqM, k1, k2, k3]) dX4_goesBy_116
        by_cases k4 : (pf m j 0) = 3
        · refine g_top 3 k4 ?_
          refine lv_tableIn (tgt := 117) F.1 F.2.1 dX4_goesBy_78 (by decide) (by decide) rfl (by decide) ?_
          refine lv_iload_n F.1 F.2.1 dX4_goesBy_117 rfl (lv_at hl 2 rfl) ?_
          refine lv_bipush (v := (-4)) F.1 F.2.1 dX4_goesBy_118 (by decide) ?_
          refine lv_iconst (v := 4) F.1 F.2.1 dX4_goesBy_120 (by decide) ?_
          refine g_goIr (g_runS (As := [.int ((eg (m 0) (m 1) (m 3)) - (pf m j 1)), .int (-4), .int 4]) (rest := []) F hX hP hD hS hA (c_X4_held l E ((eg (m 0) (m 1) (m 3)) - (pf m j 1)) (-4) 4 H.size) (va_cwS 3 F.2.2.2.2 gX4_goesBy_X4_held rfl rfl rfl (by decide +kernel) ⟨Nat.le_of_ble_eq_true rfl, Nat.le_of_ble_eq_true rfl⟩) [] rfl rfl rfl hl.1 rfl (Nat.le_of_ble_eq_true rfl) dX4_goesBy_121 ⟨Nat.le_refl _, Nat.le_refl _⟩) hP hD hS hA [] rfl (fun r _ H locs hq hP hS => ?_)
          subst hq
          exact g_reti F hr hlk (vp_nar_int _) hS hP hD (()) (rfl) (by simp [gqM, k1, k2, k3, k4]) dX4_goesBy_124
        by_cases k5 : (pf m j 0) = 4
        · refine g_top 4 k5 ?_
          refine lv_tableIn (tgt := 125) F.1 F.2.1 dX4_goesBy_78 (by decide) (by decide) rfl (by decide) ?_
          refine lv_aload_n F.1 F.2.1 dX4_goesBy_125 rfl (lv_at hl 3 rfl) ?_
          refine g_goIr (g_runV (As := []) (rest := []) F hX hP hD hS hA (c_X4_isBell l E h fs qm m (by first | assumption | rfl) H.size) (cwV 0 F.2.2.2.2 gX4_goesBy_X4_isBell rfl rfl rfl (by decide +kernel) ⟨Nat.le_of_ble_eq_true rfl, Nat.le_of_ble_eq_true rfl⟩) [0, 1] rfl rfl (q0 := 0) (ci := 4) rfl rfl rfl hl.1 rfl (Nat.le_of_ble_eq_true rfl) dX4_goesBy_126 ⟨Nat.le_refl _, Nat.le_refl _⟩) hP hD hS hA [0, 1] rfl (fun r _ H locs hq hP hS => ?_)
          subst hq
          refine g_beq (tgt := 136) F dX4_goesBy_129 (by decide) (fun k6 => ?_) (fun k6 => ?_)
          · refine lv_iload_n F.1 F.2.1 dX4_goesBy_136 rfl (lv_at hl 1 rfl) ?_
            exact g_reti F hr hlk (vp_nar_int _) hS hP hD (()) (rfl) (by simp [gqM, k1, k2, k3, k4, k5, k6]) dX4_goesBy_137
          · refine lv_iconst (v := 0) F.1 F.2.1 dX4_goesBy_132 (by decide) ?_
            refine lv_goto (tgt := 137) F.1 F.2.1 dX4_goesBy_133 (by decide) ?_
            exact g_reti F hr hlk (vp_nar_int _) hS hP hD (()) (rfl) (by simp [gqM, k1, k2, k3, k4, k5, k6]) dX4_goesBy_137
        by_cases k7 : (pf m j 0) = 5
        · refine g_top 5 k7 ?_
          refine lv_tableIn (tgt := 138) F.1 F.2.1 dX4_goesBy_78 (by decide) (by decide) rfl (by decide) ?_
          refine lv_iload_n F.1 F.2.1 dX4_goesBy_138 rfl (lv_at hl 2 rfl) ?_
          refine lv_if_ne (tgt := 149) F.1 F.2.1 dX4_goesBy_139 (by decide) (fun k8 => ?_) (fun k8 => ?_)
          · refine lv_iload F.1 F.2.1 dX4_goesBy_149 (lv_at hl 0 rfl) ?_
            exact g_reti F hr hlk (vp_nar_int _) hS hP hD (()) (rfl) (by simp [gqM, k1, k2, k3, k4, k5, k7, k8]) dX4_goesBy_151
          · refine lv_iload F.1 F.2.1 dX4_goesBy_142 (lv_at hl 0 rfl) ?_
            refine lv_iconst (v := 1) F.1 F.2.1 dX4_goesBy_144 (by decide) ?_
            refine lv_iadd F.1 F.2.1 dX4_goesBy_145 ?_
            refine lv_goto (tgt := 151) F.1 F.2.1 dX4_goesBy_146 (by decide) ?_
            exact g_reti F hr hlk (vp_nar_int _) hS hP hD (()) (rfl) (by simp [gqM, k1, k2, k3, k4, k5, k7, k8]) dX4_goesBy_151
        refine lv_tableOut (tgt := 152) F.1 F.2.1 dX4_goesBy_78 (t_out (pf m j 0) 1 5 (fun kk h1 h2 => by rcases (show kk = 1 ∨ kk = 2 ∨ kk = 3 ∨ kk = 4 ∨ kk = 5 by omega) with rfl | rfl | rfl | rfl | rfl <;> assumption)) (by decide) ?_
        refine lv_iconst (v := 0) F.1 F.2.1 dX4_goesBy_152 (by decide) ?_
        exact g_reti F hr hlk (vp_nar_int _) hS hP hD (()) (rfl) (by simp [gqM, k1, k2, k3, k4, k5, k7]) dX4_goesBy_153
      · refine lv_aload_n F.1 F.2.1 dX4_goesBy_56 rfl (lv_at hl 3 rfl) ?_
        refine lv_iload_n F.1 F.2.1 dX4_goesBy_57 rfl (lv_at hl 4 rfl) ?_
        refine lv_iconst (v := 0) F.1 F.2.1 dX4_goesBy_58 (by decide) ?_
        refine g_goIr (g_runV (As := [.int (nI j), .int 0]) (rest := []) F hX hP hD hS hA (c_X4_it l E h fs qm m j 0 (by first | assumption | rfl) (by omega) (by decide) H.size) (cwV 2 F.2.2.2.2 gX4_goesBy_X4_it rfl rfl rfl (by decide +kernel) ⟨Nat.le_of_ble_eq_true rfl, Nat.le_of_ble_eq_true rfl⟩) [0, 1] rfl rfl (q0 := 0) (ci := 4) rfl rfl rfl hl.1 rfl (Nat.le_of_ble_eq_true rfl) dX4_goesBy_59 ⟨Nat.le_refl _, Nat.le_refl _⟩) hP hD hS hA [0, 1] rfl (fun r _ H locs hq hP hS => ?_)
        subst hq
        refine lv_iconst (v := 3) F.1 F.2.1 dX4_goesBy_62 (by decide) ?_
        refine lv_icmp_ne (tgt := 70) F.1 F.2.1 dX4_goesBy_63 (by decide) (fun k9 => ?_) (fun k9 => ?_)
        · refine lv_iconst (v := 0) F.1 F.2.1 dX4_goesBy_70 (by decide) ?_
          exact g_reti F hr hlk (vp_nar_int _) hS hP hD (()) (rfl) (by simp [gqM, k1, k9]) dX4_goesBy_71
        · refine lv_iconst (v := (-1)) F.1 F.2.1 dX4_goesBy_66 (by decide) ?_
          refine lv_goto (tgt := 71) F.1 F.2.1 dX4_goesBy_67 (by decide) ?_
          exact g_reti F hr hlk (vp_nar_int _) hS hP hD (()) (rfl) (by simp [gqM, k1, k9]) dX4_goesBy_71
    refine g_beq (tgt := 46) F dX4_goesBy_39 (by decide) (fun k10 => ?_) (fun k10 => ?_)
    · refine lv_iconst (v := 0) F.1 F.2.1 dX4_goesBy_46 (by decide) ?_
      refine g_top (cg (eg (m 0) (m 1) (m 3) - pf m j 1)) (by simp [cg, k10]) ?_
      exact jn47 _ _ _ hP hD hS (lv_sub hl [0, 1, 2, 3] rfl)
    · refine lv_iconst (v := 2) F.1 F.2.1 dX4_goesBy_42 (by decide) ?_
      refine lv_goto (tgt := 47) F.1 F.2.1 dX4_goesBy_43 (by decide) ?_
      refine g_top (cg (eg (m 0) (m 1) (m 3) - pf m j 1)) (by simp [cg, k10]) ?_
      exact jn47 _ _ _ hP hD hS (lv_sub hl [0, 1, 2, 3] rfl)
  refine g_beq (tgt := 29) F dX4_goesBy_17 (by decide) (fun k11 => ?_) (fun k11 => ?_)
  · refine lv_iconst (v := 0) F.1 F.2.1 dX4_goesBy_29 (by decide) ?_
    refine g_top (pgM (m 0) (m 1) (m 2) (m 3) (pf m j 1)) (by show _ = (bif isInM m j then m 3 else 0); simp only [k11, cond_true, cond_false]) ?_
    exact jn30 _ _ _ hP hD hS (lv_sub hl [0, 1, 2] rfl)
  · refine lv_aload_n F.1 F.2.1 dX4_goesBy_20 rfl (lv_at hl 1 rfl) ?_
    refine g_get F hX hP hin4 0 rfl rfl 0 (by decide) (mm 1 rfl) hf0 dX4_goesBy_21 ?_
    refine lv_iconst (v := 3) F.1 F.2.1 dX4_goesBy_24 (by decide) ?_
    refine g_iald F hX hP 1 rfl (j := 3) (rfl) (by decide) (by decide) dX4_goesBy_25 ?_
    refine lv_goto (tgt := 30) F.1 F.2.1 dX4_goesBy_26 (by decide) ?_
    refine g_top (pgM (m 0) (m 1) (m 2) (m 3) (pf m j 1)) (by show _ = (bif isInM m j then m 3 else 0); simp only [k11, cond_true, cond_false]) ?_
    exact jn30 _ _ _ hP hD hS (lv_sub hl [0, 1, 2] rfl)
set_option maxHeartbeats 4000000 in
set_option maxRecDepth 100000 in
theorem c_X4_talks (l : Launch) (E : gE) (h : Nat) (fs : List Value) (qm : Nat) (m : Nat → Int32) (j : Nat) (hf0 : fs[0]? = some (.ref qm)) (hj8 : j < 8) : gI l yX4_talks wsX4_talks ({ frames := 5, cells := 0, slots := 0, locals := 102 }) E [(h, .inr (4, fs)), (qm, .inl (eI E, 75, .inl m))] (fun _ : Unit => [(h, .inr (4, fs)), (qm, .inl (eI E, 75, .inl m))]) [.ref h, .int (nI j)] (fun (r : Int32) (_ : Unit) => r = taM (m 0) (m 1) (m 2) (m 3) (pf m j 0) (pf m j 1)) := by
  refine gI.of (cc := cX4_talks) (maxL := 3) (by decide) rfl (Nat.le_of_ble_eq_true rfl) ?_
  intro pG eG sG mG below meth cG A ls H locs F hr hlk hX hP hD hA hS hl
  have hl : lv_has ls 3 [(0, .ref h), (1, .int (nI j))] := hl
  refine lv_aload_n F.1 F.2.1 dX4_talks_0 rfl (lv_at hl 0 rfl) ?_
  refine lv_iload_n F.1 F.2.1 dX4_talks_1 rfl (lv_at hl 1 rfl) ?_
  refine lv_iconst (v := 0) F.1 F.2.1 dX4_talks_2 (by decide) ?_
  refine g_goIr (g_runV (As := [.int (nI j), .int 0]) (rest := []) F hX hP hD hS hA (c_X4_it l E h fs qm m j 0 (by first | assumption | rfl) (by omega) (by decide) H.size) (cwV 2 F.2.2.2.2 gX4_talks_X4_it rfl rfl rfl (by decide +kernel) ⟨Nat.le_of_ble_eq_true rfl, Nat.le_of_ble_eq_true rfl⟩) [0, 1] rfl rfl (q0 := 0) (ci := 4) rfl rfl rfl hl.1 rfl (Nat.le_of_ble_eq_true rfl) dX4_talks_3 ⟨Nat.le_refl _, Nat.le_refl _⟩) hP hD hS hA [0, 1] rfl (fun r _ H locs hq hP hS => ?_)
  subst hq
  refine lv_iconst (v := 4) F.1 F.2.1 dX4_talks_6 (by decide) ?_
  have jn22 : ∀ (H : Heap) (locs : List Loc) (ls : Array Slot), va_P (eD E) vwCl [(h, .inr (4, fs)), (qm, .inl (eI E, 75, .inl m))] H → va_D A [(h, .inr (4, fs)), (qm, .inl (eI E, 75, .inl m))] → va_S A sG.heap H locs → lv_has ls 3 [(0, .ref h), (1, .int (nI j))] → W pG l eG { frames := 5, cells := 0, slots := 0, locals := 102 } sG mG [.ref h, .int (nI j)].toArray below meth cG H locs 0 0 (MQ below (va_Qi (fun (r : Int32) (_ : Unit) => r = taM (m 0) (m 1) (m 2) (m 3) (pf m j 0) (pf m j 1)) (gR E (fun _ : Unit => [(h, .inr (4, fs)), (qm, .inl (eI E, 75, .inl m))]) A) A) [.ref h, .int (nI j)].toArray sG 0 0 A) (F0 mG 22 ls [.int (bi (rg (m 0) (pf m j 0)))]) := by
    intro H locs ls hP hD hS hl
    refine lv_istore_n (lv' := [(2, .int (bi (rg (m 0) (pf m j 0)))), (0, .ref h), (1, .int (nI j))]) F.1 F.2.1 dX4_talks_22 rfl hl (by decide) rfl (fun ls hl => ?_)
    refine lv_aload_n F.1 F.2.1 dX4_talks_23 rfl (lv_at hl 1 rfl) ?_
    refine lv_iload_n F.1 F.2.1 dX4_talks_24 rfl (lv_at hl 2 rfl) ?_
    refine g_goIr (g_runV (As := [.int (nI j)]) (rest := []) F hX hP hD hS hA (c_X4_isIn l E h fs qm m j (by first | assumption | rfl) (by omega) H.size) (cwV 1 F.2.2.2.2 gX4_talks_X4_isIn rfl rfl rfl (by decide +kernel) ⟨Nat.le_of_ble_eq_true rfl, Nat.le_of_ble_eq_true rfl⟩) [0, 1] rfl rfl (q0 := 0) (ci := 4) rfl rfl rfl hl.1 rfl (Nat.le_of_ble_eq_true rfl) dX4_talks_25 ⟨Nat.le_refl _, Nat.le_refl _⟩) hP hD hS hA [0, 1] rfl (fun r _ H locs hq hP hS => ?_)
    subst hq
    refine g_beq (tgt := 41) F dX4_talks_28 (by decide) (fun k1 => ?_) (fun k1 => ?_)
    · refine lv_aload_n F.1 F.2.1 dX4_talks_41 rfl (lv_at hl 1 rfl) ?_
      refine lv_iload_n F.1 F.2.1 dX4_talks_42 rfl (lv_at hl 2 rfl) ?_
      refine lv_iconst (v := 0) F.1 F.2.1 dX4_talks_43 (by decide) ?_
      refine g_goIr (g_runV (As := [.int (nI j), .int 0]) (rest := []) F hX hP hD hS hA (c_X4_it l E h fs qm m j 0 (by first | assumption | rfl) (by omega) (by decide) H.size) (cwV 2 F.2.2.2.2 gX4_talks_X4_it rfl rfl rfl (by decide +kernel) ⟨Nat.le_of_ble_eq_true rfl, Nat.le_of_ble_eq_true rfl⟩) [0, 1] rfl rfl (q0 := 0) (ci := 4) rfl rfl rfl hl.1 rfl (Nat.le_of_ble_eq_true rfl) dX4_talks_44 ⟨Nat.le_refl _, Nat.le_refl _⟩) hP hD hS hA [0, 1] rfl (fun r _ H locs hq hP hS => ?_)
      subst hq
      by_cases k2 : (pf m j 0) = 1
      · refine g_top 1 k2 ?_
        refine lv_tableIn (tgt := 80) F.1 F.2.1 dX4_talks_47 (by decide) (by decide) rfl (by decide) ?_
        refine lv_iconst (v := 5) F.1 F.2.1 dX4_talks_80 (by decide) ?_
        exact g_reti F hr hlk (vp_nar_int _) hS hP hD (()) (rfl) (by show _ = taB (isInM m j) (m 0) (pf m j 0); simp [taB, bi, k1, k2]) dX4_talks_81
      by_cases k3 : (pf m j 0) = 2
      · refine g_top 2 k3 ?_
        refine lv_tableIn (tgt := 82) F.1 F.2.1 dX4_talks_47 (by decide) (by decide) rfl (by decide) ?_
        refine lv_iconst (v := 4) F.1 F.2.1 dX4_talks_82 (by decide) ?_
        exact g_reti F hr hlk (vp_nar_int _) hS hP hD (()) (rfl) (by show _ = taB (isInM m j) (m 0) (pf m j 0); simp [taB, bi, k1, k2, k3]) dX4_talks_83
      by_cases k4 : (pf m j 0) = 3
      · refine g_top 3 k4 ?_
        refine lv_tableIn (tgt := 84) F.1 F.2.1 dX4_talks_47 (by decide) (by decide) rfl (by decide) ?_
        refine lv_iconst (v := 1) F.1 F.2.1 dX4_talks_84 (by decide) ?_
        exact g_reti F hr hlk (vp_nar_int _) hS hP hD (()) (rfl) (by show _ = taB (isInM m j) (m 0) (pf m j 0); simp [taB, bi, k1, k2, k3, k4]) dX4_talks_85
      by_cases k5 : (pf m j 0) = 4
      · refine g_top 4 k5 ?_
        refine lv_tableIn (tgt := 86) F.1 F.2.1 dX4_talks_47 (by decide) (by decide) rfl (by decide) ?_
        refine lv_iload_n F.1 F.2.1 dX4_talks_86 rfl (lv_at hl 0 rfl) ?_
        refine g_beq (tgt := 95) F dX4_talks_87 (by decide) (fun k6 => ?_) (fun k6 => ?_)
        · refine lv_iconst (v := 5) F.1 F.2.1 dX4_talks_95 (by decide) ?_
          rw [k5] at k6
          exact g_reti F hr hlk (vp_nar_int _) hS hP hD (()) (rfl) (by show _ = taB (isInM m j) (m 0) (pf m j 0); simp [taB, bi, k1, k2, k3, k4, k5, k6]) dX4_talks_96
        · refine lv_bipush (v := 6) F.1 F.2.1 dX4_talks_90 (by decide) ?_
          refine lv_goto (tgt := 96) F.1 F.2.1 dX4_talks_92 (by decide) ?_
          rw [k5] at k6
          exact g_reti F hr hlk (vp_nar_int _) hS hP hD (()) (rfl) (by show _ = taB (isInM m j) (m 0) (pf m j 0); simp [taB, bi, k1, k2, k3, k4, k5, k6]) dX4_talks_96
      by_cases k7 : (pf m j 0) = 5
      · refine g_top 5 k7 ?_
        refine lv_tableIn (tgt := 97) F.1 F.2.1 dX4_talks_47 (by decide) (by decide) rfl (by decide) ?_
        refine lv_iconst (v := 3) F.1 F.2.1 dX4_talks_97 (by decide) ?_
        exact g_reti F hr hlk (vp_nar_int _) hS hP hD (()) (rfl) (by show _ = taB (isInM m j) (m 0) (pf m j 0); simp [taB, bi, k1, k2, k3, k4, k5, k7]) dX4_talks_98
      refine lv_tableOut (tgt := 99) F.1 F.2.1 dX4_talks_47 (t_out (pf m j 0) 1 5 (fun kk h1 h2 => by rcases (show kk = 1 ∨ kk = 2 ∨ kk = 3 ∨ kk = 4 ∨ kk = 5 by omega) with rfl | rfl | rfl | rfl | rfl <;> assumption)) (by decide) ?_
      refine lv_iconst (v := 2) F.1 F.2.1 dX4_talks_99 (by decide) ?_
      exact g_reti F hr hlk (vp_nar_int _) hS hP hD (()) (rfl) (by show _ = taB (isInM m j) (m 0) (pf m j 0); simp [taB, bi, k1, k2, k3, k4, k5, k7]) dX4_talks_100
    · refine lv_iload_n F.1 F.2.1 dX4_talks_31 rfl (lv_at hl 0 rfl) ?_
      refine g_beq (tgt := 39) F dX4_talks_32 (by decide) (fun k8 => ?_) (fun k8 => ?_)
      · refine lv_iconst (v := 0) F.1 F.2.1 dX4_talks_39 (by decide) ?_
        exact g_reti F hr hlk (vp_nar_int _) hS hP hD (()) (rfl) (by show _ = taB (isInM m j) (m 0) (pf m j 0); simp [taB, bi, k1, k8]) dX4_talks_40
      · refine lv_iconst (v := 1) F.1 F.2.1 dX4_talks_35 (by decide) ?_
        refine lv_goto (tgt := 40) F.1 F.2.1 dX4_talks_36 (by decide) ?_
        exact g_reti F hr hlk (vp_nar_int _) hS hP hD (()) (rfl) (by show _ = taB (isInM m j) (m 0) (pf m j 0); simp [taB, bi, k1, k8]) dX4_talks_40
  refine lv_icmp_ne (tgt := 21) F.1 F.2.1 dX4_talks_7 (by decide) (fun k9 => ?_) (fun k9 => ?_)
  · refine lv_iconst (v := 0) F.1 F.2.1 dX4_talks_21 (by decide) ?_
    refine g_top (bi (rg (m 0) (pf m j 0))) (by simp [rg, bi, k9]) ?_
    exact jn22 _ _ _ hP hD hS (lv_sub hl [0, 1] rfl)
  · refine lv_aload_n F.1 F.2.1 dX4_talks_10 rfl (lv_at hl 0 rfl) ?_
    refine g_goIr (g_runV (As := []) (rest := []) F hX hP hD hS hA (c_X4_isBell l E h fs qm m (by first | assumption | rfl) H.size) (cwV 0 F.2.2.2.2 gX4_talks_X4_isBell rfl rfl rfl (by decide +kernel) ⟨Nat.le_of_ble_eq_true rfl, Nat.le_of_ble_eq_true rfl⟩) [0, 1] rfl rfl (q0 := 0) (ci := 4) rfl rfl rfl hl.1 rfl (Nat.le_of_ble_eq_true rfl) dX4_talks_11 ⟨Nat.le_refl _, Nat.le_refl _⟩) hP hD hS hA [0, 1] rfl (fun r _ H locs hq hP hS => ?_)
    subst hq
    refine g_beq (tgt := 21) F dX4_talks_14 (by decide) (fun k10 => ?_) (fun k10 => ?_)
    · refine lv_iconst (v := 0) F.1 F.2.1 dX4_talks_21 (by decide) ?_
      refine g_top (bi (rg (m 0) (pf m j 0))) (by simp [rg, bi, k9, k10]) ?_
      exact jn22 _ _ _ hP hD hS (lv_sub hl [0, 1] rfl)
    · refine lv_iconst (v := 1) F.1 F.2.1 dX4_talks_17 (by decide) ?_
      refine lv_goto (tgt := 22) F.1 F.2.1 dX4_talks_18 (by decide) ?_
      refine g_top (bi (rg (m 0) (pf m j 0))) (by simp [rg, bi, k9, k10]) ?_
      exact jn22 _ _ _ hP hD hS (lv_sub hl [0, 1] rfl)
set_option maxHeartbeats 4000000 in
set_option maxRecDepth 100000 in
theorem c_X4_stepsOver (l : Launch) (E : gE) (h : Nat) (fs : List Value) (qm : Nat) (m : Nat → Int32) (j : Nat) (hf0 : fs[0]? = some (.ref qm)) (hj8 : j < 8) : gI l yX4_stepsOver wsX4_stepsOver ({ frames := 1, cells := 0, slots := 0, locals := 22 }) E [(h, .inr (4, fs)), (qm, .inl (eI E, 75, .inl m))] (fun _ : Unit => [(h, .inr (4, fs)), (qm, .inl (eI E, 75, .inl m))]) [.ref h, .int (nI j)] (fun (r : Int32) (_ : Unit) => r = bi (soC (pf m j 0) (pf m j 3))) := by
  refine gI.of (cc := cX4_stepsOver) (maxL := 2) (by decide) rfl (Nat.le_of_ble_eq_true rfl) ?_
  intro pG eG sG mG below meth cG A ls H locs F hr hlk hX hP hD hA hS hl
  have hl : lv_has ls 2 [(0, .ref h), (1, .int (nI j))] := hl
  refine lv_aload_n F.1 F.2.1 dX4_stepsOver_0 rfl (lv_at hl 0 rfl) ?_
  refine lv_iload_n F.1 F.2.1 dX4_stepsOver_1 rfl (lv_at hl 1 rfl) ?_
  refine lv_iconst (v := 0) F.1 F.2.1 dX4_stepsOver_2 (by decide) ?_
  refine g_goIr (g_runV (As := [.int (nI j), .int 0]) (rest := []) F hX hP hD hS hA (c_X4_it l E h fs qm m j 0 (by first | assumption | rfl) (by omega) (by decide) H.size) (cwV 2 F.2.2.2.2 gX4_stepsOver_X4_it rfl rfl rfl (by decide +kernel) ⟨Nat.le_of_ble_eq_true rfl, Nat.le_of_ble_eq_true rfl⟩) [0, 1] rfl rfl (q0 := 0) (ci := 4) rfl rfl rfl hl.1 rfl (Nat.le_of_ble_eq_true rfl) dX4_stepsOver_3 ⟨Nat.le_refl _, Nat.le_refl _⟩) hP hD hS hA [0, 1] rfl (fun r _ H locs hq hP hS => ?_)
  subst hq
  by_cases k1 : (pf m j 0) = 1
  · refine g_top 1 k1 ?_
    refine lv_tableIn (tgt := 40) F.1 F.2.1 dX4_stepsOver_6 (by decide) (by decide) rfl (by decide) ?_
    refine lv_iconst (v := 0) F.1 F.2.1 dX4_stepsOver_40 (by decide) ?_
    exact g_reti F hr hlk rfl hS hP hD (()) (rfl) (by simp [soC, bi, k1]) dX4_stepsOver_41
  by_cases k2 : (pf m j 0) = 2
  · refine g_top 2 k2 ?_
    refine lv_tableIn (tgt := 60) F.1 F.2.1 dX4_stepsOver_6 (by decide) (by decide) rfl (by decide) ?_
    refine lv_aload_n F.1 F.2.1 dX4_stepsOver_60 rfl (lv_at hl 0 rfl) ?_
    refine lv_iload_n F.1 F.2.1 dX4_stepsOver_61 rfl (lv_at hl 1 rfl) ?_
    refine lv_iconst (v := 3) F.1 F.2.1 dX4_stepsOver_62 (by decide) ?_
    refine g_goIr (g_runV (As := [.int (nI j), .int 3]) (rest := []) F hX hP hD hS hA (c_X4_it l E h fs qm m j 3 (by first | assumption | rfl) (by omega) (by decide) H.size) (cwV 2 F.2.2.2.2 gX4_stepsOver_X4_it rfl rfl rfl (by decide +kernel) ⟨Nat.le_of_ble_eq_true rfl, Nat.le_of_ble_eq_true rfl⟩) [0, 1] rfl rfl (q0 := 0) (ci := 4) rfl rfl rfl hl.1 rfl (Nat.le_of_ble_eq_true rfl) dX4_stepsOver_63 ⟨Nat.le_refl _, Nat.le_refl _⟩) hP hD hS hA [0, 1] rfl (fun r _ H locs hq hP hS => ?_)
    subst hq
    refine lv_iconst (v := 3) F.1 F.2.1 dX4_stepsOver_66 (by decide) ?_
    refine lv_icmp_lt (tgt := 74) F.1 F.2.1 dX4_stepsOver_67 (by decide) (fun k3 => ?_) (fun k3 => ?_)
    · refine lv_iconst (v := 0) F.1 F.2.1 dX4_stepsOver_74 (by decide) ?_
      exact g_reti F hr hlk rfl hS hP hD (()) (rfl) (by simp [soC, bi, k1, k2, k3]) dX4_stepsOver_75
    · refine lv_iconst (v := 1) F.1 F.2.1 dX4_stepsOver_70 (by decide) ?_
      refine lv_goto (tgt := 75) F.1 F.2.1 dX4_stepsOver_71 (by decide) ?_
      exact g_reti F hr hlk rfl hS hP hD (()) (rfl) (by simp [soC, bi, k1, k2, k3]) dX4_stepsOver_75
  by_cases k4 : (pf m j 0) = 3
  · refine g_top 3 k4 ?_
    refine lv_tableIn (tgt := 42) F.1 F.2.1 dX4_stepsOver_6 (by decide) (by decide) rfl (by decide) ?_
    refine lv_iconst (v := 1) F.1 F.2.1 dX4_stepsOver_42 (by decide) ?_
    exact g_reti F hr hlk rfl hS hP hD (()) (rfl) (by simp [soC, bi, k1, k2, k4]) dX4_stepsOver_43
  by_cases k5 : (pf m j 0) = 4
  · refine g_top 4 k5 ?_
    refine lv_tableIn (tgt := 40) F.1 F.2.1 dX4_stepsOver_6 (by decide) (by decide) rfl (by decide) ?_
    refine lv_iconst (v := 0) F.1 F.2.1 dX4_stepsOver_40 (by decide) ?_
    exact g_reti F hr hlk rfl hS hP hD (()) (rfl) (by simp [soC, bi, k1, k2, k4, k5]) dX4_stepsOver_41
  by_cases k6 : (pf m j 0) = 5
  · refine g_top 5 k6 ?_
    refine lv_tableIn (tgt := 44) F.1 F.2.1 dX4_stepsOver_6 (by decide) (by decide) rfl (by decide) ?_
    refine lv_aload_n F.1 F.2.1 dX4_stepsOver_44 rfl (lv_at hl 0 rfl) ?_
    refine lv_iload_n F.1 F.2.1 dX4_stepsOver_45 rfl (lv_at hl 1 rfl) ?_
    refine lv_iconst (v := 3) F.1 F.2.1 dX4_stepsOver_46 (by decide) ?_
    refine g_goIr (g_runV (As := [.int (nI j), .int 3]) (rest := []) F hX hP hD hS hA (c_X4_it l E h fs qm m j 3 (by first | assumption | rfl) (by omega) (by decide) H.size) (cwV 2 F.2.2.2.2 gX4_stepsOver_X4_it rfl rfl rfl (by decide +kernel) ⟨Nat.le_of_ble_eq_true rfl, Nat.le_of_ble_eq_true rfl⟩) [0, 1] rfl rfl (q0 := 0) (ci := 4) rfl rfl rfl hl.1 rfl (Nat.le_of_ble_eq_true rfl) dX4_stepsOver_47 ⟨Nat.le_refl _, Nat.le_refl _⟩) hP hD hS hA [0, 1] rfl (fun r _ H locs hq hP hS => ?_)
    subst hq
    refine lv_iconst (v := 1) F.1 F.2.1 dX4_stepsOver_50 (by decide) ?_
    refine lv_icmp_lt (tgt := 58) F.1 F.2.1 dX4_stepsOver_51 (by decide) (fun k7 => ?_) (fun k7 => ?_)
    · refine lv_iconst (v := 0) F.1 F.2.1 dX4_stepsOver_58 (by decide) ?_
      exact g_reti F hr hlk rfl hS hP hD (()) (rfl) (by simp [soC, bi, k1, k2, k4, k5, k6, k7]) dX4_stepsOver_59
    · refine lv_iconst (v := 1) F.1 F.2.1 dX4_stepsOver_54 (by decide) ?_
      refine lv_goto (tgt := 59) F.1 F.2.1 dX4_stepsOver_55 (by decide) ?_
      exact g_reti F hr hlk rfl hS hP hD (()) (rfl) (by simp [soC, bi, k1, k2, k4, k5, k6, k7]) dX4_stepsOver_59
  refine lv_tableOut (tgt := 60) F.1 F.2.1 dX4_stepsOver_6 (t_out (pf m j 0) 1 5 (fun kk h1 h2 => by rcases (show kk = 1 ∨ kk = 2 ∨ kk = 3 ∨ kk = 4 ∨ kk = 5 by omega) with rfl | rfl | rfl | rfl | rfl <;> assumption)) (by decide) ?_
  refine lv_aload_n F.1 F.2.1 dX4_stepsOver_60 rfl (lv_at hl 0 rfl) ?_
  refine lv_iload_n F.1 F.2.1 dX4_stepsOver_61 rfl (lv_at hl 1 rfl) ?_
  refine lv_iconst (v := 3) F.1 F.2.1 dX4_stepsOver_62 (by decide) ?_
  refine g_goIr (g_runV (As := [.int (nI j), .int 3]) (rest := []) F hX hP hD hS hA (c_X4_it l E h fs qm m j 3 (by first | assumption | rfl) (by omega) (by decide) H.size) (cwV 2 F.2.2.2.2 gX4_stepsOver_X4_it rfl rfl rfl (by decide +kernel) ⟨Nat.le_of_ble_eq_true rfl, Nat.le_of_ble_eq_true rfl⟩) [0, 1] rfl rfl (q0 := 0) (ci := 4) rfl rfl rfl hl.1 rfl (Nat.le_of_ble_eq_true rfl) dX4_stepsOver_63 ⟨Nat.le_refl _, Nat.le_refl _⟩) hP hD hS hA [0, 1] rfl (fun r _ H locs hq hP hS => ?_)
  subst hq
  refine lv_iconst (v := 3) F.1 F.2.1 dX4_stepsOver_66 (by decide) ?_
  refine lv_icmp_lt (tgt := 74) F.1 F.2.1 dX4_stepsOver_67 (by decide) (fun k8 => ?_) (fun k8 => ?_)
  · refine lv_iconst (v := 0) F.1 F.2.1 dX4_stepsOver_74 (by decide) ?_
    exact g_reti F hr hlk rfl hS hP hD (()) (rfl) (by simp [soC, bi, k1, k2, k4, k5, k6, k8]) dX4_stepsOver_75
  · refine lv_iconst (v := 1) F.1 F.2.1 dX4_stepsOver_70 (by decide) ?_
    refine lv_goto (tgt := 75) F.1 F.2.1 dX4_stepsOver_71 (by decide) ?_
    exact g_reti F hr hlk rfl hS hP hD (()) (rfl) (by simp [soC, bi, k1, k2, k4, k5, k6, k8]) dX4_stepsOver_75
