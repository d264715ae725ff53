def mn_on (P : Nat) (m fd : Nat → Int32) (a1 a2 a3 : Int32) : Int32 × (Nat → Int32) := if inR a1 0 (nI P - 1) = true ∧ inR a2 0 400 = true ∧ inR a3 0 2 = true then (pf (itM P m (ix a2)) (ix a1) (1 + ix a3), fd) else (-1000000001, fn fd 0)
set_option maxHeartbeats 4000000 in
set_option maxRecDepth 100000 in
theorem c_X4_on (l : Launch) (E : gE) (h : Nat) (fs : List Value) (qm : Nat) (qw : Nat) (qf : Nat) (m : Nat → Int32) (w : Nat → Int32) (fd : Nat → Int32) (P : Nat) (a1 : Int32) (a2 : Int32) (a3 : Int32) (hf0 : fs[0]? = some (.ref qm)) (hf2 : fs[2]? = some (.ref qw)) (hf4 : fs[4]? = some (.ref qf)) (hm4 : m 4 = nI P) (hP8 : P ≤ 8) : gI l yX4_on wsX4_on ({ frames := 8, cells := 0, slots := 0, locals := 169 }) E [(h, .inr (4, fs)), (qm, .inl (eI E, 75, .inl m)), (qw, .inl (eI E, 75, .inl w)), (qf, .inl (eI E, 7, .inl fd))] (fun u : ((Nat → Int32)) × ((Nat → Int32)) => [(h, .inr (4, fs)), (qm, .inl (eI E, 75, .inl m)), (qw, .inl (eI E, 75, .inl u.2)), (qf, .inl (eI E, 7, .inl u.1))]) [.ref h, .int a1, .int a2, .int a3] (fun (r : Int32) (u : ((Nat → Int32)) × ((Nat → Int32))) => (r, u.1) = mn_on P m fd a1 a2 a3) := by
  refine gI.of (cc := cX4_on) (maxL := 5) (by decide) rfl (Nat.le_of_ble_eq_true rfl) ?_
  intro pG eG sG mG below meth cG A ls H locs F hr hlk hX hP hD hA hS hl
  have hl : lv_has ls 5 [(0, .ref h), (1, .int a1), (2, .int a2), (3, .int a3)] := hl
  refine lv_aload_n F.1 F.2.1 dX4_on_0 rfl (lv_at hl 0 rfl) ?_
  refine lv_iload_n F.1 F.2.1 dX4_on_1 rfl (lv_at hl 1 rfl) ?_
  refine g_goIr (g_runV (As := [.int a1]) (rest := []) F hX hP hD hS hA (c_X4_isPerson l E h fs qm m P a1 (by first | assumption | rfl) (by first | assumption | omega) H.size) (cwV 1 F.2.2.2.2 gX4_on_X4_isPerson rfl rfl rfl (by decide +kernel) ⟨Nat.le_of_ble_eq_true rfl, Nat.le_of_ble_eq_true rfl⟩) [0, 1] rfl rfl (q0 := 0) (ci := 4) rfl rfl rfl hl.1 rfl (Nat.le_of_ble_eq_true rfl) dX4_on_2 ⟨Nat.le_refl _, Nat.le_refl _⟩) hP hD hS hA [0, 1] rfl (fun r _ H locs hq hP hS => ?_)
  subst hq
  refine g_beq (tgt := 30) F dX4_on_5 (by decide) (fun k1 => ?_) (fun k1 => ?_)
  · refine lv_aload_n F.1 F.2.1 dX4_on_30 rfl (lv_at hl 0 rfl) ?_
    refine lv_ldc (v := (-1000000001)) F.1 F.2.1 F.2.2.2.1 (F.2.2.2.2 _ (mm 1 rfl)) dX4_on_31 ?_
    refine g_goI (wr := [(qm, .inl (eI E, 75, .inl m)), (qw, .inl (eI E, 75, .inl w))]) (g_runV (As := [.int (-1000000001)]) (rest := []) F hX hP hD hS hA (c_X4_finds l E h fs qf fd (-1000000001) 0 (by first | assumption | rfl) (by decide +kernel) (by decide) H.size) (cwV 1 F.2.2.2.2 gX4_on_X4_finds rfl rfl rfl (by decide +kernel) ⟨Nat.le_of_ble_eq_true rfl, Nat.le_of_ble_eq_true rfl⟩) [0, 3] rfl rfl (q0 := 0) (ci := 4) rfl rfl rfl hl.1 rfl (Nat.le_of_ble_eq_true rfl) dX4_on_33 ⟨Nat.le_refl _, Nat.le_refl _⟩) hP hD hS hA [0, 3] [1, 2] rfl rfl rfl (by decide) (fun r _ H locs hq hP hD hS => ?_)
    have hP : va_P (eD E) vwCl [(h, .inr (4, fs)), (qm, .inl (eI E, 75, .inl m)), (qw, .inl (eI E, 75, .inl w)), (qf, .inl (eI E, 7, .inl (upd fd 0 (fd 0 + 1))))] H := hP.sub [2, 0, 1, 3] rfl
    have hD : va_D A [(h, .inr (4, fs)), (qm, .inl (eI E, 75, .inl m)), (qw, .inl (eI E, 75, .inl w)), (qf, .inl (eI E, 7, .inl (upd fd 0 (fd 0 + 1))))] := hD.sub [2, 0, 1, 3] (by decide) rfl
    subst hq
    exact g_reti F hr hlk (vp_nar_int _) hS hP hD ((upd fd 0 (fd 0 + 1), w)) (rfl) (by unfold mn_on; (try simp only [k1, and_self, true_and, and_true, if_true, Bool.false_eq_true, false_and, and_false, if_false]); all_goals simp [fn, k1]) dX4_on_36
  · refine lv_iload_n F.1 F.2.1 dX4_on_8 rfl (lv_at hl 2 rfl) ?_
    refine lv_i2l (v := (a2 : Int32).toInt64) F.1 F.2.1 dX4_on_9 rfl ?_
    refine lv_iconst (v := 0) F.1 F.2.1 dX4_on_10 (by decide) ?_
    refine lv_sipush (v := 400) F.1 F.2.1 dX4_on_11 (by decide) ?_
    refine g_goIr (g_runS (As := [.long ((a2 : Int32).toInt64), .int 0, .int 400]) (rest := []) F hX hP hD hS hA (c_X4_in_i l E a2 0 400 H.size) (va_cwS 3 F.2.2.2.2 gX4_on_X4_in rfl rfl rfl (by decide +kernel) ⟨Nat.le_of_ble_eq_true rfl, Nat.le_of_ble_eq_true rfl⟩) [] rfl rfl rfl hl.1 rfl (Nat.le_of_ble_eq_true rfl) dX4_on_14 ⟨Nat.le_refl _, Nat.le_refl _⟩) hP hD hS hA [] rfl (fun r _ H locs hq hP hS => ?_)
    subst hq
    refine g_beq (tgt := 30) F dX4_on_17 (by decide) (fun k2 => ?_) (fun k2 => ?_)
    · refine lv_aload_n F.1 F.2.1 dX4_on_30 rfl (lv_at hl 0 rfl) ?_
      refine lv_ldc (v := (-1000000001)) F.1 F.2.1 F.2.2.2.1 (F.2.2.2.2 _ (mm 1 rfl)) dX4_on_31 ?_
      refine g_goI (wr := [(qm, .inl (eI E, 75, .inl m)), (qw, .inl (eI E, 75, .inl w))]) (g_runV (As := [.int (-1000000001)]) (rest := []) F hX hP hD hS hA (c_X4_finds l E h fs qf fd (-1000000001) 0 (by first | assumption | rfl) (by decide +kernel) (by decide) H.size) (cwV 1 F.2.2.2.2 gX4_on_X4_finds rfl rfl rfl (by decide +kernel) ⟨Nat.le_of_ble_eq_true rfl, Nat.le_of_ble_eq_true rfl⟩) [0, 3] rfl rfl (q0 := 0) (ci := 4) rfl rfl rfl hl.1 rfl (Nat.le_of_ble_eq_true rfl) dX4_on_33 ⟨Nat.le_refl _, Nat.le_refl _⟩) hP hD hS hA [0, 3] [1, 2] rfl rfl rfl (by decide) (fun r _ H locs hq hP hD hS => ?_)
      have hP : va_P (eD E) vwCl [(h, .inr (4, fs)), (qm, .inl (eI E, 75, .inl m)), (qw, .inl (eI E, 75, .inl w)), (qf, .inl (eI E, 7, .inl (upd fd 0 (fd 0 + 1))))] H := hP.sub [2, 0, 1, 3] rfl
      have hD : va_D A [(h, .inr (4, fs)), (qm, .inl (eI E, 75, .inl m)), (qw, .inl (eI E, 75, .inl w)), (qf, .inl (eI E, 7, .inl (upd fd 0 (fd 0 + 1))))] := hD.sub [2, 0, 1, 3] (by decide) rfl
      subst hq
      exact g_reti F hr hlk (vp_nar_int _) hS hP hD ((upd fd 0 (fd 0 + 1), w)) (rfl) (by unfold mn_on; (try simp only [k1, k2, and_self, true_and, and_true, if_true, Bool.false_eq_true, false_and, and_false, if_false]); all_goals simp [fn, k1, k2]) dX4_on_36
    · refine lv_iload_n F.1 F.2.1 dX4_on_20 rfl (lv_at hl 3 rfl) ?_
      refine lv_i2l (v := (a3 : Int32).toInt64) F.1 F.2.1 dX4_on_21 rfl ?_
      refine lv_iconst (v := 0) F.1 F.2.1 dX4_on_22 (by decide) ?_
      refine lv_iconst (v := 2) F.1 F.2.1 dX4_on_23 (by decide) ?_
      refine g_goIr (g_runS (As := [.long ((a3 : Int32).toInt64), .int 0, .int 2]) (rest := []) F hX hP hD hS hA (c_X4_in_i l E a3 0 2 H.size) (va_cwS 3 F.2.2.2.2 gX4_on_X4_in rfl rfl rfl (by decide +kernel) ⟨Nat.le_of_ble_eq_true rfl, Nat.le_of_ble_eq_true rfl⟩) [] rfl rfl rfl hl.1 rfl (Nat.le_of_ble_eq_true rfl) dX4_on_24 ⟨Nat.le_refl _, Nat.le_refl _⟩) hP hD hS hA [] rfl (fun r _ H locs hq hP hS => ?_)
      subst hq
      refine g_bne (tgt := 37) F dX4_on_27 (by decide) (fun k3 => ?_) (fun k3 => ?_)
      · obtain ⟨e_a1, b_a1⟩ := ix_person k1 hP8
        have hl : lv_has ls 5 [(0, .ref h), (1, .int (nI (ix a1))), (2, .int a2), (3, .int a3)] := by rw [← e_a1]; exact hl
        obtain ⟨e_a2, b_a2⟩ := ix_of 400 k2 (by decide) (by decide)
        have hl : lv_has ls 5 [(0, .ref h), (1, .int (nI (ix a1))), (2, .int (nI (ix a2))), (3, .int a3)] := by rw [← e_a2]; exact hl
        obtain ⟨e_a3, b_a3⟩ := ix_of 2 k3 (by decide) (by decide)
        have hl : lv_has ls 5 [(0, .ref h), (1, .int (nI (ix a1))), (2, .int (nI (ix a2))), (3, .int (nI (ix a3)))] := by rw [← e_a3]; exact hl
        refine lv_aload_n F.1 F.2.1 dX4_on_37 rfl (lv_at hl 0 rfl) ?_
        refine g_goV (wr := [(qf, .inl (eI E, 7, .inl fd))]) (g_runV (As := []) (rest := []) F hX hP hD hS hA (c_X4_thinks l E h fs qm qw m w (by first | assumption | rfl) (by first | assumption | rfl) H.size) (cwV 0 F.2.2.2.2 gX4_on_X4_thinks rfl rfl rfl (by decide +kernel) ⟨Nat.le_of_ble_eq_true rfl, Nat.le_of_ble_eq_true rfl⟩) [0, 1, 2] rfl rfl (q0 := 0) (ci := 4) rfl rfl rfl hl.1 rfl (Nat.le_of_ble_eq_true rfl) dX4_on_38 ⟨Nat.le_refl _, Nat.le_refl _⟩) hP hD hS hA [0, 1, 2] [3] rfl rfl rfl (by decide) (fun _ H locs hq hP hD hS => ?_)
        have hP : va_P (eD E) vwCl [(h, .inr (4, fs)), (qm, .inl (eI E, 75, .inl m)), (qw, .inl (eI E, 75, .inl m)), (qf, .inl (eI E, 7, .inl fd))] H := hP.sub [1, 2, 3, 0] rfl
        have hD : va_D A [(h, .inr (4, fs)), (qm, .inl (eI E, 75, .inl m)), (qw, .inl (eI E, 75, .inl m)), (qf, .inl (eI E, 7, .inl fd))] := hD.sub [1, 2, 3, 0] (by decide) rfl
        refine lv_aload_n F.1 F.2.1 dX4_on_41 rfl (lv_at hl 0 rfl) ?_
        refine lv_iload_n F.1 F.2.1 dX4_on_42 rfl (lv_at hl 2 rfl) ?_
        refine g_goV (wr := [(qw, .inl (eI E, 75, .inl m)), (qf, .inl (eI E, 7, .inl fd))]) (g_runV (As := [.int (nI (ix a2))]) (rest := []) F hX hP hD hS hA (c_X4_goesFor l E h fs qm m P (ix a2) (by first | assumption | rfl) (by first | assumption | omega) (by first | assumption | omega) (by first | assumption | omega) H.size) (cwV 1 F.2.2.2.2 gX4_on_X4_goesFor rfl rfl rfl (by decide +kernel) ⟨Nat.le_of_ble_eq_true rfl, Nat.le_of_ble_eq_true rfl⟩) [0, 1] rfl rfl (q0 := 0) (ci := 4) rfl rfl rfl hl.1 rfl (Nat.le_of_ble_eq_true rfl) dX4_on_43 ⟨Nat.le_refl _, Nat.le_refl _⟩) hP hD hS hA [0, 1] [2, 3] rfl rfl rfl (by decide) (fun _ H locs hq hP hD hS => ?_)
        have hP : va_P (eD E) vwCl [(h, .inr (4, fs)), (qm, .inl (eI E, 75, .inl (itM P m (ix a2)))), (qw, .inl (eI E, 75, .inl m)), (qf, .inl (eI E, 7, .inl fd))] H := hP.sub [2, 3, 0, 1] rfl
        have hD : va_D A [(h, .inr (4, fs)), (qm, .inl (eI E, 75, .inl (itM P m (ix a2)))), (qw, .inl (eI E, 75, .inl m)), (qf, .inl (eI E, 7, .inl fd))] := hD.sub [2, 3, 0, 1] (by decide) rfl
        refine lv_aload_n F.1 F.2.1 dX4_on_46 rfl (lv_at hl 0 rfl) ?_
        refine lv_iload_n F.1 F.2.1 dX4_on_47 rfl (lv_at hl 1 rfl) ?_
        refine lv_iconst (v := 1) F.1 F.2.1 dX4_on_48 (by decide) ?_
        refine lv_iload_n F.1 F.2.1 dX4_on_49 rfl (lv_at hl 3 rfl) ?_
        refine lv_iadd F.1 F.2.1 dX4_on_50 ?_
        refine g_top (nI (1 + ix a3)) (nI_add 1 (ix a3)) ?_
        refine g_goIr (g_runV (As := [.int (nI (ix a1)), .int (nI (1 + ix a3))]) (rest := []) F hX hP hD hS hA (c_X4_it l E h fs qm (itM P m (ix a2)) (ix a1) (1 + ix a3) (by first | assumption | rfl) (by first | assumption | omega) (by omega) H.size) (cwV 2 F.2.2.2.2 gX4_on_X4_it rfl rfl rfl (by decide +kernel) ⟨Nat.le_of_ble_eq_true rfl, Nat.le_of_ble_eq_true rfl⟩) [0, 1] rfl rfl (q0 := 0) (ci := 4) rfl rfl rfl hl.1 rfl (Nat.le_of_ble_eq_true rfl) dX4_on_51 ⟨Nat.le_refl _, Nat.le_refl _⟩) hP hD hS hA [0, 1] rfl (fun r _ H locs hq hP hS => ?_)
        subst hq
        refine lv_istore (lv' := [(4, .int (pf (itM P m (ix a2)) (ix a1) (1 + ix a3))), (0, .ref h), (1, .int (nI (ix a1))), (2, .int (nI (ix a2))), (3, .int (nI (ix a3)))]) F.1 F.2.1 dX4_on_54 hl (by decide) rfl (fun ls hl => ?_)
        refine lv_aload_n F.1 F.2.1 dX4_on_56 rfl (lv_at hl 1 rfl) ?_
        refine g_goV (wr := [(qf, .inl (eI E, 7, .inl fd))]) (g_runV (As := []) (rest := []) F hX hP hD hS hA (c_X4_putsBack l E h fs qm qw (itM P m (ix a2)) m (by first | assumption | rfl) (by first | assumption | rfl) H.size) (cwV 0 F.2.2.2.2 gX4_on_X4_putsBack rfl rfl rfl (by decide +kernel) ⟨Nat.le_of_ble_eq_true rfl, Nat.le_of_ble_eq_true rfl⟩) [0, 1, 2] rfl rfl (q0 := 0) (ci := 4) rfl rfl rfl hl.1 rfl (Nat.le_of_ble_eq_true rfl) dX4_on_57 ⟨Nat.le_refl _, Nat.le_refl _⟩) hP hD hS hA [0, 1, 2] [3] rfl rfl rfl (by decide) (fun _ H locs hq hP hD hS => ?_)
        have hP : va_P (eD E) vwCl [(h, .inr (4, fs)), (qm, .inl (eI E, 75, .inl m)), (qw, .inl (eI E, 75, .inl m)), (qf, .inl (eI E, 7, .inl fd))] H := hP.sub [1, 2, 3, 0] rfl
        have hD : va_D A [(h, .inr (4, fs)), (qm, .inl (eI E, 75, .inl m)), (qw, .inl (eI E, 75, .inl m)), (qf, .inl (eI E, 7, .inl fd))] := hD.sub [1, 2, 3, 0] (by decide) rfl
        refine lv_iload F.1 F.2.1 dX4_on_60 (lv_at hl 0 rfl) ?_
        exact g_reti F hr hlk (vp_nar_int _) hS hP hD ((fd, m)) (rfl) (by unfold mn_on; rw [if_pos ⟨k1, k2, k3⟩]) dX4_on_62
      · refine lv_aload_n F.1 F.2.1 dX4_on_30 rfl (lv_at hl 0 rfl) ?_
        refine lv_ldc (v := (-1000000001)) F.1 F.2.1 F.2.2.2.1 (F.2.2.2.2 _ (mm 1 rfl)) dX4_on_31 ?_
        refine g_goI (wr := [(qm, .inl (eI E, 75, .inl m)), (qw, .inl (eI E, 75, .inl w))]) (g_runV (As := [.int (-1000000001)]) (rest := []) F hX hP hD hS hA (c_X4_finds l E h fs qf fd (-1000000001) 0 (by first | assumption | rfl) (by decide +kernel) (by decide) H.size) (cwV 1 F.2.2.2.2 gX4_on_X4_finds rfl rfl rfl (by decide +kernel) ⟨Nat.le_of_ble_eq_true rfl, Nat.le_of_ble_eq_true rfl⟩) [0, 3] rfl rfl (q0 := 0) (ci := 4) rfl rfl rfl hl.1 rfl (Nat.le_of_ble_eq_true rfl) dX4_on_33 ⟨Nat.le_refl _, Nat.le_refl _⟩) hP hD hS hA [0, 3] [1, 2] rfl rfl rfl (by decide) (fun r _ H locs hq hP hD hS => ?_)
        have hP : va_P (eD E) vwCl [(h, .inr (4, fs)), (qm, .inl (eI E, 75, .inl m)), (qw, .inl (eI E, 75, .inl w)), (qf, .inl (eI E, 7, .inl (upd fd 0 (fd 0 + 1))))] H := hP.sub [2, 0, 1, 3] rfl
        have hD : va_D A [(h, .inr (4, fs)), (qm, .inl (eI E, 75, .inl m)), (qw, .inl (eI E, 75, .inl w)), (qf, .inl (eI E, 7, .inl (upd fd 0 (fd 0 + 1))))] := hD.sub [2, 0, 1, 3] (by decide) rfl
        subst hq
        exact g_reti F hr hlk (vp_nar_int _) hS hP hD ((upd fd 0 (fd 0 + 1), w)) (rfl) (by unfold mn_on; (try simp only [k1, k2, k3, and_self, true_and, and_true, if_true, Bool.false_eq_true, false_and, and_false, if_false]); all_goals simp [fn, k1, k2, k3]) dX4_on_36
