def mn_quietest (P : Nat) (m fd : Nat → Int32) (a1 : Int32) : Int32 × (Nat → Int32) := if inR a1 0 400 = true then ((if 0 ≤ qtm (fun j => pf (itM P m (ix a1)) j 2) P then qtm (fun j => pf (itM P m (ix a1)) j 2) P else -1000000004), (if 0 ≤ qtm (fun j => pf (itM P m (ix a1)) j 2) P then fd else fn fd 3)) else (-1000000001, fn fd 0)
set_option maxHeartbeats 4000000 in
set_option maxRecDepth 100000 in
theorem c_X4_quietest (l : Launch) (E : gE) (h : Nat) (fs : List Value) (qm : Nat) (qw : Nat) (qf : Nat) (m : Nat → Int32) (w : Nat → Int32) (fd : Nat → Int32) (P : Nat) (a1 : Int32) (hf0 : fs[0]? = some (.ref qm)) (hf2 : fs[2]? = some (.ref qw)) (hf4 : fs[4]? = some (.ref qf)) (hm4 : m 4 = nI P) (hP8 : P ≤ 8) : gI l yX4_quietest wsX4_quietest ({ frames := 8, cells := 0, slots := 0, locals := 169 }) E [(h, .inr (4, fs)), (qm, .inl (eI E, 75, .inl m)), (qw, .inl (eI E, 75, .inl w)), (qf, .inl (eI E, 7, .inl fd))] (fun u : ((Nat → Int32)) × ((Nat → Int32)) => [(h, .inr (4, fs)), (qm, .inl (eI E, 75, .inl m)), (qw, .inl (eI E, 75, .inl u.2)), (qf, .inl (eI E, 7, .inl u.1))]) [.ref h, .int a1] (fun (r : Int32) (u : ((Nat → Int32)) × ((Nat → Int32))) => (r, u.1) = mn_quietest P m fd a1) := by
  have hin4 : ∀ w ∈ wsX40, w ∈ wsX4_quietest := (fun _ h => (List.mem_cons_of_mem _ (List.mem_append_right _ h)))
  refine gI.of (cc := cX4_quietest) (maxL := 4) (by decide) rfl (Nat.le_of_ble_eq_true rfl) ?_
  intro pG eG sG mG below meth cG A ls H locs F hr hlk hX hP hD hA hS hl
  have hl : lv_has ls 4 [(0, .ref h), (1, .int a1)] := hl
  refine lv_iload_n F.1 F.2.1 dX4_quietest_0 rfl (lv_at hl 1 rfl) ?_
  refine lv_i2l (v := (a1 : Int32).toInt64) F.1 F.2.1 dX4_quietest_1 rfl ?_
  refine lv_iconst (v := 0) F.1 F.2.1 dX4_quietest_2 (by decide) ?_
  refine lv_sipush (v := 400) F.1 F.2.1 dX4_quietest_3 (by decide) ?_
  refine g_goIr (g_runS (As := [.long ((a1 : Int32).toInt64), .int 0, .int 400]) (rest := []) F hX hP hD hS hA (c_X4_in_i l E a1 0 400 H.size) (va_cwS 3 F.2.2.2.2 gX4_quietest_X4_in rfl rfl rfl (by decide +kernel) ⟨Nat.le_of_ble_eq_true rfl, Nat.le_of_ble_eq_true rfl⟩) [] rfl rfl rfl hl.1 rfl (Nat.le_of_ble_eq_true rfl) dX4_quietest_6 ⟨Nat.le_refl _, Nat.le_refl _⟩) hP hD hS hA [] rfl (fun r _ H locs hq hP hS => ?_)
  subst hq
  refine g_bne (tgt := 19) F dX4_quietest_9 (by decide) (fun k1 => ?_) (fun k1 => ?_)
  · obtain ⟨e_a1, b_a1⟩ := ix_of 400 k1 (by decide) (by decide)
    have hl : lv_has ls 4 [(0, .ref h), (1, .int (nI (ix a1)))] := by rw [← e_a1]; exact hl
    refine lv_aload_n F.1 F.2.1 dX4_quietest_19 rfl (lv_at hl 0 rfl) ?_
    refine g_goV (wr := [(qf, .inl (eI E, 7, .inl fd))]) (g_runV (As := []) (rest := []) F hX hP hD hS hA (c_X4_thinks l E h fs qm qw m w (by first | assumption | rfl) (by first | assumption | rfl) H.size) (cwV 0 F.2.2.2.2 gX4_quietest_X4_thinks rfl rfl rfl (by decide +kernel) ⟨Nat.le_of_ble_eq_true rfl, Nat.le_of_ble_eq_true rfl⟩) [0, 1, 2] rfl rfl (q0 := 0) (ci := 4) rfl rfl rfl hl.1 rfl (Nat.le_of_ble_eq_true rfl) dX4_quietest_20 ⟨Nat.le_refl _, Nat.le_refl _⟩) hP hD hS hA [0, 1, 2] [3] rfl rfl rfl (by decide) (fun _ H locs hq hP hD hS => ?_)
    have hP : va_P (eD E) vwCl [(h, .inr (4, fs)), (qm, .inl (eI E, 75, .inl m)), (qw, .inl (eI E, 75, .inl m)), (qf, .inl (eI E, 7, .inl fd))] H := hP.sub [1, 2, 3, 0] rfl
    have hD : va_D A [(h, .inr (4, fs)), (qm, .inl (eI E, 75, .inl m)), (qw, .inl (eI E, 75, .inl m)), (qf, .inl (eI E, 7, .inl fd))] := hD.sub [1, 2, 3, 0] (by decide) rfl
    refine lv_aload_n F.1 F.2.1 dX4_quietest_23 rfl (lv_at hl 0 rfl) ?_
    refine lv_iload_n F.1 F.2.1 dX4_quietest_24 rfl (lv_at hl 1 rfl) ?_
    refine g_goV (wr := [(qw, .inl (eI E, 75, .inl m)), (qf, .inl (eI E, 7, .inl fd))]) (g_runV (As := [.int (nI (ix a1))]) (rest := []) F hX hP hD hS hA (c_X4_goesFor l E h fs qm m P (ix a1) (by first | assumption | rfl) (by first | assumption | omega) (by first | assumption | omega) (by first | assumption | omega) H.size) (cwV 1 F.2.2.2.2 gX4_quietest_X4_goesFor rfl rfl rfl (by decide +kernel) ⟨Nat.le_of_ble_eq_true rfl, Nat.le_of_ble_eq_true rfl⟩) [0, 1] rfl rfl (q0 := 0) (ci := 4) rfl rfl rfl hl.1 rfl (Nat.le_of_ble_eq_true rfl) dX4_quietest_25 ⟨Nat.le_refl _, Nat.le_refl _⟩) hP hD hS hA [0, 1] [2, 3] rfl rfl rfl (by decide) (fun _ H locs hq hP hD hS => ?_)
    have hP : va_P (eD E) vwCl [(h, .inr (4, fs)), (qm, .inl (eI E, 75, .inl (itM P m (ix a1)))), (qw, .inl (eI E, 75, .inl m)), (qf, .inl (eI E, 7, .inl fd))] H := hP.sub [2, 3, 0, 1] rfl
    have hD : va_D A [(h, .inr (4, fs)), (qm, .inl (eI E, 75, .inl (itM P m (ix a1)))), (qw, .inl (eI E, 75, .inl m)), (qf, .inl (eI E, 7, .inl fd))] := hD.sub [2, 3, 0, 1] (by decide) rfl
    refine lv_iconst (v := (-1)) F.1 F.2.1 dX4_quietest_28 (by decide) ?_
    refine lv_istore_n (lv' := [(2, .int (-1)), (0, .ref h), (1, .int (nI (ix a1)))]) F.1 F.2.1 dX4_quietest_29 rfl hl (by decide) rfl (fun ls hl => ?_)
    refine lv_iconst (v := 0) F.1 F.2.1 dX4_quietest_30 (by decide) ?_
    refine lv_istore_n (lv' := [(3, .int 0), (2, .int (-1)), (0, .ref h), (1, .int (nI (ix a1)))]) F.1 F.2.1 dX4_quietest_31 rfl hl (by decide) rfl (fun ls hl => ?_)
    have lp32 : ∀ (fu i : Nat), i ≤ P → P + 1 ≤ i + fu → ∀ (H : Heap) (locs : List Loc) (ls : Array Slot), va_P (eD E) vwCl [(h, .inr (4, fs)), (qm, .inl (eI E, 75, .inl (itM P m (ix a1)))), (qw, .inl (eI E, 75, .inl m)), (qf, .inl (eI E, 7, .inl fd))] H → va_D A [(h, .inr (4, fs)), (qm, .inl (eI E, 75, .inl (itM P m (ix a1)))), (qw, .inl (eI E, 75, .inl m)), (qf, .inl (eI E, 7, .inl fd))] → va_S A sG.heap H locs → lv_has ls 4 [(3, .int (nI i)), (2, .int (qtm (fun j => pf (itM P m (ix a1)) j 2) i)), (0, .ref h), (1, .int (nI (ix a1)))] → W pG l eG { frames := 8, cells := 0, slots := 0, locals := 169 } sG mG [.ref h, .int a1].toArray below meth cG H locs 0 0 (MQ below (va_Qi (fun (r : Int32) (u : ((Nat → Int32)) × ((Nat → Int32))) => (r, u.1) = mn_quietest P m fd a1) (gR E (fun u : ((Nat → Int32)) × ((Nat → Int32)) => [(h, .inr (4, fs)), (qm, .inl (eI E, 75, .inl m)), (qw, .inl (eI E, 75, .inl u.2)), (qf, .inl (eI E, 7, .inl u.1))]) A) A) [.ref h, .int a1].toArray sG 0 0 A) (F0 mG 32 ls []) := by
      intro fu
      induction fu with
      | zero => intro i h1 h2; exact absurd h2 (by omega)
      | succ fu ih =>
        intro i hi hin   H locs ls hP hD hS hl
        refine lv_iload_n F.1 F.2.1 dX4_quietest_32 rfl (lv_at hl 0 rfl) ?_
        refine lv_aload_n F.1 F.2.1 dX4_quietest_33 rfl (lv_at hl 2 rfl) ?_
        refine g_get F hX hP hin4 0 rfl rfl 0 (by decide) (mm 2 rfl) hf0 dX4_quietest_34 ?_
        refine lv_iconst (v := 4) F.1 F.2.1 dX4_quietest_37 (by decide) ?_
        refine g_iald F hX hP 1 rfl (j := 4) (rfl) (by decide) (by decide) dX4_quietest_38 ?_
        refine g_top (nI P) ((itM_lo P m (by decide) (by decide) (ix a1)).trans hm4) ?_
        refine lv_icmp_ge (tgt := 73) F.1 F.2.1 dX4_quietest_39 (by decide) (fun k2 => ?_) (fun k2 => ?_)
        · have hiN : P = i := Nat.le_antisymm ((nI_leI (by omega) (by omega)).mp k2) hi
          subst hiN
          refine lv_aload_n F.1 F.2.1 dX4_quietest_73 rfl (lv_at hl 2 rfl) ?_
          refine g_goV (wr := [(qf, .inl (eI E, 7, .inl fd))]) (g_runV (As := []) (rest := []) F hX hP hD hS hA (c_X4_putsBack l E h fs qm qw (itM P m (ix a1)) m (by first | assumption | rfl) (by first | assumption | rfl) H.size) (cwV 0 F.2.2.2.2 gX4_quietest_X4_putsBack rfl rfl rfl (by decide +kernel) ⟨Nat.le_of_ble_eq_true rfl, Nat.le_of_ble_eq_true rfl⟩) [0, 1, 2] rfl rfl (q0 := 0) (ci := 4) rfl rfl rfl hl.1 rfl (Nat.le_of_ble_eq_true rfl) dX4_quietest_74 ⟨Nat.le_refl _, Nat.le_refl _⟩) hP hD hS hA [0, 1, 2] [3] rfl rfl rfl (by decide) (fun _ H locs hq hP hD hS => ?_)
          have hP : va_P (eD E) vwCl [(h, .inr (4, fs)), (qm, .inl (eI E, 75, .inl m)), (qw, .inl (eI E, 75, .inl m)), (qf, .inl (eI E, 7, .inl fd))] H := hP.sub [1, 2, 3, 0] rfl
          have hD : va_D A [(h, .inr (4, fs)), (qm, .inl (eI E, 75, .inl m)), (qw, .inl (eI E, 75, .inl m)), (qf, .inl (eI E, 7, .inl fd))] := hD.sub [1, 2, 3, 0] (by decide) rfl
          refine lv_aload_n F.1 F.2.1 dX4_quietest_77 rfl (lv_at hl 2 rfl) ?_
          refine lv_iload_n F.1 F.2.1 dX4_quietest_78 rfl (lv_at hl 1 rfl) ?_
          refine g_goI (wr := [(qm, .inl (eI E, 75, .inl m)), (qw, .inl (eI E, 75, .inl m))]) (g_runV (As := [.int (qtm (fun j => pf (itM P m (ix a1)) j 2) P)]) (rest := []) F hX hP hD hS hA (c_X4_orNone l E h fs qf fd (qtm (fun j => pf (itM P m (ix a1)) j 2) P) (by first | assumption | rfl) H.size) (cwV 1 F.2.2.2.2 gX4_quietest_X4_orNone rfl rfl rfl (by decide +kernel) ⟨Nat.le_of_ble_eq_true rfl, Nat.le_of_ble_eq_true rfl⟩) [0, 3] rfl rfl (q0 := 0) (ci := 4) rfl rfl rfl hl.1 rfl (Nat.le_of_ble_eq_true rfl) dX4_quietest_79 ⟨Nat.le_refl _, Nat.le_refl _⟩) hP hD hS hA [0, 3] [1, 2] rfl rfl rfl (by decide) (fun r _ H locs hq hP hD hS => ?_)
          have hP : va_P (eD E) vwCl [(h, .inr (4, fs)), (qm, .inl (eI E, 75, .inl m)), (qw, .inl (eI E, 75, .inl m)), (qf, .inl (eI E, 7, .inl (if 0 ≤ (qtm (fun j => pf (itM P m (ix a1)) j 2) P) then fd else upd fd 3 (fd 3 + 1))))] H := hP.sub [2, 0, 1, 3] rfl
          have hD : va_D A [(h, .inr (4, fs)), (qm, .inl (eI E, 75, .inl m)), (qw, .inl (eI E, 75, .inl m)), (qf, .inl (eI E, 7, .inl (if 0 ≤ (qtm (fun j => pf (itM P m (ix a1)) j 2) P) then fd else upd fd 3 (fd 3 + 1))))] := hD.sub [2, 0, 1, 3] (by decide) rfl
          subst hq
          exact g_reti F hr hlk (vp_nar_int _) hS hP hD (((if 0 ≤ (qtm (fun j => pf (itM P m (ix a1)) j 2) P) then fd else upd fd 3 (fd 3 + 1)), m)) (rfl) (by unfold mn_quietest; rw [if_pos k1]; rfl) dX4_quietest_82
        · have hiN : i < P := Nat.lt_of_not_le (fun h => k2 (nI_le h (by omega)))
          refine lv_iload_n F.1 F.2.1 dX4_quietest_42 rfl (lv_at hl 1 rfl) ?_
          have jn66 : ∀ (H : Heap) (locs : List Loc) (ls : Array Slot), va_P (eD E) vwCl [(h, .inr (4, fs)), (qm, .inl (eI E, 75, .inl (itM P m (ix a1)))), (qw, .inl (eI E, 75, .inl m)), (qf, .inl (eI E, 7, .inl fd))] H → va_D A [(h, .inr (4, fs)), (qm, .inl (eI E, 75, .inl (itM P m (ix a1)))), (qw, .inl (eI E, 75, .inl m)), (qf, .inl (eI E, 7, .inl fd))] → va_S A sG.heap H locs → lv_has ls 4 [(3, .int (nI i)), (0, .ref h), (1, .int (nI (ix a1)))] → W pG l eG { frames := 8, cells := 0, slots := 0, locals := 169 } sG mG [.ref h, .int a1].toArray below meth cG H locs 0 0 (MQ below (va_Qi (fun (r : Int32) (u : ((Nat → Int32)) × ((Nat → Int32))) => (r, u.1) = mn_quietest P m fd a1) (gR E (fun u : ((Nat → Int32)) × ((Nat → Int32)) => [(h, .inr (4, fs)), (qm, .inl (eI E, 75, .inl m)), (qw, .inl (eI E, 75, .inl u.2)), (qf, .inl (eI E, 7, .inl u.1))]) A) A) [.ref h, .int a1].toArray sG 0 0 A) (F0 mG 66 ls [.int (qtm (fun j => pf (itM P m (ix a1)) j 2) (i + 1))]) := by
            intro H locs ls hP hD hS hl
            refine lv_istore_n (lv' := [(2, .int (qtm (fun j => pf (itM P m (ix a1)) j 2) (i + 1))), (3, .int (nI i)), (0, .ref h), (1, .int (nI (ix a1)))]) F.1 F.2.1 dX4_quietest_66 rfl hl (by decide) rfl (fun ls hl => ?_)
            refine lv_iinc (v := nI (i + 1)) (lv' := [(3, .int (nI (i + 1))), (2, .int (qtm (fun j => pf (itM P m (ix a1)) j 2) (i + 1))), (0, .ref h), (1, .int (nI (ix a1)))]) F.1 F.2.1 dX4_quietest_67 hl (k := 1) rfl (nI_1 _) (by decide) rfl (fun ls hl => ?_)
            refine lv_goto (tgt := 32) F.1 F.2.1 dX4_quietest_70 (by decide) ?_
            exact ih (i + 1) (by omega) (by omega)  _ _ _ hP hD hS (lv_sub hl [0, 1, 2, 3] rfl)
          refine lv_if_lt (tgt := 61) F.1 F.2.1 dX4_quietest_43 (by decide) (fun k3 => ?_) (fun k3 => ?_)
          · refine lv_iload_n F.1 F.2.1 dX4_quietest_61 rfl (lv_at hl 0 rfl) ?_
            refine lv_goto (tgt := 66) F.1 F.2.1 dX4_quietest_62 (by decide) ?_
            refine g_top (qtm (fun j => pf (itM P m (ix a1)) j 2) (i + 1)) (by first | exact qtm_lt (f := (fun j => pf (itM P m (ix a1)) j 2)) (by omega) k3 | exact qtm_n (f := (fun j => pf (itM P m (ix a1)) j 2)) h0i k3 | exact qtm_y (f := (fun j => pf (itM P m (ix a1)) j 2)) h0i k3) ?_
            exact jn66 _ _ _ hP hD hS (lv_sub hl [0, 2, 3] rfl)
          · have h0i := (qtm_ge (f := (fun j => pf (itM P m (ix a1)) j 2)) k3).2
            have hl : lv_has ls 4 [(3, .int (nI i)), (2, .int (nI (qtb (fun j => pf (itM P m (ix a1)) j 2) (i - 1)))), (0, .ref h), (1, .int (nI (ix a1)))] := by rw [← (qtm_ge (f := (fun j => pf (itM P m (ix a1)) j 2)) k3).1]; exact hl
            refine lv_aload_n F.1 F.2.1 dX4_quietest_46 rfl (lv_at hl 2 rfl) ?_
            refine lv_iload_n F.1 F.2.1 dX4_quietest_47 rfl (lv_at hl 0 rfl) ?_
            refine lv_iconst (v := 2) F.1 F.2.1 dX4_quietest_48 (by decide) ?_
            refine g_goIr (g_runV (As := [.int (nI i), .int 2]) (rest := []) F hX hP hD hS hA (c_X4_it l E h fs qm (itM P m (ix a1)) i 2 (by first | assumption | rfl) (by first | assumption | omega) (by decide) H.size) (cwV 2 F.2.2.2.2 gX4_quietest_X4_it rfl rfl rfl (by decide +kernel) ⟨Nat.le_of_ble_eq_true rfl, Nat.le_of_ble_eq_true rfl⟩) [0, 1] rfl rfl (q0 := 0) (ci := 4) rfl rfl rfl hl.1 rfl (Nat.le_of_ble_eq_true rfl) dX4_quietest_49 ⟨Nat.le_refl _, Nat.le_refl _⟩) hP hD hS hA [0, 1] rfl (fun r _ H locs hq hP hS => ?_)
            subst hq
            refine lv_aload_n F.1 F.2.1 dX4_quietest_52 rfl (lv_at hl 2 rfl) ?_
            refine lv_iload_n F.1 F.2.1 dX4_quietest_53 rfl (lv_at hl 1 rfl) ?_
            refine lv_iconst (v := 2) F.1 F.2.1 dX4_quietest_54 (by decide) ?_
            refine g_goIr (g_runV (As := [.int (nI (qtb (fun j => pf (itM P m (ix a1)) j 2) (i - 1))), .int 2]) (rest := [.int (pf (itM P m (ix a1)) i 2)]) F hX hP hD hS hA (c_X4_it l E h fs qm (itM P m (ix a1)) (qtb (fun j => pf (itM P m (ix a1)) j 2) (i - 1)) 2 (by first | assumption | rfl) (by have := qtb_le (fun j => pf (itM P m (ix a1)) j 2) (i - 1); omega) (by decide) H.size) (cwV 2 F.2.2.2.2 gX4_quietest_X4_it rfl rfl rfl (by decide +kernel) ⟨Nat.le_of_ble_eq_true rfl, Nat.le_of_ble_eq_true rfl⟩) [0, 1] rfl rfl (q0 := 0) (ci := 4) rfl rfl rfl hl.1 rfl (Nat.le_of_ble_eq_true rfl) dX4_quietest_55 ⟨Nat.le_refl _, Nat.le_refl _⟩) hP hD hS hA [0, 1] rfl (fun r _ H locs hq hP hS => ?_)
            subst hq
            refine lv_icmp_le (tgt := 65) F.1 F.2.1 dX4_quietest_58 (by decide) (fun k4 => ?_) (fun k4 => ?_)
            · refine lv_iload_n F.1 F.2.1 dX4_quietest_65 rfl (lv_at hl 1 rfl) ?_
              refine g_top (qtm (fun j => pf (itM P m (ix a1)) j 2) (i + 1)) (by first | exact qtm_lt (f := (fun j => pf (itM P m (ix a1)) j 2)) (by omega) k4 | exact qtm_n (f := (fun j => pf (itM P m (ix a1)) j 2)) h0i k4 | exact qtm_y (f := (fun j => pf (itM P m (ix a1)) j 2)) h0i k4) ?_
              exact jn66 _ _ _ hP hD hS (lv_sub hl [0, 2, 3] rfl)
            · refine lv_iload_n F.1 F.2.1 dX4_quietest_61 rfl (lv_at hl 0 rfl) ?_
              refine lv_goto (tgt := 66) F.1 F.2.1 dX4_quietest_62 (by decide) ?_
              refine g_top (qtm (fun j => pf (itM P m (ix a1)) j 2) (i + 1)) (by first | exact qtm_lt (f := (fun j => pf (itM P m (ix a1)) j 2)) (by omega) k4 | exact qtm_n (f := (fun j => pf (itM P m (ix a1)) j 2)) h0i k4 | exact qtm_y (f := (fun j => pf (itM P m (ix a1)) j 2)) h0i k4) ?_
              exact jn66 _ _ _ hP hD hS (lv_sub hl [0, 2, 3] rfl)
    exact lp32 (P + 1) 0 (by omega) (by omega)  _ _ _ hP hD hS (lv_sub hl [0, 1, 2, 3] rfl)
  · refine lv_aload_n F.1 F.2.1 dX4_quietest_12 rfl (lv_at hl 0 rfl) ?_
    refine lv_ldc (v := (-1000000001)) F.1 F.2.1 F.2.2.2.1 (F.2.2.2.2 _ (mm 1 rfl)) dX4_quietest_13 ?_
    refine g_goI (wr := [(qm, .inl (eI E, 75, .inl m)), (qw, .inl (eI E, 75, .inl w))]) (g_runV (As := [.int (-1000000001)]) (rest := []) F hX hP hD hS hA (c_X4_finds l E h fs qf fd (-1000000001) 0 (by first | assumption | rfl) (by decide +kernel) (by decide) H.size) (cwV 1 F.2.2.2.2 gX4_quietest_X4_finds rfl rfl rfl (by decide +kernel) ⟨Nat.le_of_ble_eq_true rfl, Nat.le_of_ble_eq_true rfl⟩) [0, 3] rfl rfl (q0 := 0) (ci := 4) rfl rfl rfl hl.1 rfl (Nat.le_of_ble_eq_true rfl) dX4_quietest_15 ⟨Nat.le_refl _, Nat.le_refl _⟩) hP hD hS hA [0, 3] [1, 2] rfl rfl rfl (by decide) (fun r _ H locs hq hP hD hS => ?_)
    have hP : va_P (eD E) vwCl [(h, .inr (4, fs)), (qm, .inl (eI E, 75, .inl m)), (qw, .inl (eI E, 75, .inl w)), (qf, .inl (eI E, 7, .inl (upd fd 0 (fd 0 + 1))))] H := hP.sub [2, 0, 1, 3] rfl
    have hD : va_D A [(h, .inr (4, fs)), (qm, .inl (eI E, 75, .inl m)), (qw, .inl (eI E, 75, .inl w)), (qf, .inl (eI E, 7, .inl (upd fd 0 (fd 0 + 1))))] := hD.sub [2, 0, 1, 3] (by decide) rfl
    subst hq
    exact g_reti F hr hlk (vp_nar_int _) hS hP hD ((upd fd 0 (fd 0 + 1), w)) (rfl) (by unfold mn_quietest; (try simp only [k1, and_self, true_and, and_true, if_true, Bool.false_eq_true, false_and, and_false, if_false]); all_goals simp [fn, k1]) dX4_quietest_18
