def mn_wide (P : Nat) (m fd : Nat → Int32) (a1 : Int32) : Int32 × (Nat → Int32) := if inR a1 1 100 = true then (match fs1 (fun n => !decide (sumF 0 (fun j => pf m j 3) P < (fun n => sumF 0 (fun j => pf (itM P (upd m 2 (wdv n)) (ix a1)) j 3) P) n)) 11 0 with | some n => (wdv n, fd) | none => (-1000000004, fn fd 3)) else (-1000000001, fn fd 0)
set_option maxHeartbeats 4000000 in
set_option maxRecDepth 100000 in
theorem c_X4_wide (l : Launch) (E : gE) (h : Nat) (fs : List Value) (qm : Nat) (qw : Nat) (qf : Nat) (m : Nat → Int32) (w : Nat → Int32) (fd : Nat → Int32) (P : Nat) (a1 : Int32) (hf0 : fs[0]? = some (.ref qm)) (hf2 : fs[2]? = some (.ref qw)) (hf4 : fs[4]? = some (.ref qf)) (hm4 : m 4 = nI P) (hP8 : P ≤ 8) : gI l yX4_wide wsX4_wide ({ frames := 8, cells := 0, slots := 0, locals := 169 }) E [(h, .inr (4, fs)), (qm, .inl (eI E, 75, .inl m)), (qw, .inl (eI E, 75, .inl w)), (qf, .inl (eI E, 7, .inl fd))] (fun u : ((Nat → Int32)) × ((Nat → Int32)) => [(h, .inr (4, fs)), (qm, .inl (eI E, 75, .inl m)), (qw, .inl (eI E, 75, .inl u.2)), (qf, .inl (eI E, 7, .inl u.1))]) [.ref h, .int a1] (fun (r : Int32) (u : ((Nat → Int32)) × ((Nat → Int32))) => (r, u.1) = mn_wide P m fd a1) := by
  have hin4 : ∀ w ∈ wsX40, w ∈ wsX4_wide := (fun _ h => (List.mem_cons_of_mem _ (List.mem_append_right _ h)))
  refine gI.of (cc := cX4_wide) (maxL := 5) (by decide) rfl (Nat.le_of_ble_eq_true rfl) ?_
  intro pG eG sG mG below meth cG A ls H locs F hr hlk hX hP hD hA hS hl
  have hl : lv_has ls 5 [(0, .ref h), (1, .int a1)] := hl
  refine lv_iload_n F.1 F.2.1 dX4_wide_0 rfl (lv_at hl 1 rfl) ?_
  refine lv_i2l (v := (a1 : Int32).toInt64) F.1 F.2.1 dX4_wide_1 rfl ?_
  refine lv_iconst (v := 1) F.1 F.2.1 dX4_wide_2 (by decide) ?_
  refine lv_bipush (v := 100) F.1 F.2.1 dX4_wide_3 (by decide) ?_
  refine g_goIr (g_runS (As := [.long ((a1 : Int32).toInt64), .int 1, .int 100]) (rest := []) F hX hP hD hS hA (c_X4_in_i l E a1 1 100 H.size) (va_cwS 3 F.2.2.2.2 gX4_wide_X4_in rfl rfl rfl (by decide +kernel) ⟨Nat.le_of_ble_eq_true rfl, Nat.le_of_ble_eq_true rfl⟩) [] rfl rfl rfl hl.1 rfl (Nat.le_of_ble_eq_true rfl) dX4_wide_5 ⟨Nat.le_refl _, Nat.le_refl _⟩) hP hD hS hA [] rfl (fun r _ H locs hq hP hS => ?_)
  subst hq
  refine g_bne (tgt := 18) F dX4_wide_8 (by decide) (fun k1 => ?_) (fun k1 => ?_)
  · obtain ⟨e_a1, b_a1⟩ := ix_of 100 k1 (by decide) (by decide)
    have hl : lv_has ls 5 [(0, .ref h), (1, .int (nI (ix a1)))] := by rw [← e_a1]; exact hl
    refine lv_aload_n F.1 F.2.1 dX4_wide_18 rfl (lv_at hl 0 rfl) ?_
    refine g_goV (wr := [(qf, .inl (eI E, 7, .inl fd))]) (g_runV (As := []) (rest := []) F hX hP hD hS hA (c_X4_thinks l E h fs qm qw m w (by first | assumption | rfl) (by first | assumption | rfl) H.size) (cwV 0 F.2.2.2.2 gX4_wide_X4_thinks rfl rfl rfl (by decide +kernel) ⟨Nat.le_of_ble_eq_true rfl, Nat.le_of_ble_eq_true rfl⟩) [0, 1, 2] rfl rfl (q0 := 0) (ci := 4) rfl rfl rfl hl.1 rfl (Nat.le_of_ble_eq_true rfl) dX4_wide_19 ⟨Nat.le_refl _, Nat.le_refl _⟩) hP hD hS hA [0, 1, 2] [3] rfl rfl rfl (by decide) (fun _ H locs hq hP hD hS => ?_)
    have hP : va_P (eD E) vwCl [(h, .inr (4, fs)), (qm, .inl (eI E, 75, .inl m)), (qw, .inl (eI E, 75, .inl m)), (qf, .inl (eI E, 7, .inl fd))] H := hP.sub [1, 2, 3, 0] rfl
    have hD : va_D A [(h, .inr (4, fs)), (qm, .inl (eI E, 75, .inl m)), (qw, .inl (eI E, 75, .inl m)), (qf, .inl (eI E, 7, .inl fd))] := hD.sub [1, 2, 3, 0] (by decide) rfl
    refine lv_aload_n F.1 F.2.1 dX4_wide_22 rfl (lv_at hl 0 rfl) ?_
    refine lv_iconst (v := 3) F.1 F.2.1 dX4_wide_23 (by decide) ?_
    refine g_goIr (g_runV (As := [.int 3]) (rest := []) F hX hP hD hS hA (c_X4_sums l E h fs qm m P 3 (by first | assumption | rfl) (by first | assumption | omega) (by first | assumption | omega) (by decide) H.size) (cwV 1 F.2.2.2.2 gX4_wide_X4_sums rfl rfl rfl (by decide +kernel) ⟨Nat.le_of_ble_eq_true rfl, Nat.le_of_ble_eq_true rfl⟩) [0, 1] rfl rfl (q0 := 0) (ci := 4) rfl rfl rfl hl.1 rfl (Nat.le_of_ble_eq_true rfl) dX4_wide_24 ⟨Nat.le_refl _, Nat.le_refl _⟩) hP hD hS hA [0, 1] rfl (fun r _ H locs hq hP hS => ?_)
    subst hq
    refine lv_istore_n (lv' := [(2, .int (sumF 0 (fun j => pf m j 3) P)), (0, .ref h), (1, .int (nI (ix a1)))]) F.1 F.2.1 dX4_wide_27 rfl hl (by decide) rfl (fun ls hl => ?_)
    refine lv_iconst (v := (-1)) F.1 F.2.1 dX4_wide_28 (by decide) ?_
    refine lv_istore_n (lv' := [(3, .int (-1)), (2, .int (sumF 0 (fun j => pf m j 3) P)), (0, .ref h), (1, .int (nI (ix a1)))]) F.1 F.2.1 dX4_wide_29 rfl hl (by decide) rfl (fun ls hl => ?_)
    refine lv_bipush (v := 10) F.1 F.2.1 dX4_wide_30 (by decide) ?_
    refine lv_istore (lv' := [(4, .int 10), (3, .int (-1)), (2, .int (sumF 0 (fun j => pf m j 3) P)), (0, .ref h), (1, .int (nI (ix a1)))]) F.1 F.2.1 dX4_wide_32 hl (by decide) rfl (fun ls hl => ?_)
    have lp34 : ∀ (fu i : Nat), i ≤ 11 → 11 + 1 ≤ i + fu → ∀ (b : Int32), wdB (sumF 0 (fun j => pf m j 3) P) (fun n => sumF 0 (fun j => pf (itM P (upd m 2 (wdv n)) (ix a1)) j 3) P) b i → ∀ (H : Heap) (locs : List Loc) (ls : Array Slot), va_P (eD E) vwCl [(h, .inr (4, fs)), (qm, .inl (eI E, 75, .inl m)), (qw, .inl (eI E, 75, .inl m)), (qf, .inl (eI E, 7, .inl fd))] H → va_D A [(h, .inr (4, fs)), (qm, .inl (eI E, 75, .inl m)), (qw, .inl (eI E, 75, .inl m)), (qf, .inl (eI E, 7, .inl fd))] → va_S A sG.heap H locs → lv_has ls 5 [(4, .int (wdv i)), (3, .int b), (2, .int (sumF 0 (fun j => pf m j 3) P)), (0, .ref h), (1, .int (nI (ix a1)))] → W pG l eG { frames := 8, cells := 0, slots := 0, locals := 169 } sG mG [.ref h, .int a1].toArray below meth cG H locs 0 0 (MQ below (va_Qi (fun (r : Int32) (u : ((Nat → Int32)) × ((Nat → Int32))) => (r, u.1) = mn_wide P m fd a1) (gR E (fun u : ((Nat → Int32)) × ((Nat → Int32)) => [(h, .inr (4, fs)), (qm, .inl (eI E, 75, .inl m)), (qw, .inl (eI E, 75, .inl u.2)), (qf, .inl (eI E, 7, .inl u.1))]) A) A) [.ref h, .int a1].toArray sG 0 0 A) (F0 mG 34 ls []) := by
      intro fu
      induction fu with
      | zero => intro i h1 h2; exact absurd h2 (by omega)
      | succ fu ih =>
        intro i hi hin b hb H locs ls hP hD hS hl
        refine lv_iload F.1 F.2.1 dX4_wide_34 (lv_at hl 0 rfl) ?_
        refine lv_if_lt (tgt := 82) F.1 F.2.1 dX4_wide_36 (by decide) (fun k2 => ?_) (fun k2 => ?_)
        · have hiN : 11 = i := Nat.le_antisymm ((wdv_lt hi).mp k2) hi
          subst hiN
          refine lv_aload_n F.1 F.2.1 dX4_wide_82 rfl (lv_at hl 3 rfl) ?_
          refine lv_iload_n F.1 F.2.1 dX4_wide_83 rfl (lv_at hl 1 rfl) ?_
          refine g_goI (wr := [(qm, .inl (eI E, 75, .inl m)), (qw, .inl (eI E, 75, .inl m))]) (g_runV (As := [.int b]) (rest := []) F hX hP hD hS hA (c_X4_orNone l E h fs qf fd b (by first | assumption | rfl) H.size) (cwV 1 F.2.2.2.2 gX4_wide_X4_orNone rfl rfl rfl (by decide +kernel) ⟨Nat.le_of_ble_eq_true rfl, Nat.le_of_ble_eq_true rfl⟩) [0, 3] rfl rfl (q0 := 0) (ci := 4) rfl rfl rfl hl.1 rfl (Nat.le_of_ble_eq_true rfl) dX4_wide_84 ⟨Nat.le_refl _, Nat.le_refl _⟩) hP hD hS hA [0, 3] [1, 2] rfl rfl rfl (by decide) (fun r _ H locs hq hP hD hS => ?_)
          have hP : va_P (eD E) vwCl [(h, .inr (4, fs)), (qm, .inl (eI E, 75, .inl m)), (qw, .inl (eI E, 75, .inl m)), (qf, .inl (eI E, 7, .inl (if 0 ≤ b then fd else upd fd 3 (fd 3 + 1))))] H := hP.sub [2, 0, 1, 3] rfl
          have hD : va_D A [(h, .inr (4, fs)), (qm, .inl (eI E, 75, .inl m)), (qw, .inl (eI E, 75, .inl m)), (qf, .inl (eI E, 7, .inl (if 0 ≤ b then fd else upd fd 3 (fd 3 + 1))))] := hD.sub [2, 0, 1, 3] (by decide) rfl
          subst hq
          exact g_reti F hr hlk (vp_nar_int _) hS hP hD (((if 0 ≤ b then fd else upd fd 3 (fd 3 + 1)), m)) (rfl) (by unfold mn_wide; rw [if_pos k1]; first | exact wdB_end hb (Or.inl rfl) | exact wdB_end hb (Or.inr hb)) dX4_wide_87
        · have hiN : i < 11 := Nat.lt_of_not_le (fun h => k2 ((wdv_lt hi).mpr h))
          refine lv_iload_n F.1 F.2.1 dX4_wide_39 rfl (lv_at hl 1 rfl) ?_
          refine lv_if_ge (tgt := 82) F.1 F.2.1 dX4_wide_40 (by decide) (fun k3 => ?_) (fun k3 => ?_)
          · refine lv_aload_n F.1 F.2.1 dX4_wide_82 rfl (lv_at hl 3 rfl) ?_
            refine lv_iload_n F.1 F.2.1 dX4_wide_83 rfl (lv_at hl 1 rfl) ?_
            refine g_goI (wr := [(qm, .inl (eI E, 75, .inl m)), (qw, .inl (eI E, 75, .inl m))]) (g_runV (As := [.int b]) (rest := []) F hX hP hD hS hA (c_X4_orNone l E h fs qf fd b (by first | assumption | rfl) H.size) (cwV 1 F.2.2.2.2 gX4_wide_X4_orNone rfl rfl rfl (by decide +kernel) ⟨Nat.le_of_ble_eq_true rfl, Nat.le_of_ble_eq_true rfl⟩) [0, 3] rfl rfl (q0 := 0) (ci := 4) rfl rfl rfl hl.1 rfl (Nat.le_of_ble_eq_true rfl) dX4_wide_84 ⟨Nat.le_refl _, Nat.le_refl _⟩) hP hD hS hA [0, 3] [1, 2] rfl rfl rfl (by decide) (fun r _ H locs hq hP hD hS => ?_)
            have hP : va_P (eD E) vwCl [(h, .inr (4, fs)), (qm, .inl (eI E, 75, .inl m)), (qw, .inl (eI E, 75, .inl m)), (qf, .inl (eI E, 7, .inl (if 0 ≤ b then fd else upd fd 3 (fd 3 + 1))))] H := hP.sub [2, 0, 1, 3] rfl
            have hD : va_D A [(h, .inr (4, fs)), (qm, .inl (eI E, 75, .inl m)), (qw, .inl (eI E, 75, .inl m)), (qf, .inl (eI E, 7, .inl (if 0 ≤ b then fd else upd fd 3 (fd 3 + 1))))] := hD.sub [2, 0, 1, 3] (by decide) rfl
            subst hq
            exact g_reti F hr hlk (vp_nar_int _) hS hP hD (((if 0 ≤ b then fd else upd fd 3 (fd 3 + 1)), m)) (rfl) (by unfold mn_wide; rw [if_pos k1]; first | exact wdB_end hb (Or.inl rfl) | exact wdB_end hb (Or.inr k3)) dX4_wide_87
          · refine lv_aload_n F.1 F.2.1 dX4_wide_43 rfl (lv_at hl 3 rfl) ?_
            refine g_get F hX hP hin4 0 rfl rfl 0 (by decide) (mm 2 rfl) hf0 dX4_wide_44 ?_
            refine lv_iconst (v := 2) F.1 F.2.1 dX4_wide_47 (by decide) ?_
            refine lv_iload F.1 F.2.1 dX4_wide_48 (lv_at hl 0 rfl) ?_
            refine g_iast F hX hP hD hS 1 rfl (j := 2) (rfl) (by decide) (by decide) dX4_wide_50 (fun H locs hP hD hS => ?_)
            have hP : va_P (eD E) vwCl [(h, .inr (4, fs)), (qm, .inl (eI E, 75, .inl (upd m 2 (wdv i)))), (qw, .inl (eI E, 75, .inl m)), (qf, .inl (eI E, 7, .inl fd))] H := hP
            have hD : va_D A [(h, .inr (4, fs)), (qm, .inl (eI E, 75, .inl (upd m 2 (wdv i)))), (qw, .inl (eI E, 75, .inl m)), (qf, .inl (eI E, 7, .inl fd))] := hD
            refine lv_aload_n F.1 F.2.1 dX4_wide_51 rfl (lv_at hl 3 rfl) ?_
            refine lv_iload_n F.1 F.2.1 dX4_wide_52 rfl (lv_at hl 4 rfl) ?_
            refine g_goV (wr := [(qw, .inl (eI E, 75, .inl m)), (qf, .inl (eI E, 7, .inl fd))]) (g_runV (As := [.int (nI (ix a1))]) (rest := []) F hX hP hD hS hA (c_X4_goesFor l E h fs qm (upd m 2 (wdv i)) P (ix a1) (by first | assumption | rfl) ((if_neg (by decide)).trans hm4) (by first | assumption | omega) (by first | assumption | omega) H.size) (cwV 1 F.2.2.2.2 gX4_wide_X4_goesFor rfl rfl rfl (by decide +kernel) ⟨Nat.le_of_ble_eq_true rfl, Nat.le_of_ble_eq_true rfl⟩) [0, 1] rfl rfl (q0 := 0) (ci := 4) rfl rfl rfl hl.1 rfl (Nat.le_of_ble_eq_true rfl) dX4_wide_53 ⟨Nat.le_refl _, Nat.le_refl _⟩) hP hD hS hA [0, 1] [2, 3] rfl rfl rfl (by decide) (fun _ H locs hq hP hD hS => ?_)
            have hP : va_P (eD E) vwCl [(h, .inr (4, fs)), (qm, .inl (eI E, 75, .inl (itM P (upd m 2 (wdv i)) (ix a1)))), (qw, .inl (eI E, 75, .inl m)), (qf, .inl (eI E, 7, .inl fd))] H := hP.sub [2, 3, 0, 1] rfl
            have hD : va_D A [(h, .inr (4, fs)), (qm, .inl (eI E, 75, .inl (itM P (upd m 2 (wdv i)) (ix a1)))), (qw, .inl (eI E, 75, .inl m)), (qf, .inl (eI E, 7, .inl fd))] := hD.sub [2, 3, 0, 1] (by decide) rfl
            refine lv_aload_n F.1 F.2.1 dX4_wide_56 rfl (lv_at hl 3 rfl) ?_
            refine lv_iconst (v := 3) F.1 F.2.1 dX4_wide_57 (by decide) ?_
            refine g_goIr (g_runV (As := [.int 3]) (rest := []) F hX hP hD hS hA (c_X4_sums l E h fs qm (itM P (upd m 2 (wdv i)) (ix a1)) P 3 (by first | assumption | rfl) ((itM_lo P _ (by decide) (by decide) _).trans ((if_neg (by decide)).trans hm4)) (by first | assumption | omega) (by decide) H.size) (cwV 1 F.2.2.2.2 gX4_wide_X4_sums rfl rfl rfl (by decide +kernel) ⟨Nat.le_of_ble_eq_true rfl, Nat.le_of_ble_eq_true rfl⟩) [0, 1] rfl rfl (q0 := 0) (ci := 4) rfl rfl rfl hl.1 rfl (Nat.le_of_ble_eq_true rfl) dX4_wide_58 ⟨Nat.le_refl _, Nat.le_refl _⟩) hP hD hS hA [0, 1] rfl (fun r _ H locs hq hP hS => ?_)
            subst hq
            refine lv_iload_n F.1 F.2.1 dX4_wide_61 rfl (lv_at hl 2 rfl) ?_
            have jn71 : ∀ (H : Heap) (locs : List Loc) (ls : Array Slot), va_P (eD E) vwCl [(h, .inr (4, fs)), (qm, .inl (eI E, 75, .inl (itM P (upd m 2 (wdv i)) (ix a1)))), (qw, .inl (eI E, 75, .inl m)), (qf, .inl (eI E, 7, .inl fd))] H → va_D A [(h, .inr (4, fs)), (qm, .inl (eI E, 75, .inl (itM P (upd m 2 (wdv i)) (ix a1)))), (qw, .inl (eI E, 75, .inl m)), (qf, .inl (eI E, 7, .inl fd))] → va_S A sG.heap H locs → lv_has ls 5 [(4, .int (wdv i)), (3, .int b), (2, .int (sumF 0 (fun j => pf m j 3) P)), (0, .ref h), (1, .int (nI (ix a1)))] → W pG l eG { frames := 8, cells := 0, slots := 0, locals := 169 } sG mG [.ref h, .int a1].toArray below meth cG H locs 0 0 (MQ below (va_Qi (fun (r : Int32) (u : ((Nat → Int32)) × ((Nat → Int32))) => (r, u.1) = mn_wide P m fd a1) (gR E (fun u : ((Nat → Int32)) × ((Nat → Int32)) => [(h, .inr (4, fs)), (qm, .inl (eI E, 75, .inl m)), (qw, .inl (eI E, 75, .inl u.2)), (qf, .inl (eI E, 7, .inl u.1))]) A) A) [.ref h, .int a1].toArray sG 0 0 A) (F0 mG 71 ls [.int (if sumF 0 (fun j => pf m j 3) P < sumF 0 (fun j => pf (itM P (upd m 2 (wdv i)) (ix a1)) j 3) P then -1 else wdv i)]) := by
              intro H locs ls hP hD hS hl
              refine lv_istore_n (lv' := [(3, .int (if sumF 0 (fun j => pf m j 3) P < sumF 0 (fun j => pf (itM P (upd m 2 (wdv i)) (ix a1)) j 3) P then -1 else wdv i)), (4, .int (wdv i)), (2, .int (sumF 0 (fun j => pf m j 3) P)), (0, .ref h), (1, .int (nI (ix a1)))]) F.1 F.2.1 dX4_wide_71 rfl hl (by decide) rfl (fun ls hl => ?_)
              refine lv_aload_n F.1 F.2.1 dX4_wide_72 rfl (lv_at hl 3 rfl) ?_
              refine g_goV (wr := [(qf, .inl (eI E, 7, .inl fd))]) (g_runV (As := []) (rest := []) F hX hP hD hS hA (c_X4_putsBack l E h fs qm qw (itM P (upd m 2 (wdv i)) (ix a1)) m (by first | assumption | rfl) (by first | assumption | rfl) H.size) (cwV 0 F.2.2.2.2 gX4_wide_X4_putsBack rfl rfl rfl (by decide +kernel) ⟨Nat.le_of_ble_eq_true rfl, Nat.le_of_ble_eq_true rfl⟩) [0, 1, 2] rfl rfl (q0 := 0) (ci := 4) rfl rfl rfl hl.1 rfl (Nat.le_of_ble_eq_true rfl) dX4_wide_73 ⟨Nat.le_refl _, Nat.le_refl _⟩) hP hD hS hA [0, 1, 2] [3] rfl rfl rfl (by decide) (fun _ H locs hq hP hD hS => ?_)
              have hP : va_P (eD E) vwCl [(h, .inr (4, fs)), (qm, .inl (eI E, 75, .inl m)), (qw, .inl (eI E, 75, .inl m)), (qf, .inl (eI E, 7, .inl fd))] H := hP.sub [1, 2, 3, 0] rfl
              have hD : va_D A [(h, .inr (4, fs)), (qm, .inl (eI E, 75, .inl m)), (qw, .inl (eI E, 75, .inl m)), (qf, .inl (eI E, 7, .inl fd))] := hD.sub [1, 2, 3, 0] (by decide) rfl
              refine lv_iinc (v := wdv (i + 1)) (lv' := [(4, .int (wdv (i + 1))), (3, .int (if sumF 0 (fun j => pf m j 3) P < sumF 0 (fun j => pf (itM P (upd m 2 (wdv i)) (ix a1)) j 3) P then -1 else wdv i)), (2, .int (sumF 0 (fun j => pf m j 3) P)), (0, .ref h), (1, .int (nI (ix a1)))]) F.1 F.2.1 dX4_wide_76 hl (k := 1) rfl (wdv_s i) (by decide) rfl (fun ls hl => ?_)
              refine lv_goto (tgt := 34) F.1 F.2.1 dX4_wide_79 (by decide) ?_
              exact ih (i + 1) (by omega) (by omega)  (if sumF 0 (fun j => pf m j 3) P < sumF 0 (fun j => pf (itM P (upd m 2 (wdv i)) (ix a1)) j 3) P then -1 else wdv i) (wdB_step hb k3 hiN) _ _ _ hP hD hS (lv_sub hl [0, 1, 2, 3, 4] rfl)
            refine lv_icmp_gt (tgt := 70) F.1 F.2.1 dX4_wide_62 (by decide) (fun k4 => ?_) (fun k4 => ?_)
            · refine lv_iconst (v := (-1)) F.1 F.2.1 dX4_wide_70 (by decide) ?_
              refine g_top (if sumF 0 (fun j => pf m j 3) P < sumF 0 (fun j => pf (itM P (upd m 2 (wdv i)) (ix a1)) j 3) P then -1 else wdv i) (by first | exact (if_pos k4).symm | exact (if_neg k4).symm) ?_
              exact jn71 _ _ _ hP hD hS (lv_sub hl [0, 1, 2, 3, 4] rfl)
            · refine lv_iload F.1 F.2.1 dX4_wide_65 (lv_at hl 0 rfl) ?_
              refine lv_goto (tgt := 71) F.1 F.2.1 dX4_wide_67 (by decide) ?_
              refine g_top (if sumF 0 (fun j => pf m j 3) P < sumF 0 (fun j => pf (itM P (upd m 2 (wdv i)) (ix a1)) j 3) P then -1 else wdv i) (by first | exact (if_pos k4).symm | exact (if_neg k4).symm) ?_
              exact jn71 _ _ _ hP hD hS (lv_sub hl [0, 1, 2, 3, 4] rfl)
    exact lp34 (11 + 1) 0 (by omega) (by omega)  (-1) (Or.inl ⟨rfl, rfl⟩) _ _ _ hP hD hS (lv_sub hl [0, 1, 2, 3, 4] rfl)
  · refine lv_aload_n F.1 F.2.1 dX4_wide_11 rfl (lv_at hl 0 rfl) ?_
    refine lv_ldc (v := (-1000000001)) F.1 F.2.1 F.2.2.2.1 (F.2.2.2.2 _ (mm 1 rfl)) dX4_wide_12 ?_
    refine g_goI (wr := [(qm, .inl (eI E, 75, .inl m)), (qw, .inl (eI E, 75, .inl w))]) (g_runV (As := [.int (-1000000001)]) (rest := []) F hX hP hD hS hA (c_X4_finds l E h fs qf fd (-1000000001) 0 (by first | assumption | rfl) (by decide +kernel) (by decide) H.size) (cwV 1 F.2.2.2.2 gX4_wide_X4_finds rfl rfl rfl (by decide +kernel) ⟨Nat.le_of_ble_eq_true rfl, Nat.le_of_ble_eq_true rfl⟩) [0, 3] rfl rfl (q0 := 0) (ci := 4) rfl rfl rfl hl.1 rfl (Nat.le_of_ble_eq_true rfl) dX4_wide_14 ⟨Nat.le_refl _, Nat.le_refl _⟩) hP hD hS hA [0, 3] [1, 2] rfl rfl rfl (by decide) (fun r _ H locs hq hP hD hS => ?_)
    have hP : va_P (eD E) vwCl [(h, .inr (4, fs)), (qm, .inl (eI E, 75, .inl m)), (qw, .inl (eI E, 75, .inl w)), (qf, .inl (eI E, 7, .inl (upd fd 0 (fd 0 + 1))))] H := hP.sub [2, 0, 1, 3] rfl
    have hD : va_D A [(h, .inr (4, fs)), (qm, .inl (eI E, 75, .inl m)), (qw, .inl (eI E, 75, .inl w)), (qf, .inl (eI E, 7, .inl (upd fd 0 (fd 0 + 1))))] := hD.sub [2, 0, 1, 3] (by decide) rfl
    subst hq
    exact g_reti F hr hlk (vp_nar_int _) hS hP hD ((upd fd 0 (fd 0 + 1), w)) (rfl) (by unfold mn_wide; (try simp only [k1, and_self, true_and, and_true, if_true, Bool.false_eq_true, false_and, and_false, if_false]); all_goals simp [fn, k1]) dX4_wide_17
