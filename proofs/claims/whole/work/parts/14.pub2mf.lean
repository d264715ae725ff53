def mn_out (P : Nat) (m fd : Nat → Int32) : Int32 × (Nat → Int32) := (match fs1 (fun n => !huM (itM P m n 0) (itM P m n 1) (itM P m n 2) (itM P m n 3)) 401 0 with | some n => (nI n, fd) | none => (-1000000004, fn fd 3))
set_option maxHeartbeats 4000000 in
set_option maxRecDepth 100000 in
theorem c_X4_out (l : Launch) (E : gE) (h : Nat) (fs : List Value) (qm : Nat) (qw : Nat) (qf : Nat) (m : Nat → Int32) (w : Nat → Int32) (fd : Nat → Int32) (P : Nat) (hf0 : fs[0]? = some (.ref qm)) (hf2 : fs[2]? = some (.ref qw)) (hf4 : fs[4]? = some (.ref qf)) (hm4 : m 4 = nI P) (hP8 : P ≤ 8) : gI l yX4_out wsX4_out ({ frames := 7, cells := 0, slots := 0, locals := 147 }) E [(h, .inr (4, fs)), (qm, .inl (eI E, 75, .inl m)), (qw, .inl (eI E, 75, .inl w)), (qf, .inl (eI E, 7, .inl fd))] (fun u : ((Nat → Int32)) × ((Nat → Int32)) => [(h, .inr (4, fs)), (qm, .inl (eI E, 75, .inl m)), (qw, .inl (eI E, 75, .inl u.2)), (qf, .inl (eI E, 7, .inl u.1))]) [.ref h] (fun (r : Int32) (u : ((Nat → Int32)) × ((Nat → Int32))) => (r, u.1) = mn_out P m fd) := by
  refine gI.of (cc := cX4_out) (maxL := 2) (by decide) rfl (Nat.le_of_ble_eq_true rfl) ?_
  intro pG eG sG mG below meth cG A ls H locs F hr hlk hX hP hD hA hS hl
  have hl : lv_has ls 2 [(0, .ref h)] := hl
  refine lv_aload_n F.1 F.2.1 dX4_out_0 rfl (lv_at hl 0 rfl) ?_
  refine g_goV (wr := [(qf, .inl (eI E, 7, .inl fd))]) (g_runV (As := []) (rest := []) F hX hP hD hS hA (c_X4_thinks l E h fs qm qw m w (by first | assumption | rfl) (by first | assumption | rfl) H.size) (cwV 0 F.2.2.2.2 gX4_out_X4_thinks rfl rfl rfl (by decide +kernel) ⟨Nat.le_of_ble_eq_true rfl, Nat.le_of_ble_eq_true rfl⟩) [0, 1, 2] rfl rfl (q0 := 0) (ci := 4) rfl rfl rfl hl.1 rfl (Nat.le_of_ble_eq_true rfl) dX4_out_1 ⟨Nat.le_refl _, Nat.le_refl _⟩) hP hD hS hA [0, 1, 2] [3] rfl rfl rfl (by decide) (fun _ H locs hq hP hD hS => ?_)
  have hP : va_P (eD E) vwCl [(h, .inr (4, fs)), (qm, .inl (eI E, 75, .inl m)), (qw, .inl (eI E, 75, .inl m)), (qf, .inl (eI E, 7, .inl fd))] H := hP.sub [1, 2, 3, 0] rfl
  have hD : va_D A [(h, .inr (4, fs)), (qm, .inl (eI E, 75, .inl m)), (qw, .inl (eI E, 75, .inl m)), (qf, .inl (eI E, 7, .inl fd))] := hD.sub [1, 2, 3, 0] (by decide) rfl
  refine lv_iconst (v := 0) F.1 F.2.1 dX4_out_4 (by decide) ?_
  refine lv_istore_n (lv' := [(1, .int 0), (0, .ref h)]) F.1 F.2.1 dX4_out_5 rfl hl (by decide) rfl (fun ls hl => ?_)
  have lp6 : ∀ (fu i : Nat), i ≤ 401 → 401 + 1 ≤ i + fu → fs1 (fun n => !huM (itM P m n 0) (itM P m n 1) (itM P m n 2) (itM P m n 3)) 401 0 = fs1 (fun n => !huM (itM P m n 0) (itM P m n 1) (itM P m n 2) (itM P m n 3)) (401 - i) i → ∀ (H : Heap) (locs : List Loc) (ls : Array Slot), va_P (eD E) vwCl [(h, .inr (4, fs)), (qm, .inl (eI E, 75, .inl (itM P m i))), (qw, .inl (eI E, 75, .inl m)), (qf, .inl (eI E, 7, .inl fd))] H → va_D A [(h, .inr (4, fs)), (qm, .inl (eI E, 75, .inl (itM P m i))), (qw, .inl (eI E, 75, .inl m)), (qf, .inl (eI E, 7, .inl fd))] → va_S A sG.heap H locs → lv_has ls 2 [(1, .int (nI i)), (0, .ref h)] → W pG l eG { frames := 7, cells := 0, slots := 0, locals := 147 } sG mG [.ref h].toArray below meth cG H locs 0 0 (MQ below (va_Qi (fun (r : Int32) (u : ((Nat → Int32)) × ((Nat → Int32))) => (r, u.1) = mn_out P m fd) (gR E (fun u : ((Nat → Int32)) × ((Nat → Int32)) => [(h, .inr (4, fs)), (qm, .inl (eI E, 75, .inl m)), (qw, .inl (eI E, 75, .inl u.2)), (qf, .inl (eI E, 7, .inl u.1))]) A) A) [.ref h].toArray sG 0 0 A) (F0 mG 6 ls []) := by
    intro fu
    induction fu with
    | zero => intro i h1 h2; exact absurd h2 (by omega)
    | succ fu ih =>
      intro i hi hin  hsr H locs ls hP hD hS hl
      refine lv_iload_n F.1 F.2.1 dX4_out_6 rfl (lv_at hl 0 rfl) ?_
      refine lv_sipush (v := 400) F.1 F.2.1 dX4_out_7 (by decide) ?_
      refine lv_icmp_gt (tgt := 30) F.1 F.2.1 dX4_out_10 (by decide) (fun k1 => ?_) (fun k1 => ?_)
      · have hiN : 401 = i := Nat.le_antisymm ((nI_ltI (by omega) (by omega)).mp k1) hi
        subst hiN
        refine lv_aload_n F.1 F.2.1 dX4_out_30 rfl (lv_at hl 1 rfl) ?_
        refine g_goV (wr := [(qf, .inl (eI E, 7, .inl fd))]) (g_runV (As := []) (rest := []) F hX hP hD hS hA (c_X4_putsBack l E h fs qm qw (itM P m 401) m (by first | assumption | rfl) (by first | assumption | rfl) H.size) (cwV 0 F.2.2.2.2 gX4_out_X4_putsBack rfl rfl rfl (by decide +kernel) ⟨Nat.le_of_ble_eq_true rfl, Nat.le_of_ble_eq_true rfl⟩) [0, 1, 2] rfl rfl (q0 := 0) (ci := 4) rfl rfl rfl hl.1 rfl (Nat.le_of_ble_eq_true rfl) dX4_out_31 ⟨Nat.le_refl _, Nat.le_refl _⟩) hP hD hS hA [0, 1, 2] [3] rfl rfl rfl (by decide) (fun _ H locs hq hP hD hS => ?_)
        have hP : va_P (eD E) vwCl [(h, .inr (4, fs)), (qm, .inl (eI E, 75, .inl m)), (qw, .inl (eI E, 75, .inl m)), (qf, .inl (eI E, 7, .inl fd))] H := hP.sub [1, 2, 3, 0] rfl
        have hD : va_D A [(h, .inr (4, fs)), (qm, .inl (eI E, 75, .inl m)), (qw, .inl (eI E, 75, .inl m)), (qf, .inl (eI E, 7, .inl fd))] := hD.sub [1, 2, 3, 0] (by decide) rfl
        refine lv_iload_n F.1 F.2.1 dX4_out_34 rfl (lv_at hl 0 rfl) ?_
        refine lv_sipush (v := 400) F.1 F.2.1 dX4_out_35 (by decide) ?_
        refine lv_icmp_le (tgt := 50) F.1 F.2.1 dX4_out_38 (by decide) (fun k2 => ?_) (fun k2 => ?_)
        · refine lv_iload_n F.1 F.2.1 dX4_out_50 rfl (lv_at hl 0 rfl) ?_
          exact g_reti F hr hlk (vp_nar_int _) hS hP hD ((fd, m)) (rfl) (by first | (unfold mn_out fn; rw [hsr, fs1_end]; done) | (unfold mn_out fn; rw [hsr, fs1_yes (p := fun n => !huM (itM P m n 0) (itM P m n 1) (itM P m n 2) (itM P m n 3)) (by show (!_) = true; rw [hsr]; rfl) (by omega)]; done) | exact absurd k2 (by decide) | exact absurd (nI_le (show i ≤ 400 by omega) (by decide)) k2) dX4_out_51
        · refine lv_aload_n F.1 F.2.1 dX4_out_41 rfl (lv_at hl 1 rfl) ?_
          refine lv_ldc (v := (-1000000004)) F.1 F.2.1 F.2.2.2.1 (F.2.2.2.2 _ (mm 1 rfl)) dX4_out_42 ?_
          refine g_goI (wr := [(qm, .inl (eI E, 75, .inl m)), (qw, .inl (eI E, 75, .inl m))]) (g_runV (As := [.int (-1000000004)]) (rest := []) F hX hP hD hS hA (c_X4_finds l E h fs qf fd (-1000000004) 3 (by first | assumption | rfl) (by decide +kernel) (by decide) H.size) (cwV 1 F.2.2.2.2 gX4_out_X4_finds rfl rfl rfl (by decide +kernel) ⟨Nat.le_of_ble_eq_true rfl, Nat.le_of_ble_eq_true rfl⟩) [0, 3] rfl rfl (q0 := 0) (ci := 4) rfl rfl rfl hl.1 rfl (Nat.le_of_ble_eq_true rfl) dX4_out_44 ⟨Nat.le_refl _, Nat.le_refl _⟩) hP hD hS hA [0, 3] [1, 2] rfl rfl rfl (by decide) (fun r _ H locs hq hP hD hS => ?_)
          have hP : va_P (eD E) vwCl [(h, .inr (4, fs)), (qm, .inl (eI E, 75, .inl m)), (qw, .inl (eI E, 75, .inl m)), (qf, .inl (eI E, 7, .inl (upd fd 3 (fd 3 + 1))))] H := hP.sub [2, 0, 1, 3] rfl
          have hD : va_D A [(h, .inr (4, fs)), (qm, .inl (eI E, 75, .inl m)), (qw, .inl (eI E, 75, .inl m)), (qf, .inl (eI E, 7, .inl (upd fd 3 (fd 3 + 1))))] := hD.sub [2, 0, 1, 3] (by decide) rfl
          subst hq
          refine lv_goto (tgt := 51) F.1 F.2.1 dX4_out_47 (by decide) ?_
          exact g_reti F hr hlk (vp_nar_int _) hS hP hD ((upd fd 3 (fd 3 + 1), m)) (rfl) (by first | (unfold mn_out fn; rw [hsr, fs1_end]; done) | (unfold mn_out fn; rw [hsr, fs1_yes (p := fun n => !huM (itM P m n 0) (itM P m n 1) (itM P m n 2) (itM P m n 3)) (by show (!_) = true; rw [hsr]; rfl) (by omega)]; done) | exact absurd k2 (by decide) | exact absurd (nI_le (show i ≤ 400 by omega) (by decide)) k2) dX4_out_51
      · have hiN : i < 401 := Nat.lt_of_not_le (fun h => k1 (nI_lt h (by omega)))
        refine lv_aload_n F.1 F.2.1 dX4_out_13 rfl (lv_at hl 1 rfl) ?_
        refine g_goIr (g_runV (As := []) (rest := []) F hX hP hD hS hA (c_X4_isHush l E h fs qm (itM P m i) (by first | assumption | rfl) H.size) (cwV 0 F.2.2.2.2 gX4_out_X4_isHush rfl rfl rfl (by decide +kernel) ⟨Nat.le_of_ble_eq_true rfl, Nat.le_of_ble_eq_true rfl⟩) [0, 1] rfl rfl (q0 := 0) (ci := 4) rfl rfl rfl hl.1 rfl (Nat.le_of_ble_eq_true rfl) dX4_out_14 ⟨Nat.le_refl _, Nat.le_refl _⟩) hP hD hS hA [0, 1] rfl (fun r _ H locs hq hP hS => ?_)
        subst hq
        refine g_beq (tgt := 30) F dX4_out_17 (by decide) (fun k3 => ?_) (fun k3 => ?_)
        · refine lv_aload_n F.1 F.2.1 dX4_out_30 rfl (lv_at hl 1 rfl) ?_
          refine g_goV (wr := [(qf, .inl (eI E, 7, .inl fd))]) (g_runV (As := []) (rest := []) F hX hP hD hS hA (c_X4_putsBack l E h fs qm qw (itM P m i) m (by first | assumption | rfl) (by first | assumption | rfl) H.size) (cwV 0 F.2.2.2.2 gX4_out_X4_putsBack rfl rfl rfl (by decide +kernel) ⟨Nat.le_of_ble_eq_true rfl, Nat.le_of_ble_eq_true rfl⟩) [0, 1, 2] rfl rfl (q0 := 0) (ci := 4) rfl rfl rfl hl.1 rfl (Nat.le_of_ble_eq_true rfl) dX4_out_31 ⟨Nat.le_refl _, Nat.le_refl _⟩) hP hD hS hA [0, 1, 2] [3] rfl rfl rfl (by decide) (fun _ H locs hq hP hD hS => ?_)
          have hP : va_P (eD E) vwCl [(h, .inr (4, fs)), (qm, .inl (eI E, 75, .inl m)), (qw, .inl (eI E, 75, .inl m)), (qf, .inl (eI E, 7, .inl fd))] H := hP.sub [1, 2, 3, 0] rfl
          have hD : va_D A [(h, .inr (4, fs)), (qm, .inl (eI E, 75, .inl m)), (qw, .inl (eI E, 75, .inl m)), (qf, .inl (eI E, 7, .inl fd))] := hD.sub [1, 2, 3, 0] (by decide) rfl
          refine lv_iload_n F.1 F.2.1 dX4_out_34 rfl (lv_at hl 0 rfl) ?_
          refine lv_sipush (v := 400) F.1 F.2.1 dX4_out_35 (by decide) ?_
          refine lv_icmp_le (tgt := 50) F.1 F.2.1 dX4_out_38 (by decide) (fun k4 => ?_) (fun k4 => ?_)
          · refine lv_iload_n F.1 F.2.1 dX4_out_50 rfl (lv_at hl 0 rfl) ?_
            exact g_reti F hr hlk (vp_nar_int _) hS hP hD ((fd, m)) (rfl) (by first | (unfold mn_out fn; rw [hsr, fs1_end]; done) | (unfold mn_out fn; rw [hsr, fs1_yes (p := fun n => !huM (itM P m n 0) (itM P m n 1) (itM P m n 2) (itM P m n 3)) (by show (!_) = true; rw [k3]; rfl) (by omega)]; done) | exact absurd k4 (by decide) | exact absurd (nI_le (show i ≤ 400 by omega) (by decide)) k4) dX4_out_51
          · refine lv_aload_n F.1 F.2.1 dX4_out_41 rfl (lv_at hl 1 rfl) ?_
            refine lv_ldc (v := (-1000000004)) F.1 F.2.1 F.2.2.2.1 (F.2.2.2.2 _ (mm 1 rfl)) dX4_out_42 ?_
            refine g_goI (wr := [(qm, .inl (eI E, 75, .inl m)), (qw, .inl (eI E, 75, .inl m))]) (g_runV (As := [.int (-1000000004)]) (rest := []) F hX hP hD hS hA (c_X4_finds l E h fs qf fd (-1000000004) 3 (by first | assumption | rfl) (by decide +kernel) (by decide) H.size) (cwV 1 F.2.2.2.2 gX4_out_X4_finds rfl rfl rfl (by decide +kernel) ⟨Nat.le_of_ble_eq_true rfl, Nat.le_of_ble_eq_true rfl⟩) [0, 3] rfl rfl (q0 := 0) (ci := 4) rfl rfl rfl hl.1 rfl (Nat.le_of_ble_eq_true rfl) dX4_out_44 ⟨Nat.le_refl _, Nat.le_refl _⟩) hP hD hS hA [0, 3] [1, 2] rfl rfl rfl (by decide) (fun r _ H locs hq hP hD hS => ?_)
            have hP : va_P (eD E) vwCl [(h, .inr (4, fs)), (qm, .inl (eI E, 75, .inl m)), (qw, .inl (eI E, 75, .inl m)), (qf, .inl (eI E, 7, .inl (upd fd 3 (fd 3 + 1))))] H := hP.sub [2, 0, 1, 3] rfl
            have hD : va_D A [(h, .inr (4, fs)), (qm, .inl (eI E, 75, .inl m)), (qw, .inl (eI E, 75, .inl m)), (qf, .inl (eI E, 7, .inl (upd fd 3 (fd 3 + 1))))] := hD.sub [2, 0, 1, 3] (by decide) rfl
            subst hq
            refine lv_goto (tgt := 51) F.1 F.2.1 dX4_out_47 (by decide) ?_
            exact g_reti F hr hlk (vp_nar_int _) hS hP hD ((upd fd 3 (fd 3 + 1), m)) (rfl) (by first | (unfold mn_out fn; rw [hsr, fs1_end]; done) | (unfold mn_out fn; rw [hsr, fs1_yes (p := fun n => !huM (itM P m n 0) (itM P m n 1) (itM P m n 2) (itM P m n 3)) (by show (!_) = true; rw [k3]; rfl) (by omega)]; done) | exact absurd k4 (by decide) | exact absurd (nI_le (show i ≤ 400 by omega) (by decide)) k4) dX4_out_51
        · refine lv_aload_n F.1 F.2.1 dX4_out_20 rfl (lv_at hl 1 rfl) ?_
          refine g_goV (wr := [(qw, .inl (eI E, 75, .inl m)), (qf, .inl (eI E, 7, .inl fd))]) (g_runV (As := []) (rest := []) F hX hP hD hS hA (c_X4_goes l E h fs qm (itM P m i) P (by first | assumption | rfl) ((itM_lo P m (by decide) (by decide) i).trans hm4) (by first | assumption | omega) H.size) (cwV 0 F.2.2.2.2 gX4_out_X4_goes rfl rfl rfl (by decide +kernel) ⟨Nat.le_of_ble_eq_true rfl, Nat.le_of_ble_eq_true rfl⟩) [0, 1] rfl rfl (q0 := 0) (ci := 4) rfl rfl rfl hl.1 rfl (Nat.le_of_ble_eq_true rfl) dX4_out_21 ⟨Nat.le_refl _, Nat.le_refl _⟩) hP hD hS hA [0, 1] [2, 3] rfl rfl rfl (by decide) (fun _ H locs hq hP hD hS => ?_)
          have hP : va_P (eD E) vwCl [(h, .inr (4, fs)), (qm, .inl (eI E, 75, .inl (goM P (itM P m i)))), (qw, .inl (eI E, 75, .inl m)), (qf, .inl (eI E, 7, .inl fd))] H := hP.sub [2, 3, 0, 1] rfl
          have hD : va_D A [(h, .inr (4, fs)), (qm, .inl (eI E, 75, .inl (goM P (itM P m i)))), (qw, .inl (eI E, 75, .inl m)), (qf, .inl (eI E, 7, .inl fd))] := hD.sub [2, 3, 0, 1] (by decide) rfl
          refine lv_iinc (v := nI (i + 1)) (lv' := [(1, .int (nI (i + 1))), (0, .ref h)]) F.1 F.2.1 dX4_out_24 hl (k := 0) rfl (nI_1 _) (by decide) rfl (fun ls hl => ?_)
          refine lv_goto (tgt := 6) F.1 F.2.1 dX4_out_27 (by decide) ?_
          have hP : va_P (eD E) vwCl [(h, .inr (4, fs)), (qm, .inl (eI E, 75, .inl (itM P m (i + 1)))), (qw, .inl (eI E, 75, .inl m)), (qf, .inl (eI E, 7, .inl fd))] H := hP
          have hD : va_D A [(h, .inr (4, fs)), (qm, .inl (eI E, 75, .inl (itM P m (i + 1)))), (qw, .inl (eI E, 75, .inl m)), (qf, .inl (eI E, 7, .inl fd))] := hD
          exact ih (i + 1) (by omega) (by omega)  (hsr.trans (fs1_no (p := fun n => !huM (itM P m n 0) (itM P m n 1) (itM P m n 2) (itM P m n 3)) (by show (!_) = false; rw [k3]; rfl) hiN)) _ _ _ hP hD hS (lv_sub hl [0, 1] rfl)
  have hP : va_P (eD E) vwCl [(h, .inr (4, fs)), (qm, .inl (eI E, 75, .inl (itM P m 0))), (qw, .inl (eI E, 75, .inl m)), (qf, .inl (eI E, 7, .inl fd))] H := hP
  have hD : va_D A [(h, .inr (4, fs)), (qm, .inl (eI E, 75, .inl (itM P m 0))), (qw, .inl (eI E, 75, .inl m)), (qf, .inl (eI E, 7, .inl fd))] := hD
  exact lp6 (401 + 1) 0 (by omega) (by omega)  (rfl) _ _ _ hP hD hS (lv_sub hl [0, 1] rfl)
