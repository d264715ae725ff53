def mn_reaches (P : Nat) (m fd : Nat → Int32) (a1 : Int32) : Int32 × (Nat → Int32) := if inR a1 0 29 = true then (match fs1 (fun n => tkM (itM P m n 0) (itM P m n 1) (itM P m n 2) (itM P m n 3) a1) 401 0 with | some n => (nI n, fd) | none => (-1000000004, fn fd 3)) else (-1000000001, fn fd 0)
set_option maxHeartbeats 4000000 in
set_option maxRecDepth 100000 in
theorem c_X4_reaches (l : Launch) (E : gE) (h : Nat) (fs : List Value) (qm : Nat) (qw : Nat) (qf : Nat) (m : Nat → Int32) (w : Nat → Int32) (fd : Nat → Int32) (P : Nat) (a1 : Int32) (hf0 : fs[0]? = some (.ref qm)) (hf2 : fs[2]? = some (.ref qw)) (hf4 : fs[4]? = some (.ref qf)) (hm4 : m 4 = nI P) (hP8 : P ≤ 8) : gI l yX4_reaches wsX4_reaches ({ frames := 7, cells := 0, slots := 0, locals := 147 }) E [(h, .inr (4, fs)), (qm, .inl (eI E, 75, .inl m)), (qw, .inl (eI E, 75, .inl w)), (qf, .inl (eI E, 7, .inl fd))] (fun u : ((Nat → Int32)) × ((Nat → Int32)) => [(h, .inr (4, fs)), (qm, .inl (eI E, 75, .inl m)), (qw, .inl (eI E, 75, .inl u.2)), (qf, .inl (eI E, 7, .inl u.1))]) [.ref h, .int a1] (fun (r : Int32) (u : ((Nat → Int32)) × ((Nat → Int32))) => (r, u.1) = mn_reaches P m fd a1) := by
  refine gI.of (cc := cX4_reaches) (maxL := 3) (by decide) rfl (Nat.le_of_ble_eq_true rfl) ?_
  intro pG eG sG mG below meth cG A ls H locs F hr hlk hX hP hD hA hS hl
  have hl : lv_has ls 3 [(0, .ref h), (1, .int a1)] := hl
  refine lv_iload_n F.1 F.2.1 dX4_reaches_0 rfl (lv_at hl 1 rfl) ?_
  refine g_goIr (g_runS (As := [.int a1]) (rest := []) F hX hP hD hS hA (c_X4_isHouse l E a1 H.size) (va_cwS 1 F.2.2.2.2 gX4_reaches_X4_isHouse rfl rfl rfl (by decide +kernel) ⟨Nat.le_of_ble_eq_true rfl, Nat.le_of_ble_eq_true rfl⟩) [] rfl rfl rfl hl.1 rfl (Nat.le_of_ble_eq_true rfl) dX4_reaches_1 ⟨Nat.le_refl _, Nat.le_refl _⟩) hP hD hS hA [] rfl (fun r _ H locs hq hP hS => ?_)
  subst hq
  refine g_bne (tgt := 14) F dX4_reaches_4 (by decide) (fun k1 => ?_) (fun k1 => ?_)
  · refine lv_aload_n F.1 F.2.1 dX4_reaches_14 rfl (lv_at hl 0 rfl) ?_
    refine g_goV (wr := [(qf, .inl (eI E, 7, .inl fd))]) (g_runV (As := []) (rest := []) F hX hP hD hS hA (c_X4_thinks l E h fs qm qw m w (by first | assumption | rfl) (by first | assumption | rfl) H.size) (cwV 0 F.2.2.2.2 gX4_reaches_X4_thinks rfl rfl rfl (by decide +kernel) ⟨Nat.le_of_ble_eq_true rfl, Nat.le_of_ble_eq_true rfl⟩) [0, 1, 2] rfl rfl (q0 := 0) (ci := 4) rfl rfl rfl hl.1 rfl (Nat.le_of_ble_eq_true rfl) dX4_reaches_15 ⟨Nat.le_refl _, Nat.le_refl _⟩) hP hD hS hA [0, 1, 2] [3] rfl rfl rfl (by decide) (fun _ H locs hq hP hD hS => ?_)
    have hP : va_P (eD E) vwCl [(h, .inr (4, fs)), (qm, .inl (eI E, 75, .inl m)), (qw, .inl (eI E, 75, .inl m)), (qf, .inl (eI E, 7, .inl fd))] H := hP.sub [1, 2, 3, 0] rfl
    have hD : va_D A [(h, .inr (4, fs)), (qm, .inl (eI E, 75, .inl m)), (qw, .inl (eI E, 75, .inl m)), (qf, .inl (eI E, 7, .inl fd))] := hD.sub [1, 2, 3, 0] (by decide) rfl
    refine lv_iconst (v := 0) F.1 F.2.1 dX4_reaches_18 (by decide) ?_
    refine lv_istore_n (lv' := [(2, .int 0), (0, .ref h), (1, .int a1)]) F.1 F.2.1 dX4_reaches_19 rfl hl (by decide) rfl (fun ls hl => ?_)
    have lp20 : ∀ (fu i : Nat), i ≤ 401 → 401 + 1 ≤ i + fu → fs1 (fun n => tkM (itM P m n 0) (itM P m n 1) (itM P m n 2) (itM P m n 3) a1) 401 0 = fs1 (fun n => tkM (itM P m n 0) (itM P m n 1) (itM P m n 2) (itM P m n 3) a1) (401 - i) i → ∀ (H : Heap) (locs : List Loc) (ls : Array Slot), va_P (eD E) vwCl [(h, .inr (4, fs)), (qm, .inl (eI E, 75, .inl (itM P m i))), (qw, .inl (eI E, 75, .inl m)), (qf, .inl (eI E, 7, .inl fd))] H → va_D A [(h, .inr (4, fs)), (qm, .inl (eI E, 75, .inl (itM P m i))), (qw, .inl (eI E, 75, .inl m)), (qf, .inl (eI E, 7, .inl fd))] → va_S A sG.heap H locs → lv_has ls 3 [(2, .int (nI i)), (0, .ref h), (1, .int a1)] → W pG l eG { frames := 7, cells := 0, slots := 0, locals := 147 } sG mG [.ref h, .int a1].toArray below meth cG H locs 0 0 (MQ below (va_Qi (fun (r : Int32) (u : ((Nat → Int32)) × ((Nat → Int32))) => (r, u.1) = mn_reaches P m fd a1) (gR E (fun u : ((Nat → Int32)) × ((Nat → Int32)) => [(h, .inr (4, fs)), (qm, .inl (eI E, 75, .inl m)), (qw, .inl (eI E, 75, .inl u.2)), (qf, .inl (eI E, 7, .inl u.1))]) A) A) [.ref h, .int a1].toArray sG 0 0 A) (F0 mG 20 ls []) := by
      intro fu
      induction fu with
      | zero => intro i h1 h2; exact absurd h2 (by omega)
      | succ fu ih =>
        intro i hi hin  hsr H locs ls hP hD hS hl
        refine lv_iload_n F.1 F.2.1 dX4_reaches_20 rfl (lv_at hl 0 rfl) ?_
        refine lv_sipush (v := 400) F.1 F.2.1 dX4_reaches_21 (by decide) ?_
        refine lv_icmp_gt (tgt := 45) F.1 F.2.1 dX4_reaches_24 (by decide) (fun k2 => ?_) (fun k2 => ?_)
        · have hiN : 401 = i := Nat.le_antisymm ((nI_ltI (by omega) (by omega)).mp k2) hi
          subst hiN
          refine lv_aload_n F.1 F.2.1 dX4_reaches_45 rfl (lv_at hl 1 rfl) ?_
          refine g_goV (wr := [(qf, .inl (eI E, 7, .inl fd))]) (g_runV (As := []) (rest := []) F hX hP hD hS hA (c_X4_putsBack l E h fs qm qw (itM P m 401) m (by first | assumption | rfl) (by first | assumption | rfl) H.size) (cwV 0 F.2.2.2.2 gX4_reaches_X4_putsBack rfl rfl rfl (by decide +kernel) ⟨Nat.le_of_ble_eq_true rfl, Nat.le_of_ble_eq_true rfl⟩) [0, 1, 2] rfl rfl (q0 := 0) (ci := 4) rfl rfl rfl hl.1 rfl (Nat.le_of_ble_eq_true rfl) dX4_reaches_46 ⟨Nat.le_refl _, Nat.le_refl _⟩) hP hD hS hA [0, 1, 2] [3] rfl rfl rfl (by decide) (fun _ H locs hq hP hD hS => ?_)
          have hP : va_P (eD E) vwCl [(h, .inr (4, fs)), (qm, .inl (eI E, 75, .inl m)), (qw, .inl (eI E, 75, .inl m)), (qf, .inl (eI E, 7, .inl fd))] H := hP.sub [1, 2, 3, 0] rfl
          have hD : va_D A [(h, .inr (4, fs)), (qm, .inl (eI E, 75, .inl m)), (qw, .inl (eI E, 75, .inl m)), (qf, .inl (eI E, 7, .inl fd))] := hD.sub [1, 2, 3, 0] (by decide) rfl
          refine lv_iload_n F.1 F.2.1 dX4_reaches_49 rfl (lv_at hl 0 rfl) ?_
          refine lv_sipush (v := 400) F.1 F.2.1 dX4_reaches_50 (by decide) ?_
          refine lv_icmp_le (tgt := 65) F.1 F.2.1 dX4_reaches_53 (by decide) (fun k3 => ?_) (fun k3 => ?_)
          · refine lv_iload_n F.1 F.2.1 dX4_reaches_65 rfl (lv_at hl 0 rfl) ?_
            exact g_reti F hr hlk (vp_nar_int _) hS hP hD ((fd, m)) (rfl) (by first | (unfold mn_reaches fn; rw [if_pos k1, hsr, fs1_end]; done) | (unfold mn_reaches fn; rw [if_pos k1, hsr, fs1_yes (p := fun n => tkM (itM P m n 0) (itM P m n 1) (itM P m n 2) (itM P m n 3) a1) hsr (by omega)]; done) | exact absurd k3 (by decide) | exact absurd (nI_le (show i ≤ 400 by omega) (by decide)) k3) dX4_reaches_66
          · refine lv_aload_n F.1 F.2.1 dX4_reaches_56 rfl (lv_at hl 1 rfl) ?_
            refine lv_ldc (v := (-1000000004)) F.1 F.2.1 F.2.2.2.1 (F.2.2.2.2 _ (mm 2 rfl)) dX4_reaches_57 ?_
            refine g_goI (wr := [(qm, .inl (eI E, 75, .inl m)), (qw, .inl (eI E, 75, .inl m))]) (g_runV (As := [.int (-1000000004)]) (rest := []) F hX hP hD hS hA (c_X4_finds l E h fs qf fd (-1000000004) 3 (by first | assumption | rfl) (by decide +kernel) (by decide) H.size) (cwV 1 F.2.2.2.2 gX4_reaches_X4_finds rfl rfl rfl (by decide +kernel) ⟨Nat.le_of_ble_eq_true rfl, Nat.le_of_ble_eq_true rfl⟩) [0, 3] rfl rfl (q0 := 0) (ci := 4) rfl rfl rfl hl.1 rfl (Nat.le_of_ble_eq_true rfl) dX4_reaches_59 ⟨Nat.le_refl _, Nat.le_refl _⟩) hP hD hS hA [0, 3] [1, 2] rfl rfl rfl (by decide) (fun r _ H locs hq hP hD hS => ?_)
            have hP : va_P (eD E) vwCl [(h, .inr (4, fs)), (qm, .inl (eI E, 75, .inl m)), (qw, .inl (eI E, 75, .inl m)), (qf, .inl (eI E, 7, .inl (upd fd 3 (fd 3 + 1))))] H := hP.sub [2, 0, 1, 3] rfl
            have hD : va_D A [(h, .inr (4, fs)), (qm, .inl (eI E, 75, .inl m)), (qw, .inl (eI E, 75, .inl m)), (qf, .inl (eI E, 7, .inl (upd fd 3 (fd 3 + 1))))] := hD.sub [2, 0, 1, 3] (by decide) rfl
            subst hq
            refine lv_goto (tgt := 66) F.1 F.2.1 dX4_reaches_62 (by decide) ?_
            exact g_reti F hr hlk (vp_nar_int _) hS hP hD ((upd fd 3 (fd 3 + 1), m)) (rfl) (by first | (unfold mn_reaches fn; rw [if_pos k1, hsr, fs1_end]; done) | (unfold mn_reaches fn; rw [if_pos k1, hsr, fs1_yes (p := fun n => tkM (itM P m n 0) (itM P m n 1) (itM P m n 2) (itM P m n 3) a1) hsr (by omega)]; done) | exact absurd k3 (by decide) | exact absurd (nI_le (show i ≤ 400 by omega) (by decide)) k3) dX4_reaches_66
        · have hiN : i < 401 := Nat.lt_of_not_le (fun h => k2 (nI_lt h (by omega)))
          refine lv_aload_n F.1 F.2.1 dX4_reaches_27 rfl (lv_at hl 1 rfl) ?_
          refine lv_iload_n F.1 F.2.1 dX4_reaches_28 rfl (lv_at hl 2 rfl) ?_
          refine g_goIr (g_runV (As := [.int a1]) (rest := []) F hX hP hD hS hA (c_X4_isTaken l E h fs qm (itM P m i) a1 (by first | assumption | rfl) H.size) (cwV 1 F.2.2.2.2 gX4_reaches_X4_isTaken rfl rfl rfl (by decide +kernel) ⟨Nat.le_of_ble_eq_true rfl, Nat.le_of_ble_eq_true rfl⟩) [0, 1] rfl rfl (q0 := 0) (ci := 4) rfl rfl rfl hl.1 rfl (Nat.le_of_ble_eq_true rfl) dX4_reaches_29 ⟨Nat.le_refl _, Nat.le_refl _⟩) hP hD hS hA [0, 1] rfl (fun r _ H locs hq hP hS => ?_)
          subst hq
          refine g_bne (tgt := 45) F dX4_reaches_32 (by decide) (fun k4 => ?_) (fun k4 => ?_)
          · refine lv_aload_n F.1 F.2.1 dX4_reaches_45 rfl (lv_at hl 1 rfl) ?_
            refine g_goV (wr := [(qf, .inl (eI E, 7, .inl fd))]) (g_runV (As := []) (rest := []) F hX hP hD hS hA (c_X4_putsBack l E h fs qm qw (itM P m i) m (by first | assumption | rfl) (by first | assumption | rfl) H.size) (cwV 0 F.2.2.2.2 gX4_reaches_X4_putsBack rfl rfl rfl (by decide +kernel) ⟨Nat.le_of_ble_eq_true rfl, Nat.le_of_ble_eq_true rfl⟩) [0, 1, 2] rfl rfl (q0 := 0) (ci := 4) rfl rfl rfl hl.1 rfl (Nat.le_of_ble_eq_true rfl) dX4_reaches_46 ⟨Nat.le_refl _, Nat.le_refl _⟩) hP hD hS hA [0, 1, 2] [3] rfl rfl rfl (by decide) (fun _ H locs hq hP hD hS => ?_)
            have hP : va_P (eD E) vwCl [(h, .inr (4, fs)), (qm, .inl (eI E, 75, .inl m)), (qw, .inl (eI E, 75, .inl m)), (qf, .inl (eI E, 7, .inl fd))] H := hP.sub [1, 2, 3, 0] rfl
            have hD : va_D A [(h, .inr (4, fs)), (qm, .inl (eI E, 75, .inl m)), (qw, .inl (eI E, 75, .inl m)), (qf, .inl (eI E, 7, .inl fd))] := hD.sub [1, 2, 3, 0] (by decide) rfl
            refine lv_iload_n F.1 F.2.1 dX4_reaches_49 rfl (lv_at hl 0 rfl) ?_
            refine lv_sipush (v := 400) F.1 F.2.1 dX4_reaches_50 (by decide) ?_
            refine lv_icmp_le (tgt := 65) F.1 F.2.1 dX4_reaches_53 (by decide) (fun k5 => ?_) (fun k5 => ?_)
            · refine lv_iload_n F.1 F.2.1 dX4_reaches_65 rfl (lv_at hl 0 rfl) ?_
              exact g_reti F hr hlk (vp_nar_int _) hS hP hD ((fd, m)) (rfl) (by first | (unfold mn_reaches fn; rw [if_pos k1, hsr, fs1_end]; done) | (unfold mn_reaches fn; rw [if_pos k1, hsr, fs1_yes (p := fun n => tkM (itM P m n 0) (itM P m n 1) (itM P m n 2) (itM P m n 3) a1) k4 (by omega)]; done) | exact absurd k5 (by decide) | exact absurd (nI_le (show i ≤ 400 by omega) (by decide)) k5) dX4_reaches_66
            · refine lv_aload_n F.1 F.2.1 dX4_reaches_56 rfl (lv_at hl 1 rfl) ?_
              refine lv_ldc (v := (-1000000004)) F.1 F.2.1 F.2.2.2.1 (F.2.2.2.2 _ (mm 2 rfl)) dX4_reaches_57 ?_
              refine g_goI (wr := [(qm, .inl (eI E, 75, .inl m)), (qw, .inl (eI E, 75, .inl m))]) (g_runV (As := [.int (-1000000004)]) (rest := []) F hX hP hD hS hA (c_X4_finds l E h fs qf fd (-1000000004) 3 (by first | assumption | rfl) (by decide +kernel) (by decide) H.size) (cwV 1 F.2.2.2.2 gX4_reaches_X4_finds rfl rfl rfl (by decide +kernel) ⟨Nat.le_of_ble_eq_true rfl, Nat.le_of_ble_eq_true rfl⟩) [0, 3] rfl rfl (q0 := 0) (ci := 4) rfl rfl rfl hl.1 rfl (Nat.le_of_ble_eq_true rfl) dX4_reaches_59 ⟨Nat.le_refl _, Nat.le_refl _⟩) hP hD hS hA [0, 3] [1, 2] rfl rfl rfl (by decide) (fun r _ H locs hq hP hD hS => ?_)
              have hP : va_P (eD E) vwCl [(h, .inr (4, fs)), (qm, .inl (eI E, 75, .inl m)), (qw, .inl (eI E, 75, .inl m)), (qf, .inl (eI E, 7, .inl (upd fd 3 (fd 3 + 1))))] H := hP.sub [2, 0, 1, 3] rfl
              have hD : va_D A [(h, .inr (4, fs)), (qm, .inl (eI E, 75, .inl m)), (qw, .inl (eI E, 75, .inl m)), (qf, .inl (eI E, 7, .inl (upd fd 3 (fd 3 + 1))))] := hD.sub [2, 0, 1, 3] (by decide) rfl
              subst hq
              refine lv_goto (tgt := 66) F.1 F.2.1 dX4_reaches_62 (by decide) ?_
              exact g_reti F hr hlk (vp_nar_int _) hS hP hD ((upd fd 3 (fd 3 + 1), m)) (rfl) (by first | (unfold mn_reaches fn; rw [if_pos k1, hsr, fs1_end]; done) | (unfold mn_reaches fn; rw [if_pos k1, hsr, fs1_yes (p := fun n => tkM (itM P m n 0) (itM P m n 1) (itM P m n 2) (itM P m n 3) a1) k4 (by omega)]; done) | exact absurd k5 (by decide) | exact absurd (nI_le (show i ≤ 400 by omega) (by decide)) k5) dX4_reaches_66
          · refine lv_aload_n F.1 F.2.1 dX4_reaches_35 rfl (lv_at hl 1 rfl) ?_
            refine g_goV (wr := [(qw, .inl (eI E, 75, .inl m)), (qf, .inl (eI E, 7, .inl fd))]) (g_runV (As := []) (rest := []) F hX hP hD hS hA (c_X4_goes l E h fs qm (itM P m i) P (by first | assumption | rfl) ((itM_lo P m (by decide) (by decide) i).trans hm4) (by first | assumption | omega) H.size) (cwV 0 F.2.2.2.2 gX4_reaches_X4_goes rfl rfl rfl (by decide +kernel) ⟨Nat.le_of_ble_eq_true rfl, Nat.le_of_ble_eq_true rfl⟩) [0, 1] rfl rfl (q0 := 0) (ci := 4) rfl rfl rfl hl.1 rfl (Nat.le_of_ble_eq_true rfl) dX4_reaches_36 ⟨Nat.le_refl _, Nat.le_refl _⟩) hP hD hS hA [0, 1] [2, 3] rfl rfl rfl (by decide) (fun _ H locs hq hP hD hS => ?_)
            have hP : va_P (eD E) vwCl [(h, .inr (4, fs)), (qm, .inl (eI E, 75, .inl (goM P (itM P m i)))), (qw, .inl (eI E, 75, .inl m)), (qf, .inl (eI E, 7, .inl fd))] H := hP.sub [2, 3, 0, 1] rfl
            have hD : va_D A [(h, .inr (4, fs)), (qm, .inl (eI E, 75, .inl (goM P (itM P m i)))), (qw, .inl (eI E, 75, .inl m)), (qf, .inl (eI E, 7, .inl fd))] := hD.sub [2, 3, 0, 1] (by decide) rfl
            refine lv_iinc (v := nI (i + 1)) (lv' := [(2, .int (nI (i + 1))), (0, .ref h), (1, .int a1)]) F.1 F.2.1 dX4_reaches_39 hl (k := 0) rfl (nI_1 _) (by decide) rfl (fun ls hl => ?_)
            refine lv_goto (tgt := 20) F.1 F.2.1 dX4_reaches_42 (by decide) ?_
            have hP : va_P (eD E) vwCl [(h, .inr (4, fs)), (qm, .inl (eI E, 75, .inl (itM P m (i + 1)))), (qw, .inl (eI E, 75, .inl m)), (qf, .inl (eI E, 7, .inl fd))] H := hP
            have hD : va_D A [(h, .inr (4, fs)), (qm, .inl (eI E, 75, .inl (itM P m (i + 1)))), (qw, .inl (eI E, 75, .inl m)), (qf, .inl (eI E, 7, .inl fd))] := hD
            exact ih (i + 1) (by omega) (by omega)  (hsr.trans (fs1_no (p := fun n => tkM (itM P m n 0) (itM P m n 1) (itM P m n 2) (itM P m n 3) a1) k4 hiN)) _ _ _ hP hD hS (lv_sub hl [0, 1, 2] rfl)
    have hP : va_P (eD E) vwCl [(h, .inr (4, fs)), (qm, .inl (eI E, 75, .inl (itM P m 0))), (qw, .inl (eI E, 75, .inl m)), (qf, .inl (eI E, 7, .inl fd))] H := hP
    have hD : va_D A [(h, .inr (4, fs)), (qm, .inl (eI E, 75, .inl (itM P m 0))), (qw, .inl (eI E, 75, .inl m)), (qf, .inl (eI E, 7, .inl fd))] := hD
    exact lp20 (401 + 1) 0 (by omega) (by omega)  (rfl) _ _ _ hP hD hS (lv_sub hl [0, 1, 2] rfl)
  · refine lv_aload_n F.1 F.2.1 dX4_reaches_7 rfl (lv_at hl 0 rfl) ?_
    refine lv_ldc (v := (-1000000001)) F.1 F.2.1 F.2.2.2.1 (F.2.2.2.2 _ (mm 1 rfl)) dX4_reaches_8 ?_
    refine g_goI (wr := [(qm, .inl (eI E, 75, .inl m)), (qw, .inl (eI E, 75, .inl w))]) (g_runV (As := [.int (-1000000001)]) (rest := []) F hX hP hD hS hA (c_X4_finds l E h fs qf fd (-1000000001) 0 (by first | assumption | rfl) (by decide +kernel) (by decide) H.size) (cwV 1 F.2.2.2.2 gX4_reaches_X4_finds rfl rfl rfl (by decide +kernel) ⟨Nat.le_of_ble_eq_true rfl, Nat.le_of_ble_eq_true rfl⟩) [0, 3] rfl rfl (q0 := 0) (ci := 4) rfl rfl rfl hl.1 rfl (Nat.le_of_ble_eq_true rfl) dX4_reaches_10 ⟨Nat.le_refl _, Nat.le_refl _⟩) hP hD hS hA [0, 3] [1, 2] rfl rfl rfl (by decide) (fun r _ H locs hq hP hD hS => ?_)
    have hP : va_P (eD E) vwCl [(h, .inr (4, fs)), (qm, .inl (eI E, 75, .inl m)), (qw, .inl (eI E, 75, .inl w)), (qf, .inl (eI E, 7, .inl (upd fd 0 (fd 0 + 1))))] H := hP.sub [2, 0, 1, 3] rfl
    have hD : va_D A [(h, .inr (4, fs)), (qm, .inl (eI E, 75, .inl m)), (qw, .inl (eI E, 75, .inl w)), (qf, .inl (eI E, 7, .inl (upd fd 0 (fd 0 + 1))))] := hD.sub [2, 0, 1, 3] (by decide) rfl
    subst hq
    exact g_reti F hr hlk (vp_nar_int _) hS hP hD ((upd fd 0 (fd 0 + 1), w)) (rfl) (by unfold mn_reaches; (try simp only [k1, and_self, true_and, and_true, if_true, Bool.false_eq_true, false_and, and_false, if_false]); all_goals simp [fn, k1]) dX4_reaches_13
