/-! the public methods of the reference: small ones -/
def mn_noise (m fd : Nat → Int32) (a1 a2 : Int32) : Int32 × (Nat → Int32) × (Nat → Int32) := if inR a1 0 29 = true ∧ inR a2 0 20 = true then (m (5 + ix a1), upd m (5 + ix a1) a2, fd) else (-1000000001, m, fn fd 0)
set_option maxHeartbeats 4000000 in
set_option maxRecDepth 100000 in
theorem c_X4_noise (l : Launch) (E : gE) (h : Nat) (fs : List Value) (qm : Nat) (qf : Nat) (m : Nat → Int32) (fd : Nat → Int32) (a1 : Int32) (a2 : Int32) (hf0 : fs[0]? = some (.ref qm)) (hf4 : fs[4]? = some (.ref qf)) : gI l yX4_noise wsX4_noise ({ frames := 2, cells := 0, slots := 0, locals := 43 }) E [(h, .inr (4, fs)), (qm, .inl (eI E, 75, .inl m)), (qf, .inl (eI E, 7, .inl fd))] (fun u : (Nat → Int32) × (Nat → Int32) => [(h, .inr (4, fs)), (qm, .inl (eI E, 75, .inl u.1)), (qf, .inl (eI E, 7, .inl u.2))]) [.ref h, .int a1, .int a2] (fun (r : Int32) (u : (Nat → Int32) × (Nat → Int32)) => (r, u) = mn_noise m fd a1 a2) := by
  refine gI.of (cc := cX4_noise) (maxL := 3) (by decide) rfl (Nat.le_of_ble_eq_true rfl) ?_
  intro pG eG sG mG below meth cG A ls H locs F hr hlk hX hP hD hA hS hl
  have hl : lv_has ls 3 [(0, .ref h), (1, .int a1), (2, .int a2)] := hl
  refine lv_iload_n F.1 F.2.1 dX4_noise_0 rfl (lv_at hl 1 rfl) ?_
  refine g_goIr (g_runS (As := [.int a1]) (rest := []) F hX hP hD hS hA (c_X4_isHouse l E a1 H.size) (va_cwS 1 F.2.2.2.2 gX4_noise_X4_isHouse rfl rfl rfl (by decide +kernel) ⟨Nat.le_of_ble_eq_true rfl, Nat.le_of_ble_eq_true rfl⟩) [] rfl rfl rfl hl.1 rfl (Nat.le_of_ble_eq_true rfl) dX4_noise_1 ⟨Nat.le_refl _, Nat.le_refl _⟩) hP hD hS hA [] rfl (fun r _ H locs hq hP hS => ?_)
  subst hq
  refine g_beq (tgt := 29) F dX4_noise_4 (by decide) (fun k1 => ?_) (fun k1 => ?_)
  · refine lv_aload_n F.1 F.2.1 dX4_noise_29 rfl (lv_at hl 0 rfl) ?_
    refine lv_ldc (v := (-1000000001)) F.1 F.2.1 F.2.2.2.1 (F.2.2.2.2 _ (mm 1 rfl)) dX4_noise_30 ?_
    refine g_goI (wr := [(qm, .inl (eI E, 75, .inl m))]) (g_runV (As := [.int (-1000000001)]) (rest := []) F hX hP hD hS hA (c_X4_finds l E h fs qf fd (-1000000001) 0 (by first | assumption | rfl) (by decide +kernel) (by decide) H.size) (cwV 1 F.2.2.2.2 gX4_noise_X4_finds rfl rfl rfl (by decide +kernel) ⟨Nat.le_of_ble_eq_true rfl, Nat.le_of_ble_eq_true rfl⟩) [0, 2] rfl rfl (q0 := 0) (ci := 4) rfl rfl rfl hl.1 rfl (Nat.le_of_ble_eq_true rfl) dX4_noise_32 ⟨Nat.le_refl _, Nat.le_refl _⟩) hP hD hS hA [0, 2] [1] rfl rfl rfl (by decide) (fun r _ H locs hq hP hD hS => ?_)
    have hP : va_P (eD E) vwCl [(h, .inr (4, fs)), (qm, .inl (eI E, 75, .inl m)), (qf, .inl (eI E, 7, .inl (upd fd 0 (fd 0 + 1))))] H := hP.sub [1, 0, 2] rfl
    have hD : va_D A [(h, .inr (4, fs)), (qm, .inl (eI E, 75, .inl m)), (qf, .inl (eI E, 7, .inl (upd fd 0 (fd 0 + 1))))] := hD.sub [1, 0, 2] (by decide) rfl
    subst hq
    exact g_reti F hr hlk (vp_nar_int _) hS hP hD ((m, upd fd 0 (fd 0 + 1))) (rfl) (by unfold mn_noise; (try simp only [k1, and_self, true_and, and_true, if_true, Bool.false_eq_true, false_and, and_false, if_false]); all_goals simp [fn, k1]) dX4_noise_35
  · refine lv_iload_n F.1 F.2.1 dX4_noise_7 rfl (lv_at hl 2 rfl) ?_
    refine lv_i2l (v := (a2 : Int32).toInt64) F.1 F.2.1 dX4_noise_8 rfl ?_
    refine lv_iconst (v := 0) F.1 F.2.1 dX4_noise_9 (by decide) ?_
    refine lv_bipush (v := 20) F.1 F.2.1 dX4_noise_10 (by decide) ?_
    refine g_goIr (g_runS (As := [.long ((a2 : Int32).toInt64), .int 0, .int 20]) (rest := []) F hX hP hD hS hA (c_X4_in_i l E a2 0 20 H.size) (va_cwS 3 F.2.2.2.2 gX4_noise_X4_in rfl rfl rfl (by decide +kernel) ⟨Nat.le_of_ble_eq_true rfl, Nat.le_of_ble_eq_true rfl⟩) [] rfl rfl rfl hl.1 rfl (Nat.le_of_ble_eq_true rfl) dX4_noise_12 ⟨Nat.le_refl _, Nat.le_refl _⟩) hP hD hS hA [] rfl (fun r _ H locs hq hP hS => ?_)
    subst hq
    refine g_beq (tgt := 29) F dX4_noise_15 (by decide) (fun k2 => ?_) (fun k2 => ?_)
    · refine lv_aload_n F.1 F.2.1 dX4_noise_29 rfl (lv_at hl 0 rfl) ?_
      refine lv_ldc (v := (-1000000001)) F.1 F.2.1 F.2.2.2.1 (F.2.2.2.2 _ (mm 1 rfl)) dX4_noise_30 ?_
      refine g_goI (wr := [(qm, .inl (eI E, 75, .inl m))]) (g_runV (As := [.int (-1000000001)]) (rest := []) F hX hP hD hS hA (c_X4_finds l E h fs qf fd (-1000000001) 0 (by first | assumption | rfl) (by decide +kernel) (by decide) H.size) (cwV 1 F.2.2.2.2 gX4_noise_X4_finds rfl rfl rfl (by decide +kernel) ⟨Nat.le_of_ble_eq_true rfl, Nat.le_of_ble_eq_true rfl⟩) [0, 2] rfl rfl (q0 := 0) (ci := 4) rfl rfl rfl hl.1 rfl (Nat.le_of_ble_eq_true rfl) dX4_noise_32 ⟨Nat.le_refl _, Nat.le_refl _⟩) hP hD hS hA [0, 2] [1] rfl rfl rfl (by decide) (fun r _ H locs hq hP hD hS => ?_)
      have hP : va_P (eD E) vwCl [(h, .inr (4, fs)), (qm, .inl (eI E, 75, .inl m)), (qf, .inl (eI E, 7, .inl (upd fd 0 (fd 0 + 1))))] H := hP.sub [1, 0, 2] rfl
      have hD : va_D A [(h, .inr (4, fs)), (qm, .inl (eI E, 75, .inl m)), (qf, .inl (eI E, 7, .inl (upd fd 0 (fd 0 + 1))))] := hD.sub [1, 0, 2] (by decide) rfl
      subst hq
      exact g_reti F hr hlk (vp_nar_int _) hS hP hD ((m, upd fd 0 (fd 0 + 1))) (rfl) (by unfold mn_noise; (try simp only [k1, k2, and_self, true_and, and_true, if_true, Bool.false_eq_true, false_and, and_false, if_false]); all_goals simp [fn, k1, k2]) dX4_noise_35
    · obtain ⟨e_a1, b_a1⟩ := ix_of 29 k1 (by decide) (by decide)
      have hl : lv_has ls 3 [(0, .ref h), (1, .int (nI (ix a1))), (2, .int a2)] := by rw [← e_a1]; exact hl
      refine lv_aload_n F.1 F.2.1 dX4_noise_18 rfl (lv_at hl 0 rfl) ?_
      refine lv_iconst (v := 5) F.1 F.2.1 dX4_noise_19 (by decide) ?_
      refine lv_iload_n F.1 F.2.1 dX4_noise_20 rfl (lv_at hl 1 rfl) ?_
      refine lv_iadd F.1 F.2.1 dX4_noise_21 ?_
      refine g_top (nI (5 + ix a1)) (nI_add 5 (ix a1)) ?_
      refine lv_iload_n F.1 F.2.1 dX4_noise_22 rfl (lv_at hl 2 rfl) ?_
      refine g_goI (wr := [(qf, .inl (eI E, 7, .inl fd))]) (g_runV (As := [.int (nI (5 + ix a1)), .int a2]) (rest := []) F hX hP hD hS hA (c_X4_becomes l E h fs qm m (5 + ix a1) a2 (by first | assumption | rfl) (by omega) H.size) (cwV 2 F.2.2.2.2 gX4_noise_X4_becomes rfl rfl rfl (by decide +kernel) ⟨Nat.le_of_ble_eq_true rfl, Nat.le_of_ble_eq_true rfl⟩) [0, 1] rfl rfl (q0 := 0) (ci := 4) rfl rfl rfl hl.1 rfl (Nat.le_of_ble_eq_true rfl) dX4_noise_23 ⟨Nat.le_refl _, Nat.le_refl _⟩) hP hD hS hA [0, 1] [2] rfl rfl rfl (by decide) (fun r _ H locs hq hP hD hS => ?_)
      have hP : va_P (eD E) vwCl [(h, .inr (4, fs)), (qm, .inl (eI E, 75, .inl (upd m (5 + ix a1) a2))), (qf, .inl (eI E, 7, .inl fd))] H := hP.sub [1, 2, 0] rfl
      have hD : va_D A [(h, .inr (4, fs)), (qm, .inl (eI E, 75, .inl (upd m (5 + ix a1) a2))), (qf, .inl (eI E, 7, .inl fd))] := hD.sub [1, 2, 0] (by decide) rfl
      subst hq
      refine lv_goto (tgt := 35) F.1 F.2.1 dX4_noise_26 (by decide) ?_
      exact g_reti F hr hlk (vp_nar_int _) hS hP hD ((upd m (5 + ix a1) a2, fd)) (rfl) (by unfold mn_noise; (try simp only [k1, k2, and_self, true_and, and_true, if_true, Bool.false_eq_true, false_and, and_false, if_false]); all_goals simp [fn, k1, k2]) dX4_noise_35
def mn_hush (m fd : Nat → Int32) (a1 a2 : Int32) : Int32 × (Nat → Int32) × (Nat → Int32) := if (inR a1 0 2 && inR a2 (if a1 = 2 then 1 else 0) (if a1 = 0 then 99 else if a1 = 1 then 10 else 5)) = true then (m (1 + ix a1), upd m (1 + ix a1) a2, fd) else (-1000000001, m, fn fd 0)
set_option maxHeartbeats 4000000 in
set_option maxRecDepth 100000 in
theorem c_X4_hush (l : Launch) (E : gE) (h : Nat) (fs : List Value) (qm : Nat) (qf : Nat) (m : Nat → Int32) (fd : Nat → Int32) (a1 : Int32) (a2 : Int32) (hf0 : fs[0]? = some (.ref qm)) (hf4 : fs[4]? = some (.ref qf)) : gI l yX4_hush wsX4_hush ({ frames := 1, cells := 0, slots := 0, locals := 23 }) E [(h, .inr (4, fs)), (qm, .inl (eI E, 75, .inl m)), (qf, .inl (eI E, 7, .inl fd))] (fun u : (Nat → Int32) × (Nat → Int32) => [(h, .inr (4, fs)), (qm, .inl (eI E, 75, .inl u.1)), (qf, .inl (eI E, 7, .inl u.2))]) [.ref h, .int a1, .int a2] (fun (r : Int32) (u : (Nat → Int32) × (Nat → Int32)) => (r, u) = mn_hush m fd a1 a2) := by
  refine gI.of (cc := cX4_hush) (maxL := 4) (by decide) rfl (Nat.le_of_ble_eq_true rfl) ?_
  intro pG eG sG mG below meth cG A ls H locs F hr hlk hX hP hD hA hS hl
  have hl : lv_has ls 4 [(0, .ref h), (1, .int a1), (2, .int a2)] := hl
  refine lv_iload_n F.1 F.2.1 dX4_hush_0 rfl (lv_at hl 1 rfl) ?_
  refine lv_i2l (v := (a1 : Int32).toInt64) F.1 F.2.1 dX4_hush_1 rfl ?_
  refine lv_iconst (v := 0) F.1 F.2.1 dX4_hush_2 (by decide) ?_
  refine lv_iconst (v := 2) F.1 F.2.1 dX4_hush_3 (by decide) ?_
  refine g_goIr (g_runS (As := [.long ((a1 : Int32).toInt64), .int 0, .int 2]) (rest := []) F hX hP hD hS hA (c_X4_in_i l E a1 0 2 H.size) (va_cwS 3 F.2.2.2.2 gX4_hush_X4_in rfl rfl rfl (by decide +kernel) ⟨Nat.le_of_ble_eq_true rfl, Nat.le_of_ble_eq_true rfl⟩) [] rfl rfl rfl hl.1 rfl (Nat.le_of_ble_eq_true rfl) dX4_hush_4 ⟨Nat.le_refl _, Nat.le_refl _⟩) hP hD hS hA [] rfl (fun r _ H locs hq hP hS => ?_)
  subst hq
  have jn53 : ∀ (H : Heap) (locs : List Loc) (ls : Array Slot), va_P (eD E) vwCl [(h, .inr (4, fs)), (qm, .inl (eI E, 75, .inl m)), (qf, .inl (eI E, 7, .inl fd))] H → va_D A [(h, .inr (4, fs)), (qm, .inl (eI E, 75, .inl m)), (qf, .inl (eI E, 7, .inl fd))] → va_S A sG.heap H locs → lv_has ls 4 [(0, .ref h), (1, .int a1), (2, .int a2)] → W pG l eG { frames := 1, cells := 0, slots := 0, locals := 23 } sG mG [.ref h, .int a1, .int a2].toArray below meth cG H locs 0 0 (MQ below (va_Qi (fun (r : Int32) (u : (Nat → Int32) × (Nat → Int32)) => (r, u) = mn_hush m fd a1 a2) (gR E (fun u : (Nat → Int32) × (Nat → Int32) => [(h, .inr (4, fs)), (qm, .inl (eI E, 75, .inl u.1)), (qf, .inl (eI E, 7, .inl u.2))]) A) A) [.ref h, .int a1, .int a2].toArray sG 0 0 A) (F0 mG 53 ls [.int (bi (inR a1 0 2 && inR a2 (if a1 = 2 then 1 else 0) (if a1 = 0 then 99 else if a1 = 1 then 10 else 5)))]) := by
    intro H locs ls hP hD hS hl
    refine lv_istore_n (lv' := [(3, .int (bi (inR a1 0 2 && inR a2 (if a1 = 2 then 1 else 0) (if a1 = 0 then 99 else if a1 = 1 then 10 else 5)))), (0, .ref h), (1, .int a1), (2, .int a2)]) F.1 F.2.1 dX4_hush_53 rfl hl (by decide) rfl (fun ls hl => ?_)
    refine lv_iload_n F.1 F.2.1 dX4_hush_54 rfl (lv_at hl 0 rfl) ?_
    refine g_beq (tgt := 69) F dX4_hush_55 (by decide) (fun k1 => ?_) (fun k1 => ?_)
    · refine lv_aload_n F.1 F.2.1 dX4_hush_69 rfl (lv_at hl 1 rfl) ?_
      refine lv_ldc (v := (-1000000001)) F.1 F.2.1 F.2.2.2.1 (F.2.2.2.2 _ (mm 1 rfl)) dX4_hush_70 ?_
      refine g_goI (wr := [(qm, .inl (eI E, 75, .inl m))]) (g_runV (As := [.int (-1000000001)]) (rest := []) F hX hP hD hS hA (c_X4_finds l E h fs qf fd (-1000000001) 0 (by first | assumption | rfl) (by decide +kernel) (by decide) H.size) (cwV 1 F.2.2.2.2 gX4_hush_X4_finds rfl rfl rfl (by decide +kernel) ⟨Nat.le_of_ble_eq_true rfl, Nat.le_of_ble_eq_true rfl⟩) [0, 2] rfl rfl (q0 := 0) (ci := 4) rfl rfl rfl hl.1 rfl (Nat.le_of_ble_eq_true rfl) dX4_hush_72 ⟨Nat.le_refl _, Nat.le_refl _⟩) hP hD hS hA [0, 2] [1] rfl rfl rfl (by decide) (fun r _ H locs hq hP hD hS => ?_)
      have hP : va_P (eD E) vwCl [(h, .inr (4, fs)), (qm, .inl (eI E, 75, .inl m)), (qf, .inl (eI E, 7, .inl (upd fd 0 (fd 0 + 1))))] H := hP.sub [1, 0, 2] rfl
      have hD : va_D A [(h, .inr (4, fs)), (qm, .inl (eI E, 75, .inl m)), (qf, .inl (eI E, 7, .inl (upd fd 0 (fd 0 + 1))))] := hD.sub [1, 0, 2] (by decide) rfl
      subst hq
      exact g_reti F hr hlk (vp_nar_int _) hS hP hD ((m, upd fd 0 (fd 0 + 1))) (rfl) (by unfold mn_hush; rw [k1]; rfl) dX4_hush_75
    · have kk := (Bool.and_eq_true _ _).mp k1
      obtain ⟨e_a1, b_a1⟩ := ix_of 2 kk.1 (by decide) (by decide)
      have hl : lv_has ls 4 [(3, .int (bi (inR a1 0 2 && inR a2 (if a1 = 2 then 1 else 0) (if a1 = 0 then 99 else if a1 = 1 then 10 else 5)))), (0, .ref h), (1, .int (nI (ix a1))), (2, .int a2)] := by rw [← e_a1]; exact hl
      refine lv_aload_n F.1 F.2.1 dX4_hush_58 rfl (lv_at hl 1 rfl) ?_
      refine lv_iconst (v := 1) F.1 F.2.1 dX4_hush_59 (by decide) ?_
      refine lv_iload_n F.1 F.2.1 dX4_hush_60 rfl (lv_at hl 2 rfl) ?_
      refine lv_iadd F.1 F.2.1 dX4_hush_61 ?_
      refine g_top (nI (1 + ix a1)) (nI_add 1 (ix a1)) ?_
      refine lv_iload_n F.1 F.2.1 dX4_hush_62 rfl (lv_at hl 3 rfl) ?_
      refine g_goI (wr := [(qf, .inl (eI E, 7, .inl fd))]) (g_runV (As := [.int (nI (1 + ix a1)), .int a2]) (rest := []) F hX hP hD hS hA (c_X4_becomes l E h fs qm m (1 + ix a1) a2 (by first | assumption | rfl) (by omega) H.size) (cwV 2 F.2.2.2.2 gX4_hush_X4_becomes rfl rfl rfl (by decide +kernel) ⟨Nat.le_of_ble_eq_true rfl, Nat.le_of_ble_eq_true rfl⟩) [0, 1] rfl rfl (q0 := 0) (ci := 4) rfl rfl rfl hl.1 rfl (Nat.le_of_ble_eq_true rfl) dX4_hush_63 ⟨Nat.le_refl _, Nat.le_refl _⟩) hP hD hS hA [0, 1] [2] rfl rfl rfl (by decide) (fun r _ H locs hq hP hD hS => ?_)
      have hP : va_P (eD E) vwCl [(h, .inr (4, fs)), (qm, .inl (eI E, 75, .inl (upd m (1 + ix a1) a2))), (qf, .inl (eI E, 7, .inl fd))] H := hP.sub [1, 2, 0] rfl
      have hD : va_D A [(h, .inr (4, fs)), (qm, .inl (eI E, 75, .inl (upd m (1 + ix a1) a2))), (qf, .inl (eI E, 7, .inl fd))] := hD.sub [1, 2, 0] (by decide) rfl
      subst hq
      refine lv_goto (tgt := 75) F.1 F.2.1 dX4_hush_66 (by decide) ?_
      exact g_reti F hr hlk (vp_nar_int _) hS hP hD ((upd m (1 + ix a1) a2, fd)) (rfl) (by unfold mn_hush; rw [k1]; rfl) dX4_hush_75
  refine g_beq (tgt := 52) F dX4_hush_7 (by decide) (fun k2 => ?_) (fun k2 => ?_)
  · refine lv_iconst (v := 0) F.1 F.2.1 dX4_hush_52 (by decide) ?_
    refine g_top (bi (inR a1 0 2 && inR a2 (if a1 = 2 then 1 else 0) (if a1 = 0 then 99 else if a1 = 1 then 10 else 5))) (by simp [bi, k2]) ?_
    exact jn53 _ _ _ hP hD hS (lv_sub hl [0, 1, 2] rfl)
  · refine lv_iload_n F.1 F.2.1 dX4_hush_10 rfl (lv_at hl 2 rfl) ?_
    refine lv_i2l (v := (a2 : Int32).toInt64) F.1 F.2.1 dX4_hush_11 rfl ?_
    refine lv_iload_n F.1 F.2.1 dX4_hush_12 rfl (lv_at hl 1 rfl) ?_
    refine lv_iconst (v := 2) F.1 F.2.1 dX4_hush_13 (by decide) ?_
    have jn22 : ∀ (H : Heap) (locs : List Loc) (ls : Array Slot), va_P (eD E) vwCl [(h, .inr (4, fs)), (qm, .inl (eI E, 75, .inl m)), (qf, .inl (eI E, 7, .inl fd))] H → va_D A [(h, .inr (4, fs)), (qm, .inl (eI E, 75, .inl m)), (qf, .inl (eI E, 7, .inl fd))] → va_S A sG.heap H locs → lv_has ls 4 [(0, .ref h), (1, .int a1), (2, .int a2)] → W pG l eG { frames := 1, cells := 0, slots := 0, locals := 23 } sG mG [.ref h, .int a1, .int a2].toArray below meth cG H locs 0 0 (MQ below (va_Qi (fun (r : Int32) (u : (Nat → Int32) × (Nat → Int32)) => (r, u) = mn_hush m fd a1 a2) (gR E (fun u : (Nat → Int32) × (Nat → Int32) => [(h, .inr (4, fs)), (qm, .inl (eI E, 75, .inl u.1)), (qf, .inl (eI E, 7, .inl u.2))]) A) A) [.ref h, .int a1, .int a2].toArray sG 0 0 A) (F0 mG 22 ls [.int (if a1 = 2 then 1 else 0), .long ((a2 : Int32).toInt64)]) := by
      intro H locs ls hP hD hS hl
      refine lv_iload_n F.1 F.2.1 dX4_hush_22 rfl (lv_at hl 1 rfl) ?_
      have jn42 : ∀ (H : Heap) (locs : List Loc) (ls : Array Slot), va_P (eD E) vwCl [(h, .inr (4, fs)), (qm, .inl (eI E, 75, .inl m)), (qf, .inl (eI E, 7, .inl fd))] H → va_D A [(h, .inr (4, fs)), (qm, .inl (eI E, 75, .inl m)), (qf, .inl (eI E, 7, .inl fd))] → va_S A sG.heap H locs → lv_has ls 4 [(0, .ref h), (1, .int a1), (2, .int a2)] → W pG l eG { frames := 1, cells := 0, slots := 0, locals := 23 } sG mG [.ref h, .int a1, .int a2].toArray below meth cG H locs 0 0 (MQ below (va_Qi (fun (r : Int32) (u : (Nat → Int32) × (Nat → Int32)) => (r, u) = mn_hush m fd a1 a2) (gR E (fun u : (Nat → Int32) × (Nat → Int32) => [(h, .inr (4, fs)), (qm, .inl (eI E, 75, .inl u.1)), (qf, .inl (eI E, 7, .inl u.2))]) A) A) [.ref h, .int a1, .int a2].toArray sG 0 0 A) (F0 mG 42 ls [.int (if a1 = 0 then 99 else if a1 = 1 then 10 else 5), .int (if a1 = 2 then 1 else 0), .long ((a2 : Int32).toInt64)]) := by
        intro H locs ls hP hD hS hl
        refine g_goIr (g_runS (As := [.long ((a2 : Int32).toInt64), .int (if a1 = 2 then 1 else 0), .int (if a1 = 0 then 99 else if a1 = 1 then 10 else 5)]) (rest := []) F hX hP hD hS hA (c_X4_in_i l E a2 (if a1 = 2 then 1 else 0) (if a1 = 0 then 99 else if a1 = 1 then 10 else 5) H.size) (va_cwS 3 F.2.2.2.2 gX4_hush_X4_in rfl rfl rfl (by decide +kernel) ⟨Nat.le_of_ble_eq_true rfl, Nat.le_of_ble_eq_true rfl⟩) [] rfl rfl rfl hl.1 rfl (Nat.le_of_ble_eq_true rfl) dX4_hush_42 ⟨Nat.le_refl _, Nat.le_refl _⟩) hP hD hS hA [] rfl (fun r _ H locs hq hP hS => ?_)
        subst hq
        refine g_beq (tgt := 52) F dX4_hush_45 (by decide) (fun k3 => ?_) (fun k3 => ?_)
        · refine lv_iconst (v := 0) F.1 F.2.1 dX4_hush_52 (by decide) ?_
          refine g_top (bi (inR a1 0 2 && inR a2 (if a1 = 2 then 1 else 0) (if a1 = 0 then 99 else if a1 = 1 then 10 else 5))) (by simp [bi, k2, k3]) ?_
          exact jn53 _ _ _ hP hD hS (lv_sub hl [0, 1, 2] rfl)
        · refine lv_iconst (v := 1) F.1 F.2.1 dX4_hush_48 (by decide) ?_
          refine lv_goto (tgt := 53) F.1 F.2.1 dX4_hush_49 (by decide) ?_
          refine g_top (bi (inR a1 0 2 && inR a2 (if a1 = 2 then 1 else 0) (if a1 = 0 then 99 else if a1 = 1 then 10 else 5))) (by simp [bi, k2, k3]) ?_
          exact jn53 _ _ _ hP hD hS (lv_sub hl [0, 1, 2] rfl)
      refine lv_if_ne (tgt := 31) F.1 F.2.1 dX4_hush_23 (by decide) (fun k4 => ?_) (fun k4 => ?_)
      · refine lv_iload_n F.1 F.2.1 dX4_hush_31 rfl (lv_at hl 1 rfl) ?_
        refine lv_iconst (v := 1) F.1 F.2.1 dX4_hush_32 (by decide) ?_
        refine lv_icmp_ne (tgt := 41) F.1 F.2.1 dX4_hush_33 (by decide) (fun k5 => ?_) (fun k5 => ?_)
        · refine lv_iconst (v := 5) F.1 F.2.1 dX4_hush_41 (by decide) ?_
          refine g_top (if a1 = 0 then 99 else if a1 = 1 then 10 else 5) (by simp [k2, k4, k5]) ?_
          exact jn42 _ _ _ hP hD hS (lv_sub hl [0, 1, 2] rfl)
        · refine lv_bipush (v := 10) F.1 F.2.1 dX4_hush_36 (by decide) ?_
          refine lv_goto (tgt := 42) F.1 F.2.1 dX4_hush_38 (by decide) ?_
          refine g_top (if a1 = 0 then 99 else if a1 = 1 then 10 else 5) (by simp [k2, k4, k5]) ?_
          exact jn42 _ _ _ hP hD hS (lv_sub hl [0, 1, 2] rfl)
      · refine lv_bipush (v := 99) F.1 F.2.1 dX4_hush_26 (by decide) ?_
        refine lv_goto (tgt := 42) F.1 F.2.1 dX4_hush_28 (by decide) ?_
        refine g_top (if a1 = 0 then 99 else if a1 = 1 then 10 else 5) (by simp [k2, k4]) ?_
        exact jn42 _ _ _ hP hD hS (lv_sub hl [0, 1, 2] rfl)
    refine lv_icmp_ne (tgt := 21) F.1 F.2.1 dX4_hush_14 (by decide) (fun k6 => ?_) (fun k6 => ?_)
    · refine lv_iconst (v := 0) F.1 F.2.1 dX4_hush_21 (by decide) ?_
      refine g_top (if a1 = 2 then 1 else 0) (by simp [k6]) ?_
      exact jn22 _ _ _ hP hD hS (lv_sub hl [0, 1, 2] rfl)
    · refine lv_iconst (v := 1) F.1 F.2.1 dX4_hush_17 (by decide) ?_
      refine lv_goto (tgt := 22) F.1 F.2.1 dX4_hush_18 (by decide) ?_
      refine g_top (if a1 = 2 then 1 else 0) (by simp [k6]) ?_
      exact jn22 _ _ _ hP hD hS (lv_sub hl [0, 1, 2] rfl)
def mn_house (P : Nat) (m fd : Nat → Int32) (a1 a2 : Int32) : Int32 × (Nat → Int32) := if inR a1 0 29 = true ∧ inR a2 0 2 = true then (if a2 = 0 then (m (5 + ix a1), fd) else if a2 = 2 then (whoC (fun j => decide (pf m j 1 = a1)) P, fd) else (bi (tkM (m 0) (m 1) (m 2) (m 3) a1), fd)) else (-1000000001, fn fd 0)
set_option maxHeartbeats 4000000 in
set_option maxRecDepth 100000 in
theorem c_X4_house (l : Launch) (E : gE) (h : Nat) (fs : List Value) (qm : Nat) (qf : Nat) (m : Nat → Int32) (fd : Nat → Int32) (P : Nat) (a1 : Int32) (a2 : Int32) (hf0 : fs[0]? = some (.ref qm)) (hf4 : fs[4]? = some (.ref qf)) (hm4 : m 4 = nI P) (hP8 : P ≤ 8) : gI l yX4_house wsX4_house ({ frames := 4, cells := 0, slots := 0, locals := 81 }) E [(h, .inr (4, fs)), (qm, .inl (eI E, 75, .inl m)), (qf, .inl (eI E, 7, .inl fd))] (fun u : (Nat → Int32) => [(h, .inr (4, fs)), (qm, .inl (eI E, 75, .inl m)), (qf, .inl (eI E, 7, .inl u))]) [.ref h, .int a1, .int a2] (fun (r : Int32) (u : (Nat → Int32)) => (r, u) = mn_house P m fd a1 a2) := by
  have hin4 : ∀ w ∈ wsX40, w ∈ wsX4_house := (fun _ h => (List.mem_cons_of_mem _ (List.mem_append_right _ h)))
  refine gI.of (cc := cX4_house) (maxL := 3) (by decide) rfl (Nat.le_of_ble_eq_true rfl) ?_
  intro pG eG sG mG below meth cG A ls H locs F hr hlk hX hP hD hA hS hl
  have hl : lv_has ls 3 [(0, .ref h), (1, .int a1), (2, .int a2)] := hl
  refine lv_iload_n F.1 F.2.1 dX4_house_0 rfl (lv_at hl 1 rfl) ?_
  refine g_goIr (g_runS (As := [.int a1]) (rest := []) F hX hP hD hS hA (c_X4_isHouse l E a1 H.size) (va_cwS 1 F.2.2.2.2 gX4_house_X4_isHouse rfl rfl rfl (by decide +kernel) ⟨Nat.le_of_ble_eq_true rfl, Nat.le_of_ble_eq_true rfl⟩) [] rfl rfl rfl hl.1 rfl (Nat.le_of_ble_eq_true rfl) dX4_house_1 ⟨Nat.le_refl _, Nat.le_refl _⟩) hP hD hS hA [] rfl (fun r _ H locs hq hP hS => ?_)
  subst hq
  refine g_beq (tgt := 17) F dX4_house_4 (by decide) (fun k1 => ?_) (fun k1 => ?_)
  · refine lv_aload_n F.1 F.2.1 dX4_house_17 rfl (lv_at hl 0 rfl) ?_
    refine lv_ldc (v := (-1000000001)) F.1 F.2.1 F.2.2.2.1 (F.2.2.2.2 _ (mm 1 rfl)) dX4_house_18 ?_
    refine g_goI (wr := [(qm, .inl (eI E, 75, .inl m))]) (g_runV (As := [.int (-1000000001)]) (rest := []) F hX hP hD hS hA (c_X4_finds l E h fs qf fd (-1000000001) 0 (by first | assumption | rfl) (by decide +kernel) (by decide) H.size) (cwV 1 F.2.2.2.2 gX4_house_X4_finds rfl rfl rfl (by decide +kernel) ⟨Nat.le_of_ble_eq_true rfl, Nat.le_of_ble_eq_true rfl⟩) [0, 2] rfl rfl (q0 := 0) (ci := 4) rfl rfl rfl hl.1 rfl (Nat.le_of_ble_eq_true rfl) dX4_house_20 ⟨Nat.le_refl _, Nat.le_refl _⟩) hP hD hS hA [0, 2] [1] rfl rfl rfl (by decide) (fun r _ H locs hq hP hD hS => ?_)
    have hP : va_P (eD E) vwCl [(h, .inr (4, fs)), (qm, .inl (eI E, 75, .inl m)), (qf, .inl (eI E, 7, .inl (upd fd 0 (fd 0 + 1))))] H := hP.sub [1, 0, 2] rfl
    have hD : va_D A [(h, .inr (4, fs)), (qm, .inl (eI E, 75, .inl m)), (qf, .inl (eI E, 7, .inl (upd fd 0 (fd 0 + 1))))] := hD.sub [1, 0, 2] (by decide) rfl
    subst hq
    exact g_reti F hr hlk (vp_nar_int _) hS hP hD (upd fd 0 (fd 0 + 1)) (rfl) (by unfold mn_house; (try simp only [k1, and_self, true_and, and_true, if_true, Bool.false_eq_true, false_and, and_false, if_false]); all_goals simp [fn, k1]) dX4_house_23
  · refine lv_iload_n F.1 F.2.1 dX4_house_7 rfl (lv_at hl 2 rfl) ?_
    refine lv_i2l (v := (a2 : Int32).toInt64) F.1 F.2.1 dX4_house_8 rfl ?_
    refine lv_iconst (v := 0) F.1 F.2.1 dX4_house_9 (by decide) ?_
    refine lv_iconst (v := 2) F.1 F.2.1 dX4_house_10 (by decide) ?_
    refine g_goIr (g_runS (As := [.long ((a2 : Int32).toInt64), .int 0, .int 2]) (rest := []) F hX hP hD hS hA (c_X4_in_i l E a2 0 2 H.size) (va_cwS 3 F.2.2.2.2 gX4_house_X4_in rfl rfl rfl (by decide +kernel) ⟨Nat.le_of_ble_eq_true rfl, Nat.le_of_ble_eq_true rfl⟩) [] rfl rfl rfl hl.1 rfl (Nat.le_of_ble_eq_true rfl) dX4_house_11 ⟨Nat.le_refl _, Nat.le_refl _⟩) hP hD hS hA [] rfl (fun r _ H locs hq hP hS => ?_)
    subst hq
    refine g_bne (tgt := 24) F dX4_house_14 (by decide) (fun k2 => ?_) (fun k2 => ?_)
    · refine lv_iload_n F.1 F.2.1 dX4_house_24 rfl (lv_at hl 2 rfl) ?_
      refine lv_if_ne (tgt := 39) F.1 F.2.1 dX4_house_25 (by decide) (fun k3 => ?_) (fun k3 => ?_)
      · refine lv_iload_n F.1 F.2.1 dX4_house_39 rfl (lv_at hl 2 rfl) ?_
        refine lv_iconst (v := 2) F.1 F.2.1 dX4_house_40 (by decide) ?_
        refine lv_icmp_ne (tgt := 52) F.1 F.2.1 dX4_house_41 (by decide) (fun k4 => ?_) (fun k4 => ?_)
        · refine lv_aload_n F.1 F.2.1 dX4_house_52 rfl (lv_at hl 0 rfl) ?_
          refine lv_iload_n F.1 F.2.1 dX4_house_53 rfl (lv_at hl 1 rfl) ?_
          refine g_goIr (g_runV (As := [.int a1]) (rest := []) F hX hP hD hS hA (c_X4_isTaken l E h fs qm m a1 (by first | assumption | rfl) H.size) (cwV 1 F.2.2.2.2 gX4_house_X4_isTaken rfl rfl rfl (by decide +kernel) ⟨Nat.le_of_ble_eq_true rfl, Nat.le_of_ble_eq_true rfl⟩) [0, 1] rfl rfl (q0 := 0) (ci := 4) rfl rfl rfl hl.1 rfl (Nat.le_of_ble_eq_true rfl) dX4_house_54 ⟨Nat.le_refl _, Nat.le_refl _⟩) hP hD hS hA [0, 1] rfl (fun r _ H locs hq hP hS => ?_)
          subst hq
          have jn65 : ∀ (H : Heap) (locs : List Loc) (ls : Array Slot), va_P (eD E) vwCl [(h, .inr (4, fs)), (qm, .inl (eI E, 75, .inl m)), (qf, .inl (eI E, 7, .inl fd))] H → va_D A [(h, .inr (4, fs)), (qm, .inl (eI E, 75, .inl m)), (qf, .inl (eI E, 7, .inl fd))] → va_S A sG.heap H locs → lv_has ls 3 [(0, .ref h), (1, .int a1), (2, .int a2)] → W pG l eG { frames := 4, cells := 0, slots := 0, locals := 81 } sG mG [.ref h, .int a1, .int a2].toArray below meth cG H locs 0 0 (MQ below (va_Qi (fun (r : Int32) (u : (Nat → Int32)) => (r, u) = mn_house P m fd a1 a2) (gR E (fun u : (Nat → Int32) => [(h, .inr (4, fs)), (qm, .inl (eI E, 75, .inl m)), (qf, .inl (eI E, 7, .inl u))]) A) A) [.ref h, .int a1, .int a2].toArray sG 0 0 A) (F0 mG 65 ls [.int (bi (tkM (m 0) (m 1) (m 2) (m 3) a1))]) := by
            intro H locs ls hP hD hS hl
            exact g_reti F hr hlk (vp_nar_int _) hS hP hD (fd) (rfl) (by unfold mn_house; (try simp only [k1, k2, and_self, true_and, and_true, if_true, Bool.false_eq_true, false_and, and_false, if_false]); all_goals simp [fn, k1, k2, k3, k4]) dX4_house_65
          refine g_beq (tgt := 64) F dX4_house_57 (by decide) (fun k5 => ?_) (fun k5 => ?_)
          · refine lv_iconst (v := 0) F.1 F.2.1 dX4_house_64 (by decide) ?_
            refine g_top (bi (tkM (m 0) (m 1) (m 2) (m 3) a1)) (by simp [bi, k5]) ?_
            exact jn65 _ _ _ hP hD hS (lv_sub hl [0, 1, 2] rfl)
          · refine lv_iconst (v := 1) F.1 F.2.1 dX4_house_60 (by decide) ?_
            refine lv_goto (tgt := 65) F.1 F.2.1 dX4_house_61 (by decide) ?_
            refine g_top (bi (tkM (m 0) (m 1) (m 2) (m 3) a1)) (by simp [bi, k5]) ?_
            exact jn65 _ _ _ hP hD hS (lv_sub hl [0, 1, 2] rfl)
        · refine lv_aload_n F.1 F.2.1 dX4_house_44 rfl (lv_at hl 0 rfl) ?_
          refine lv_iload_n F.1 F.2.1 dX4_house_45 rfl (lv_at hl 1 rfl) ?_
          refine g_goIr (g_runV (As := [.int a1]) (rest := []) F hX hP hD hS hA (c_X4_whoAt l E h fs qm m P a1 (by first | assumption | rfl) (by assumption) (by assumption) H.size) (cwV 1 F.2.2.2.2 gX4_house_X4_whoAt rfl rfl rfl (by decide +kernel) ⟨Nat.le_of_ble_eq_true rfl, Nat.le_of_ble_eq_true rfl⟩) [0, 1] rfl rfl (q0 := 0) (ci := 4) rfl rfl rfl hl.1 rfl (Nat.le_of_ble_eq_true rfl) dX4_house_46 ⟨Nat.le_refl _, Nat.le_refl _⟩) hP hD hS hA [0, 1] rfl (fun r _ H locs hq hP hS => ?_)
          subst hq
          refine lv_goto (tgt := 65) F.1 F.2.1 dX4_house_49 (by decide) ?_
          exact g_reti F hr hlk (vp_nar_int _) hS hP hD (fd) (rfl) (by unfold mn_house; (try simp only [k1, k2, and_self, true_and, and_true, if_true, Bool.false_eq_true, false_and, and_false, if_false]); all_goals simp [fn, k1, k2, k3, k4]) dX4_house_65
      · obtain ⟨e_a1, b_a1⟩ := ix_of 29 k1 (by decide) (by decide)
        have hl : lv_has ls 3 [(0, .ref h), (1, .int (nI (ix a1))), (2, .int a2)] := by rw [← e_a1]; exact hl
        refine lv_aload_n F.1 F.2.1 dX4_house_28 rfl (lv_at hl 0 rfl) ?_
        refine g_get F hX hP hin4 0 rfl rfl 0 (by decide) (mm 2 rfl) hf0 dX4_house_29 ?_
        refine lv_iconst (v := 5) F.1 F.2.1 dX4_house_32 (by decide) ?_
        refine lv_iload_n F.1 F.2.1 dX4_house_33 rfl (lv_at hl 1 rfl) ?_
        refine lv_iadd F.1 F.2.1 dX4_house_34 ?_
        refine g_iald F hX hP 1 rfl (j := 5 + ix a1) (nI_add 5 (ix a1)) (by omega) (by decide) dX4_house_35 ?_
        refine lv_goto (tgt := 65) F.1 F.2.1 dX4_house_36 (by decide) ?_
        exact g_reti F hr hlk (vp_nar_int _) hS hP hD (fd) (rfl) (by unfold mn_house; (try simp only [k1, k2, and_self, true_and, and_true, if_true, Bool.false_eq_true, false_and, and_false, if_false]); all_goals simp [fn, k1, k2, k3]) dX4_house_65
    · refine lv_aload_n F.1 F.2.1 dX4_house_17 rfl (lv_at hl 0 rfl) ?_
      refine lv_ldc (v := (-1000000001)) F.1 F.2.1 F.2.2.2.1 (F.2.2.2.2 _ (mm 1 rfl)) dX4_house_18 ?_
      refine g_goI (wr := [(qm, .inl (eI E, 75, .inl m))]) (g_runV (As := [.int (-1000000001)]) (rest := []) F hX hP hD hS hA (c_X4_finds l E h fs qf fd (-1000000001) 0 (by first | assumption | rfl) (by decide +kernel) (by decide) H.size) (cwV 1 F.2.2.2.2 gX4_house_X4_finds rfl rfl rfl (by decide +kernel) ⟨Nat.le_of_ble_eq_true rfl, Nat.le_of_ble_eq_true rfl⟩) [0, 2] rfl rfl (q0 := 0) (ci := 4) rfl rfl rfl hl.1 rfl (Nat.le_of_ble_eq_true rfl) dX4_house_20 ⟨Nat.le_refl _, Nat.le_refl _⟩) hP hD hS hA [0, 2] [1] rfl rfl rfl (by decide) (fun r _ H locs hq hP hD hS => ?_)
      have hP : va_P (eD E) vwCl [(h, .inr (4, fs)), (qm, .inl (eI E, 75, .inl m)), (qf, .inl (eI E, 7, .inl (upd fd 0 (fd 0 + 1))))] H := hP.sub [1, 0, 2] rfl
      have hD : va_D A [(h, .inr (4, fs)), (qm, .inl (eI E, 75, .inl m)), (qf, .inl (eI E, 7, .inl (upd fd 0 (fd 0 + 1))))] := hD.sub [1, 0, 2] (by decide) rfl
      subst hq
      exact g_reti F hr hlk (vp_nar_int _) hS hP hD (upd fd 0 (fd 0 + 1)) (rfl) (by unfold mn_house; (try simp only [k1, k2, and_self, true_and, and_true, if_true, Bool.false_eq_true, false_and, and_false, if_false]); all_goals simp [fn, k1, k2]) dX4_house_23
def mn_now (P : Nat) (m fd : Nat → Int32) (a1 : Int32) : Int32 × (Nat → Int32) := if a1 = 0 then (m 0, fd) else if a1 = 1 then (day (m 0), fd) else if a1 = 2 then ((bif huM (m 0) (m 1) (m 2) (m 3) then 1 + eg (m 0) (m 1) (m 3) else 0), fd) else if a1 = 3 then (hdM m P, fd) else if a1 = 4 then (whM m P, fd) else if a1 = 5 then (m 1, fd) else if a1 = 6 then (m 2, fd) else if a1 = 7 then (m 3, fd) else (-1000000001, fn fd 0)
set_option maxHeartbeats 4000000 in
set_option maxRecDepth 100000 in
theorem c_X4_now (l : Launch) (E : gE) (h : Nat) (fs : List Value) (qm : Nat) (qf : Nat) (m : Nat → Int32) (fd : Nat → Int32) (P : Nat) (a1 : Int32) (hf0 : fs[0]? = some (.ref qm)) (hf4 : fs[4]? = some (.ref qf)) (hm4 : m 4 = nI P) (hP8 : P ≤ 8) : gI l yX4_now wsX4_now ({ frames := 7, cells := 0, slots := 0, locals := 146 }) E [(h, .inr (4, fs)), (qm, .inl (eI E, 75, .inl m)), (qf, .inl (eI E, 7, .inl fd))] (fun u : (Nat → Int32) => [(h, .inr (4, fs)), (qm, .inl (eI E, 75, .inl m)), (qf, .inl (eI E, 7, .inl u))]) [.ref h, .int a1] (fun (r : Int32) (u : (Nat → Int32)) => (r, u) = mn_now P m fd a1) := by
  have hin4 : ∀ w ∈ wsX40, w ∈ wsX4_now := (fun _ h => (List.mem_cons_of_mem _ (List.mem_append_right _ h)))
  refine gI.of (cc := cX4_now) (maxL := 2) (by decide) rfl (Nat.le_of_ble_eq_true rfl) ?_
  intro pG eG sG mG below meth cG A ls H locs F hr hlk hX hP hD hA hS hl
  have hl : lv_has ls 2 [(0, .ref h), (1, .int a1)] := hl
  refine lv_iload_n F.1 F.2.1 dX4_now_0 rfl (lv_at hl 1 rfl) ?_
  by_cases k1 : a1 = 0
  · refine g_top 0 k1 ?_
    refine lv_tableIn (tgt := 48) F.1 F.2.1 dX4_now_1 (by decide) (by decide) rfl (by decide) ?_
    refine lv_aload_n F.1 F.2.1 dX4_now_48 rfl (lv_at hl 0 rfl) ?_
    refine g_get F hX hP hin4 0 rfl rfl 0 (by decide) (mm 1 rfl) hf0 dX4_now_49 ?_
    refine lv_iconst (v := 0) F.1 F.2.1 dX4_now_52 (by decide) ?_
    refine g_iald F hX hP 1 rfl (j := 0) (rfl) (by decide) (by decide) dX4_now_53 ?_
    exact g_reti F hr hlk (vp_nar_int _) hS hP hD (fd) (rfl) (by unfold mn_now; (try simp only [and_self, true_and, and_true, if_true, Bool.false_eq_true, false_and, and_false, if_false]); all_goals simp [fn, k1]) dX4_now_54
  by_cases k2 : a1 = 1
  · refine g_top 1 k2 ?_
    refine lv_tableIn (tgt := 55) F.1 F.2.1 dX4_now_1 (by decide) (by decide) rfl (by decide) ?_
    refine lv_aload_n F.1 F.2.1 dX4_now_55 rfl (lv_at hl 0 rfl) ?_
    refine g_goIr (g_runV (As := []) (rest := []) F hX hP hD hS hA (c_X4_clock l E h fs qm m (by first | assumption | rfl) H.size) (cwV 0 F.2.2.2.2 gX4_now_X4_clock rfl rfl rfl (by decide +kernel) ⟨Nat.le_of_ble_eq_true rfl, Nat.le_of_ble_eq_true rfl⟩) [0, 1] rfl rfl (q0 := 0) (ci := 4) rfl rfl rfl hl.1 rfl (Nat.le_of_ble_eq_true rfl) dX4_now_56 ⟨Nat.le_refl _, Nat.le_refl _⟩) hP hD hS hA [0, 1] rfl (fun r _ H locs hq hP hS => ?_)
    subst hq
    exact g_reti F hr hlk (vp_nar_int _) hS hP hD (fd) (rfl) (by unfold mn_now; (try simp only [and_self, true_and, and_true, if_true, Bool.false_eq_true, false_and, and_false, if_false]); all_goals simp [fn, k1, k2]) dX4_now_59
  by_cases k3 : a1 = 2
  · refine g_top 2 k3 ?_
    refine lv_tableIn (tgt := 60) F.1 F.2.1 dX4_now_1 (by decide) (by decide) rfl (by decide) ?_
    refine lv_aload_n F.1 F.2.1 dX4_now_60 rfl (lv_at hl 0 rfl) ?_
    refine g_goIr (g_runV (As := []) (rest := []) F hX hP hD hS hA (c_X4_isHush l E h fs qm m (by first | assumption | rfl) H.size) (cwV 0 F.2.2.2.2 gX4_now_X4_isHush rfl rfl rfl (by decide +kernel) ⟨Nat.le_of_ble_eq_true rfl, Nat.le_of_ble_eq_true rfl⟩) [0, 1] rfl rfl (q0 := 0) (ci := 4) rfl rfl rfl hl.1 rfl (Nat.le_of_ble_eq_true rfl) dX4_now_61 ⟨Nat.le_refl _, Nat.le_refl _⟩) hP hD hS hA [0, 1] rfl (fun r _ H locs hq hP hS => ?_)
    subst hq
    refine g_beq (tgt := 76) F dX4_now_64 (by decide) (fun k4 => ?_) (fun k4 => ?_)
    · refine lv_iconst (v := 0) F.1 F.2.1 dX4_now_76 (by decide) ?_
      exact g_reti F hr hlk (vp_nar_int _) hS hP hD (fd) (rfl) (by unfold mn_now; (try simp only [k4, and_self, true_and, and_true, if_true, Bool.false_eq_true, false_and, and_false, if_false]); all_goals simp [fn, k1, k2, k3, k4]) dX4_now_77
    · refine lv_iconst (v := 1) F.1 F.2.1 dX4_now_67 (by decide) ?_
      refine lv_aload_n F.1 F.2.1 dX4_now_68 rfl (lv_at hl 0 rfl) ?_
      refine g_goIr (g_runV (As := []) (rest := [.int 1]) F hX hP hD hS hA (c_X4_edge l E h fs qm m (by first | assumption | rfl) H.size) (cwV 0 F.2.2.2.2 gX4_now_X4_edge rfl rfl rfl (by decide +kernel) ⟨Nat.le_of_ble_eq_true rfl, Nat.le_of_ble_eq_true rfl⟩) [0, 1] rfl rfl (q0 := 0) (ci := 4) rfl rfl rfl hl.1 rfl (Nat.le_of_ble_eq_true rfl) dX4_now_69 ⟨Nat.le_refl _, Nat.le_refl _⟩) hP hD hS hA [0, 1] rfl (fun r _ H locs hq hP hS => ?_)
      subst hq
      refine lv_iadd F.1 F.2.1 dX4_now_72 ?_
      refine lv_goto (tgt := 77) F.1 F.2.1 dX4_now_73 (by decide) ?_
      exact g_reti F hr hlk (vp_nar_int _) hS hP hD (fd) (rfl) (by unfold mn_now; (try simp only [k4, and_self, true_and, and_true, if_true, Bool.false_eq_true, false_and, and_false, if_false]); all_goals simp [fn, k1, k2, k3, k4]) dX4_now_77
  by_cases k5 : a1 = 3
  · refine g_top 3 k5 ?_
    refine lv_tableIn (tgt := 78) F.1 F.2.1 dX4_now_1 (by decide) (by decide) rfl (by decide) ?_
    refine lv_aload_n F.1 F.2.1 dX4_now_78 rfl (lv_at hl 0 rfl) ?_
    refine g_goIr (g_runV (As := []) (rest := []) F hX hP hD hS hA (c_X4_isHeard l E h fs qm m P (by first | assumption | rfl) (by assumption) (by assumption) H.size) (cwV 0 F.2.2.2.2 gX4_now_X4_isHeard rfl rfl rfl (by decide +kernel) ⟨Nat.le_of_ble_eq_true rfl, Nat.le_of_ble_eq_true rfl⟩) [0, 1] rfl rfl (q0 := 0) (ci := 4) rfl rfl rfl hl.1 rfl (Nat.le_of_ble_eq_true rfl) dX4_now_79 ⟨Nat.le_refl _, Nat.le_refl _⟩) hP hD hS hA [0, 1] rfl (fun r _ H locs hq hP hS => ?_)
    subst hq
    exact g_reti F hr hlk (vp_nar_int _) hS hP hD (fd) (rfl) (by unfold mn_now; (try simp only [and_self, true_and, and_true, if_true, Bool.false_eq_true, false_and, and_false, if_false]); all_goals simp [fn, k1, k2, k3, k5]) dX4_now_82
  by_cases k6 : a1 = 4
  · refine g_top 4 k6 ?_
    refine lv_tableIn (tgt := 83) F.1 F.2.1 dX4_now_1 (by decide) (by decide) rfl (by decide) ?_
    refine lv_aload_n F.1 F.2.1 dX4_now_83 rfl (lv_at hl 0 rfl) ?_
    refine g_goIr (g_runV (As := []) (rest := []) F hX hP hD hS hA (c_X4_insiders l E h fs qm m P (by first | assumption | rfl) (by assumption) (by assumption) H.size) (cwV 0 F.2.2.2.2 gX4_now_X4_insiders rfl rfl rfl (by decide +kernel) ⟨Nat.le_of_ble_eq_true rfl, Nat.le_of_ble_eq_true rfl⟩) [0, 1] rfl rfl (q0 := 0) (ci := 4) rfl rfl rfl hl.1 rfl (Nat.le_of_ble_eq_true rfl) dX4_now_84 ⟨Nat.le_refl _, Nat.le_refl _⟩) hP hD hS hA [0, 1] rfl (fun r _ H locs hq hP hS => ?_)
    subst hq
    exact g_reti F hr hlk (vp_nar_int _) hS hP hD (fd) (rfl) (by unfold mn_now; (try simp only [and_self, true_and, and_true, if_true, Bool.false_eq_true, false_and, and_false, if_false]); all_goals simp [fn, k1, k2, k3, k5, k6]) dX4_now_87
  by_cases k7 : a1 = 5
  · refine g_top 5 k7 ?_
    refine lv_tableIn (tgt := 88) F.1 F.2.1 dX4_now_1 (by decide) (by decide) rfl (by decide) ?_
    refine lv_aload_n F.1 F.2.1 dX4_now_88 rfl (lv_at hl 0 rfl) ?_
    refine g_get F hX hP hin4 0 rfl rfl 0 (by decide) (mm 1 rfl) hf0 dX4_now_89 ?_
    refine lv_iconst (v := 1) F.1 F.2.1 dX4_now_92 (by decide) ?_
    refine lv_iload_n F.1 F.2.1 dX4_now_93 rfl (lv_at hl 1 rfl) ?_
    refine lv_iadd F.1 F.2.1 dX4_now_94 ?_
    refine lv_iconst (v := 5) F.1 F.2.1 dX4_now_95 (by decide) ?_
    refine lv_isub F.1 F.2.1 dX4_now_96 ?_
    refine g_iald F hX hP 1 rfl (j := ix a1 - 4) (by rw [k7]; rfl) (by rw [k7]; decide) (by decide) dX4_now_97 ?_
    exact g_reti F hr hlk (vp_nar_int _) hS hP hD (fd) (rfl) (by rw [k7]; rfl) dX4_now_98
  by_cases k8 : a1 = 6
  · refine g_top 6 k8 ?_
    refine lv_tableIn (tgt := 88) F.1 F.2.1 dX4_now_1 (by decide) (by decide) rfl (by decide) ?_
    refine lv_aload_n F.1 F.2.1 dX4_now_88 rfl (lv_at hl 0 rfl) ?_
    refine g_get F hX hP hin4 0 rfl rfl 0 (by decide) (mm 1 rfl) hf0 dX4_now_89 ?_
    refine lv_iconst (v := 1) F.1 F.2.1 dX4_now_92 (by decide) ?_
    refine lv_iload_n F.1 F.2.1 dX4_now_93 rfl (lv_at hl 1 rfl) ?_
    refine lv_iadd F.1 F.2.1 dX4_now_94 ?_
    refine lv_iconst (v := 5) F.1 F.2.1 dX4_now_95 (by decide) ?_
    refine lv_isub F.1 F.2.1 dX4_now_96 ?_
    refine g_iald F hX hP 1 rfl (j := ix a1 - 4) (by rw [k8]; rfl) (by rw [k8]; decide) (by decide) dX4_now_97 ?_
    exact g_reti F hr hlk (vp_nar_int _) hS hP hD (fd) (rfl) (by rw [k8]; rfl) dX4_now_98
  by_cases k9 : a1 = 7
  · refine g_top 7 k9 ?_
    refine lv_tableIn (tgt := 88) F.1 F.2.1 dX4_now_1 (by decide) (by decide) rfl (by decide) ?_
    refine lv_aload_n F.1 F.2.1 dX4_now_88 rfl (lv_at hl 0 rfl) ?_
    refine g_get F hX hP hin4 0 rfl rfl 0 (by decide) (mm 1 rfl) hf0 dX4_now_89 ?_
    refine lv_iconst (v := 1) F.1 F.2.1 dX4_now_92 (by decide) ?_
    refine lv_iload_n F.1 F.2.1 dX4_now_93 rfl (lv_at hl 1 rfl) ?_
    refine lv_iadd F.1 F.2.1 dX4_now_94 ?_
    refine lv_iconst (v := 5) F.1 F.2.1 dX4_now_95 (by decide) ?_
    refine lv_isub F.1 F.2.1 dX4_now_96 ?_
    refine g_iald F hX hP 1 rfl (j := ix a1 - 4) (by rw [k9]; rfl) (by rw [k9]; decide) (by decide) dX4_now_97 ?_
    exact g_reti F hr hlk (vp_nar_int _) hS hP hD (fd) (rfl) (by rw [k9]; rfl) dX4_now_98
  refine lv_tableOut (tgt := 99) F.1 F.2.1 dX4_now_1 (t_out a1 0 7 (fun kk h1 h2 => by rcases (show kk = 0 ∨ kk = 1 ∨ kk = 2 ∨ kk = 3 ∨ kk = 4 ∨ kk = 5 ∨ kk = 6 ∨ kk = 7 by omega) with rfl | rfl | rfl | rfl | rfl | rfl | rfl | rfl <;> assumption)) (by decide) ?_
  refine lv_aload_n F.1 F.2.1 dX4_now_99 rfl (lv_at hl 0 rfl) ?_
  refine lv_ldc (v := (-1000000001)) F.1 F.2.1 F.2.2.2.1 (F.2.2.2.2 _ (mm 2 rfl)) dX4_now_100 ?_
  refine g_goI (wr := [(qm, .inl (eI E, 75, .inl m))]) (g_runV (As := [.int (-1000000001)]) (rest := []) F hX hP hD hS hA (c_X4_finds l E h fs qf fd (-1000000001) 0 (by first | assumption | rfl) (by decide +kernel) (by decide) H.size) (cwV 1 F.2.2.2.2 gX4_now_X4_finds rfl rfl rfl (by decide +kernel) ⟨Nat.le_of_ble_eq_true rfl, Nat.le_of_ble_eq_true rfl⟩) [0, 2] rfl rfl (q0 := 0) (ci := 4) rfl rfl rfl hl.1 rfl (Nat.le_of_ble_eq_true rfl) dX4_now_102 ⟨Nat.le_refl _, Nat.le_refl _⟩) hP hD hS hA [0, 2] [1] rfl rfl rfl (by decide) (fun r _ H locs hq hP hD hS => ?_)
  have hP : va_P (eD E) vwCl [(h, .inr (4, fs)), (qm, .inl (eI E, 75, .inl m)), (qf, .inl (eI E, 7, .inl (upd fd 0 (fd 0 + 1))))] H := hP.sub [1, 0, 2] rfl
  have hD : va_D A [(h, .inr (4, fs)), (qm, .inl (eI E, 75, .inl m)), (qf, .inl (eI E, 7, .inl (upd fd 0 (fd 0 + 1))))] := hD.sub [1, 0, 2] (by decide) rfl
  subst hq
  exact g_reti F hr hlk (vp_nar_int _) hS hP hD (upd fd 0 (fd 0 + 1)) (rfl) (by unfold mn_now; (try simp only [and_self, true_and, and_true, if_true, Bool.false_eq_true, false_and, and_false, if_false]); all_goals simp [fn, k1, k2, k3, k5, k6, k7, k8, k9]) dX4_now_105
def mn_person (P : Nat) (m fd : Nat → Int32) (a1 a2 : Int32) : Int32 × (Nat → Int32) × (Nat → Int32) := if inR a1 0 5 = true ∧ inR a2 0 29 = true then (if P < 8 then (nI P, pu (pu (pu (pu (pu (upd m 4 (nI (P + 1))) P 0 a1) P 1 a2) P 2 0) P 3 0) P 4 0, fd) else (-1000000002, m, fn fd 1)) else (-1000000001, m, fn fd 0)
set_option maxHeartbeats 4000000 in
set_option maxRecDepth 100000 in
theorem c_X4_person (l : Launch) (E : gE) (h : Nat) (fs : List Value) (qm : Nat) (qf : Nat) (m : Nat → Int32) (fd : Nat → Int32) (P : Nat) (a1 : Int32) (a2 : Int32) (hf0 : fs[0]? = some (.ref qm)) (hf4 : fs[4]? = some (.ref qf)) (hm4 : m 4 = nI P) (hP8 : P ≤ 8) : gI l yX4_person wsX4_person ({ frames := 2, cells := 0, slots := 0, locals := 46 }) E [(h, .inr (4, fs)), (qm, .inl (eI E, 75, .inl m)), (qf, .inl (eI E, 7, .inl fd))] (fun u : (Nat → Int32) × (Nat → Int32) => [(h, .inr (4, fs)), (qm, .inl (eI E, 75, .inl u.1)), (qf, .inl (eI E, 7, .inl u.2))]) [.ref h, .int a1, .int a2] (fun (r : Int32) (u : (Nat → Int32) × (Nat → Int32)) => (r, u) = mn_person P m fd a1 a2) := by
  have hin4 : ∀ w ∈ wsX40, w ∈ wsX4_person := (fun _ h => (List.mem_cons_of_mem _ (List.mem_append_right _ h)))
  refine gI.of (cc := cX4_person) (maxL := 3) (by decide) rfl (Nat.le_of_ble_eq_true rfl) ?_
  intro pG eG sG mG below meth cG A ls H locs F hr hlk hX hP hD hA hS hl
  have hl : lv_has ls 3 [(0, .ref h), (1, .int a1), (2, .int a2)] := hl
  refine lv_iload_n F.1 F.2.1 dX4_person_0 rfl (lv_at hl 1 rfl) ?_
  refine lv_i2l (v := (a1 : Int32).toInt64) F.1 F.2.1 dX4_person_1 rfl ?_
  refine lv_iconst (v := 0) F.1 F.2.1 dX4_person_2 (by decide) ?_
  refine lv_iconst (v := 5) F.1 F.2.1 dX4_person_3 (by decide) ?_
  refine g_goIr (g_runS (As := [.long ((a1 : Int32).toInt64), .int 0, .int 5]) (rest := []) F hX hP hD hS hA (c_X4_in_i l E a1 0 5 H.size) (va_cwS 3 F.2.2.2.2 gX4_person_X4_in rfl rfl rfl (by decide +kernel) ⟨Nat.le_of_ble_eq_true rfl, Nat.le_of_ble_eq_true rfl⟩) [] rfl rfl rfl hl.1 rfl (Nat.le_of_ble_eq_true rfl) dX4_person_4 ⟨Nat.le_refl _, Nat.le_refl _⟩) hP hD hS hA [] rfl (fun r _ H locs hq hP hS => ?_)
  subst hq
  refine g_beq (tgt := 17) F dX4_person_7 (by decide) (fun k1 => ?_) (fun k1 => ?_)
  · refine lv_aload_n F.1 F.2.1 dX4_person_17 rfl (lv_at hl 0 rfl) ?_
    refine lv_ldc (v := (-1000000001)) F.1 F.2.1 F.2.2.2.1 (F.2.2.2.2 _ (mm 1 rfl)) dX4_person_18 ?_
    refine g_goI (wr := [(qm, .inl (eI E, 75, .inl m))]) (g_runV (As := [.int (-1000000001)]) (rest := []) F hX hP hD hS hA (c_X4_finds l E h fs qf fd (-1000000001) 0 (by first | assumption | rfl) (by decide +kernel) (by decide) H.size) (cwV 1 F.2.2.2.2 gX4_person_X4_finds rfl rfl rfl (by decide +kernel) ⟨Nat.le_of_ble_eq_true rfl, Nat.le_of_ble_eq_true rfl⟩) [0, 2] rfl rfl (q0 := 0) (ci := 4) rfl rfl rfl hl.1 rfl (Nat.le_of_ble_eq_true rfl) dX4_person_20 ⟨Nat.le_refl _, Nat.le_refl _⟩) hP hD hS hA [0, 2] [1] rfl rfl rfl (by decide) (fun r _ H locs hq hP hD hS => ?_)
    have hP : va_P (eD E) vwCl [(h, .inr (4, fs)), (qm, .inl (eI E, 75, .inl m)), (qf, .inl (eI E, 7, .inl (upd fd 0 (fd 0 + 1))))] H := hP.sub [1, 0, 2] rfl
    have hD : va_D A [(h, .inr (4, fs)), (qm, .inl (eI E, 75, .inl m)), (qf, .inl (eI E, 7, .inl (upd fd 0 (fd 0 + 1))))] := hD.sub [1, 0, 2] (by decide) rfl
    subst hq
    exact g_reti F hr hlk (vp_nar_int _) hS hP hD ((m, upd fd 0 (fd 0 + 1))) (rfl) (by unfold mn_person; (try simp only [k1, and_self, true_and, and_true, if_true, Bool.false_eq_true, false_and, and_false, if_false]); all_goals simp [fn, k1]) dX4_person_23
  · refine lv_iload_n F.1 F.2.1 dX4_person_10 rfl (lv_at hl 2 rfl) ?_
    refine g_goIr (g_runS (As := [.int a2]) (rest := []) F hX hP hD hS hA (c_X4_isHouse l E a2 H.size) (va_cwS 1 F.2.2.2.2 gX4_person_X4_isHouse rfl rfl rfl (by decide +kernel) ⟨Nat.le_of_ble_eq_true rfl, Nat.le_of_ble_eq_true rfl⟩) [] rfl rfl rfl hl.1 rfl (Nat.le_of_ble_eq_true rfl) dX4_person_11 ⟨Nat.le_refl _, Nat.le_refl _⟩) hP hD hS hA [] rfl (fun r _ H locs hq hP hS => ?_)
    subst hq
    refine g_bne (tgt := 24) F dX4_person_14 (by decide) (fun k2 => ?_) (fun k2 => ?_)
    · refine lv_aload_n F.1 F.2.1 dX4_person_24 rfl (lv_at hl 0 rfl) ?_
      refine g_get F hX hP hin4 0 rfl rfl 0 (by decide) (mm 2 rfl) hf0 dX4_person_25 ?_
      refine lv_iconst (v := 4) F.1 F.2.1 dX4_person_28 (by decide) ?_
      refine g_iald F hX hP 1 rfl (j := 4) (rfl) (by decide) (by decide) dX4_person_29 ?_
      refine g_top (nI P) (hm4) ?_
      refine lv_bipush (v := 8) F.1 F.2.1 dX4_person_30 (by decide) ?_
      have hm8 := hm4
      refine lv_icmp_ne (tgt := 44) F.1 F.2.1 dX4_person_32 (by decide) (fun k3 => ?_) (fun k3 => ?_)
      · have hP7 : P < 8 := Nat.lt_of_le_of_ne hP8 (fun h => k3 (by rw [h]; rfl))
        refine lv_aload_n F.1 F.2.1 dX4_person_44 rfl (lv_at hl 0 rfl) ?_
        refine lv_iload_n F.1 F.2.1 dX4_person_45 rfl (lv_at hl 1 rfl) ?_
        refine lv_iload_n F.1 F.2.1 dX4_person_46 rfl (lv_at hl 2 rfl) ?_
        refine g_goI (wr := [(qf, .inl (eI E, 7, .inl fd))]) (g_runV (As := [.int a1, .int a2]) (rest := []) F hX hP hD hS hA (c_X4_comesAs l E h fs qm m P a1 a2 (by first | assumption | rfl) (by assumption) (hP7) H.size) (cwV 2 F.2.2.2.2 gX4_person_X4_comesAs rfl rfl rfl (by decide +kernel) ⟨Nat.le_of_ble_eq_true rfl, Nat.le_of_ble_eq_true rfl⟩) [0, 1] rfl rfl (q0 := 0) (ci := 4) rfl rfl rfl hl.1 rfl (Nat.le_of_ble_eq_true rfl) dX4_person_47 ⟨Nat.le_refl _, Nat.le_refl _⟩) hP hD hS hA [0, 1] [2] rfl rfl rfl (by decide) (fun r _ H locs hq hP hD hS => ?_)
        have hP : va_P (eD E) vwCl [(h, .inr (4, fs)), (qm, .inl (eI E, 75, .inl (pu (pu (pu (pu (pu (upd m 4 (nI (P + 1))) P 0 a1) P 1 a2) P 2 0) P 3 0) P 4 0))), (qf, .inl (eI E, 7, .inl fd))] H := hP.sub [1, 2, 0] rfl
        have hD : va_D A [(h, .inr (4, fs)), (qm, .inl (eI E, 75, .inl (pu (pu (pu (pu (pu (upd m 4 (nI (P + 1))) P 0 a1) P 1 a2) P 2 0) P 3 0) P 4 0))), (qf, .inl (eI E, 7, .inl fd))] := hD.sub [1, 2, 0] (by decide) rfl
        subst hq
        exact g_reti F hr hlk (vp_nar_int _) hS hP hD ((pu (pu (pu (pu (pu (upd m 4 (nI (P + 1))) P 0 a1) P 1 a2) P 2 0) P 3 0) P 4 0, fd)) (rfl) (by unfold mn_person; (try simp only [k1, k2, and_self, true_and, and_true, if_true, Bool.false_eq_true, false_and, and_false, if_false]); all_goals simp [fn, hP7, k1, k2, k3]) dX4_person_50
      · have hP7 : ¬ P < 8 := fun h => absurd ((nI_eq (by omega) (by decide)).mp (show nI P = nI 8 from k3)) (by omega)
        refine lv_aload_n F.1 F.2.1 dX4_person_35 rfl (lv_at hl 0 rfl) ?_
        refine lv_ldc (v := (-1000000002)) F.1 F.2.1 F.2.2.2.1 (F.2.2.2.2 _ (mm 3 rfl)) dX4_person_36 ?_
        refine g_goI (wr := [(qm, .inl (eI E, 75, .inl m))]) (g_runV (As := [.int (-1000000002)]) (rest := []) F hX hP hD hS hA (c_X4_finds l E h fs qf fd (-1000000002) 1 (by first | assumption | rfl) (by decide +kernel) (by decide) H.size) (cwV 1 F.2.2.2.2 gX4_person_X4_finds rfl rfl rfl (by decide +kernel) ⟨Nat.le_of_ble_eq_true rfl, Nat.le_of_ble_eq_true rfl⟩) [0, 2] rfl rfl (q0 := 0) (ci := 4) rfl rfl rfl hl.1 rfl (Nat.le_of_ble_eq_true rfl) dX4_person_38 ⟨Nat.le_refl _, Nat.le_refl _⟩) hP hD hS hA [0, 2] [1] rfl rfl rfl (by decide) (fun r _ H locs hq hP hD hS => ?_)
        have hP : va_P (eD E) vwCl [(h, .inr (4, fs)), (qm, .inl (eI E, 75, .inl m)), (qf, .inl (eI E, 7, .inl (upd fd 1 (fd 1 + 1))))] H := hP.sub [1, 0, 2] rfl
        have hD : va_D A [(h, .inr (4, fs)), (qm, .inl (eI E, 75, .inl m)), (qf, .inl (eI E, 7, .inl (upd fd 1 (fd 1 + 1))))] := hD.sub [1, 0, 2] (by decide) rfl
        subst hq
        refine lv_goto (tgt := 50) F.1 F.2.1 dX4_person_41 (by decide) ?_
        exact g_reti F hr hlk (vp_nar_int _) hS hP hD ((m, upd fd 1 (fd 1 + 1))) (rfl) (by unfold mn_person; (try simp only [k1, k2, and_self, true_and, and_true, if_true, Bool.false_eq_true, false_and, and_false, if_false]); all_goals simp [fn, hP7, k1, k2, k3]) dX4_person_50
    · refine lv_aload_n F.1 F.2.1 dX4_person_17 rfl (lv_at hl 0 rfl) ?_
      refine lv_ldc (v := (-1000000001)) F.1 F.2.1 F.2.2.2.1 (F.2.2.2.2 _ (mm 1 rfl)) dX4_person_18 ?_
      refine g_goI (wr := [(qm, .inl (eI E, 75, .inl m))]) (g_runV (As := [.int (-1000000001)]) (rest := []) F hX hP hD hS hA (c_X4_finds l E h fs qf fd (-1000000001) 0 (by first | assumption | rfl) (by decide +kernel) (by decide) H.size) (cwV 1 F.2.2.2.2 gX4_person_X4_finds rfl rfl rfl (by decide +kernel) ⟨Nat.le_of_ble_eq_true rfl, Nat.le_of_ble_eq_true rfl⟩) [0, 2] rfl rfl (q0 := 0) (ci := 4) rfl rfl rfl hl.1 rfl (Nat.le_of_ble_eq_true rfl) dX4_person_20 ⟨Nat.le_refl _, Nat.le_refl _⟩) hP hD hS hA [0, 2] [1] rfl rfl rfl (by decide) (fun r _ H locs hq hP hD hS => ?_)
      have hP : va_P (eD E) vwCl [(h, .inr (4, fs)), (qm, .inl (eI E, 75, .inl m)), (qf, .inl (eI E, 7, .inl (upd fd 0 (fd 0 + 1))))] H := hP.sub [1, 0, 2] rfl
      have hD : va_D A [(h, .inr (4, fs)), (qm, .inl (eI E, 75, .inl m)), (qf, .inl (eI E, 7, .inl (upd fd 0 (fd 0 + 1))))] := hD.sub [1, 0, 2] (by decide) rfl
      subst hq
      exact g_reti F hr hlk (vp_nar_int _) hS hP hD ((m, upd fd 0 (fd 0 + 1))) (rfl) (by unfold mn_person; (try simp only [k1, k2, and_self, true_and, and_true, if_true, Bool.false_eq_true, false_and, and_false, if_false]); all_goals simp [fn, k1, k2]) dX4_person_23
def mn_of (P : Nat) (m fd : Nat → Int32) (a1 a2 : Int32) : Int32 × (Nat → Int32) := if inR a1 0 (nI P - 1) = true ∧ inR a2 0 7 = true then (if a2 = 4 then (100 + gqM (m 0) (m 1) (m 2) (m 3) (pf m (ix a1) 0) (pf m (ix a1) 1), fd) else if a2 = 5 then (taM (m 0) (m 1) (m 2) (m 3) (pf m (ix a1) 0) (pf m (ix a1) 1), fd) else if a2 = 6 then (bi (soC (pf m (ix a1) 0) (pf m (ix a1) 3)), fd) else if a2 = 7 then (pf m (ix a1) 4, fd) else (pf m (ix a1) (ix a2), fd)) else (-1000000001, fn fd 0)
set_option maxHeartbeats 4000000 in
set_option maxRecDepth 100000 in
theorem c_X4_of (l : Launch) (E : gE) (h : Nat) (fs : List Value) (qm : Nat) (qf : Nat) (m : Nat → Int32) (fd : Nat → Int32) (P : Nat) (a1 : Int32) (a2 : Int32) (hf0 : fs[0]? = some (.ref qm)) (hf4 : fs[4]? = some (.ref qf)) (hm4 : m 4 = nI P) (hP8 : P ≤ 8) : gI l yX4_of wsX4_of ({ frames := 6, cells := 0, slots := 0, locals := 126 }) E [(h, .inr (4, fs)), (qm, .inl (eI E, 75, .inl m)), (qf, .inl (eI E, 7, .inl fd))] (fun u : (Nat → Int32) => [(h, .inr (4, fs)), (qm, .inl (eI E, 75, .inl m)), (qf, .inl (eI E, 7, .inl u))]) [.ref h, .int a1, .int a2] (fun (r : Int32) (u : (Nat → Int32)) => (r, u) = mn_of P m fd a1 a2) := by
  refine gI.of (cc := cX4_of) (maxL := 3) (by decide) rfl (Nat.le_of_ble_eq_true rfl) ?_
  intro pG eG sG mG below meth cG A ls H locs F hr hlk hX hP hD hA hS hl
  have hl : lv_has ls 3 [(0, .ref h), (1, .int a1), (2, .int a2)] := hl
  refine lv_aload_n F.1 F.2.1 dX4_of_0 rfl (lv_at hl 0 rfl) ?_
  refine lv_iload_n F.1 F.2.1 dX4_of_1 rfl (lv_at hl 1 rfl) ?_
  refine g_goIr (g_runV (As := [.int a1]) (rest := []) F hX hP hD hS hA (c_X4_isPerson l E h fs qm m P a1 (by first | assumption | rfl) (by assumption) H.size) (cwV 1 F.2.2.2.2 gX4_of_X4_isPerson rfl rfl rfl (by decide +kernel) ⟨Nat.le_of_ble_eq_true rfl, Nat.le_of_ble_eq_true rfl⟩) [0, 1] rfl rfl (q0 := 0) (ci := 4) rfl rfl rfl hl.1 rfl (Nat.le_of_ble_eq_true rfl) dX4_of_2 ⟨Nat.le_refl _, Nat.le_refl _⟩) hP hD hS hA [0, 1] rfl (fun r _ H locs hq hP hS => ?_)
  subst hq
  refine g_beq (tgt := 19) F dX4_of_5 (by decide) (fun k1 => ?_) (fun k1 => ?_)
  · refine lv_aload_n F.1 F.2.1 dX4_of_19 rfl (lv_at hl 0 rfl) ?_
    refine lv_ldc (v := (-1000000001)) F.1 F.2.1 F.2.2.2.1 (F.2.2.2.2 _ (mm 1 rfl)) dX4_of_20 ?_
    refine g_goI (wr := [(qm, .inl (eI E, 75, .inl m))]) (g_runV (As := [.int (-1000000001)]) (rest := []) F hX hP hD hS hA (c_X4_finds l E h fs qf fd (-1000000001) 0 (by first | assumption | rfl) (by decide +kernel) (by decide) H.size) (cwV 1 F.2.2.2.2 gX4_of_X4_finds rfl rfl rfl (by decide +kernel) ⟨Nat.le_of_ble_eq_true rfl, Nat.le_of_ble_eq_true rfl⟩) [0, 2] rfl rfl (q0 := 0) (ci := 4) rfl rfl rfl hl.1 rfl (Nat.le_of_ble_eq_true rfl) dX4_of_22 ⟨Nat.le_refl _, Nat.le_refl _⟩) hP hD hS hA [0, 2] [1] rfl rfl rfl (by decide) (fun r _ H locs hq hP hD hS => ?_)
    have hP : va_P (eD E) vwCl [(h, .inr (4, fs)), (qm, .inl (eI E, 75, .inl m)), (qf, .inl (eI E, 7, .inl (upd fd 0 (fd 0 + 1))))] H := hP.sub [1, 0, 2] rfl
    have hD : va_D A [(h, .inr (4, fs)), (qm, .inl (eI E, 75, .inl m)), (qf, .inl (eI E, 7, .inl (upd fd 0 (fd 0 + 1))))] := hD.sub [1, 0, 2] (by decide) rfl
    subst hq
    exact g_reti F hr hlk (vp_nar_int _) hS hP hD (upd fd 0 (fd 0 + 1)) (rfl) (by unfold mn_of; (try simp only [k1, and_self, true_and, and_true, if_true, Bool.false_eq_true, false_and, and_false, if_false]); all_goals simp [fn, k1]) dX4_of_25
  · refine lv_iload_n F.1 F.2.1 dX4_of_8 rfl (lv_at hl 2 rfl) ?_
    refine lv_i2l (v := (a2 : Int32).toInt64) F.1 F.2.1 dX4_of_9 rfl ?_
    refine lv_iconst (v := 0) F.1 F.2.1 dX4_of_10 (by decide) ?_
    refine lv_bipush (v := 7) F.1 F.2.1 dX4_of_11 (by decide) ?_
    refine g_goIr (g_runS (As := [.long ((a2 : Int32).toInt64), .int 0, .int 7]) (rest := []) F hX hP hD hS hA (c_X4_in_i l E a2 0 7 H.size) (va_cwS 3 F.2.2.2.2 gX4_of_X4_in rfl rfl rfl (by decide +kernel) ⟨Nat.le_of_ble_eq_true rfl, Nat.le_of_ble_eq_true rfl⟩) [] rfl rfl rfl hl.1 rfl (Nat.le_of_ble_eq_true rfl) dX4_of_13 ⟨Nat.le_refl _, Nat.le_refl _⟩) hP hD hS hA [] rfl (fun r _ H locs hq hP hS => ?_)
    subst hq
    refine g_bne (tgt := 26) F dX4_of_16 (by decide) (fun k2 => ?_) (fun k2 => ?_)
    · have kQ := k2
      obtain ⟨e_a1, b_a1⟩ := ix_person k1 hP8
      have hl : lv_has ls 3 [(0, .ref h), (1, .int (nI (ix a1))), (2, .int a2)] := by rw [← e_a1]; exact hl
      refine lv_iload_n F.1 F.2.1 dX4_of_26 rfl (lv_at hl 2 rfl) ?_
      by_cases k3 : a2 = 4
      · refine g_top 4 k3 ?_
        refine lv_tableIn (tgt := 56) F.1 F.2.1 dX4_of_27 (by decide) (by decide) rfl (by decide) ?_
        refine lv_bipush (v := 100) F.1 F.2.1 dX4_of_56 (by decide) ?_
        refine lv_aload_n F.1 F.2.1 dX4_of_58 rfl (lv_at hl 0 rfl) ?_
        refine lv_iload_n F.1 F.2.1 dX4_of_59 rfl (lv_at hl 1 rfl) ?_
        refine g_goIr (g_runV (As := [.int (nI (ix a1))]) (rest := [.int 100]) F hX hP hD hS hA (c_X4_goesBy l E h fs qm m (ix a1) (by first | assumption | rfl) (by omega) H.size) (cwV 1 F.2.2.2.2 gX4_of_X4_goesBy rfl rfl rfl (by decide +kernel) ⟨Nat.le_of_ble_eq_true rfl, Nat.le_of_ble_eq_true rfl⟩) [0, 1] rfl rfl (q0 := 0) (ci := 4) rfl rfl rfl hl.1 rfl (Nat.le_of_ble_eq_true rfl) dX4_of_60 ⟨Nat.le_refl _, Nat.le_refl _⟩) hP hD hS hA [0, 1] rfl (fun r _ H locs hq hP hS => ?_)
        subst hq
        refine lv_iadd F.1 F.2.1 dX4_of_63 ?_
        exact g_reti F hr hlk (vp_nar_int _) hS hP hD (fd) (rfl) (by unfold mn_of; (try simp only [k1, k2, and_self, true_and, and_true, if_true, Bool.false_eq_true, false_and, and_false, if_false]); all_goals simp [fn, k1, k2, k3]) dX4_of_64
      by_cases k4 : a2 = 5
      · refine g_top 5 k4 ?_
        refine lv_tableIn (tgt := 65) F.1 F.2.1 dX4_of_27 (by decide) (by decide) rfl (by decide) ?_
        refine lv_aload_n F.1 F.2.1 dX4_of_65 rfl (lv_at hl 0 rfl) ?_
        refine lv_iload_n F.1 F.2.1 dX4_of_66 rfl (lv_at hl 1 rfl) ?_
        refine g_goIr (g_runV (As := [.int (nI (ix a1))]) (rest := []) F hX hP hD hS hA (c_X4_talks l E h fs qm m (ix a1) (by first | assumption | rfl) (by omega) H.size) (cwV 1 F.2.2.2.2 gX4_of_X4_talks rfl rfl rfl (by decide +kernel) ⟨Nat.le_of_ble_eq_true rfl, Nat.le_of_ble_eq_true rfl⟩) [0, 1] rfl rfl (q0 := 0) (ci := 4) rfl rfl rfl hl.1 rfl (Nat.le_of_ble_eq_true rfl) dX4_of_67 ⟨Nat.le_refl _, Nat.le_refl _⟩) hP hD hS hA [0, 1] rfl (fun r _ H locs hq hP hS => ?_)
        subst hq
        exact g_reti F hr hlk (vp_nar_int _) hS hP hD (fd) (rfl) (by unfold mn_of; (try simp only [k1, k2, and_self, true_and, and_true, if_true, Bool.false_eq_true, false_and, and_false, if_false]); all_goals simp [fn, k1, k2, k3, k4]) dX4_of_70
      by_cases k5 : a2 = 6
      · refine g_top 6 k5 ?_
        refine lv_tableIn (tgt := 71) F.1 F.2.1 dX4_of_27 (by decide) (by decide) rfl (by decide) ?_
        refine lv_aload_n F.1 F.2.1 dX4_of_71 rfl (lv_at hl 0 rfl) ?_
        refine lv_iload_n F.1 F.2.1 dX4_of_72 rfl (lv_at hl 1 rfl) ?_
        refine g_goIr (g_runV (As := [.int (nI (ix a1))]) (rest := []) F hX hP hD hS hA (c_X4_stepsOver l E h fs qm m (ix a1) (by first | assumption | rfl) (by omega) H.size) (cwV 1 F.2.2.2.2 gX4_of_X4_stepsOver rfl rfl rfl (by decide +kernel) ⟨Nat.le_of_ble_eq_true rfl, Nat.le_of_ble_eq_true rfl⟩) [0, 1] rfl rfl (q0 := 0) (ci := 4) rfl rfl rfl hl.1 rfl (Nat.le_of_ble_eq_true rfl) dX4_of_73 ⟨Nat.le_refl _, Nat.le_refl _⟩) hP hD hS hA [0, 1] rfl (fun r _ H locs hq hP hS => ?_)
        subst hq
        have jn84 : ∀ (H : Heap) (locs : List Loc) (ls : Array Slot), va_P (eD E) vwCl [(h, .inr (4, fs)), (qm, .inl (eI E, 75, .inl m)), (qf, .inl (eI E, 7, .inl fd))] H → va_D A [(h, .inr (4, fs)), (qm, .inl (eI E, 75, .inl m)), (qf, .inl (eI E, 7, .inl fd))] → va_S A sG.heap H locs → lv_has ls 3 [(0, .ref h), (1, .int (nI (ix a1))), (2, .int a2)] → W pG l eG { frames := 6, cells := 0, slots := 0, locals := 126 } sG mG [.ref h, .int a1, .int a2].toArray below meth cG H locs 0 0 (MQ below (va_Qi (fun (r : Int32) (u : (Nat → Int32)) => (r, u) = mn_of P m fd a1 a2) (gR E (fun u : (Nat → Int32) => [(h, .inr (4, fs)), (qm, .inl (eI E, 75, .inl m)), (qf, .inl (eI E, 7, .inl u))]) A) A) [.ref h, .int a1, .int a2].toArray sG 0 0 A) (F0 mG 84 ls [.int (bi (soC (pf m (ix a1) 0) (pf m (ix a1) 3)))]) := by
          intro H locs ls hP hD hS hl
          exact g_reti F hr hlk (vp_nar_int _) hS hP hD (fd) (rfl) (by unfold mn_of; (try simp only [k1, k2, and_self, true_and, and_true, if_true, Bool.false_eq_true, false_and, and_false, if_false]); all_goals simp [fn, k1, k2, k3, k4, k5]) dX4_of_84
        refine g_beq (tgt := 83) F dX4_of_76 (by decide) (fun k6 => ?_) (fun k6 => ?_)
        · refine lv_iconst (v := 0) F.1 F.2.1 dX4_of_83 (by decide) ?_
          refine g_top (bi (soC (pf m (ix a1) 0) (pf m (ix a1) 3))) (by simp [bi, k6]) ?_
          exact jn84 _ _ _ hP hD hS (lv_sub hl [0, 1, 2] rfl)
        · refine lv_iconst (v := 1) F.1 F.2.1 dX4_of_79 (by decide) ?_
          refine lv_goto (tgt := 84) F.1 F.2.1 dX4_of_80 (by decide) ?_
          refine g_top (bi (soC (pf m (ix a1) 0) (pf m (ix a1) 3))) (by simp [bi, k6]) ?_
          exact jn84 _ _ _ hP hD hS (lv_sub hl [0, 1, 2] rfl)
      by_cases k7 : a2 = 7
      · refine g_top 7 k7 ?_
        refine lv_tableIn (tgt := 85) F.1 F.2.1 dX4_of_27 (by decide) (by decide) rfl (by decide) ?_
        refine lv_aload_n F.1 F.2.1 dX4_of_85 rfl (lv_at hl 0 rfl) ?_
        refine lv_iload_n F.1 F.2.1 dX4_of_86 rfl (lv_at hl 1 rfl) ?_
        refine lv_iconst (v := 4) F.1 F.2.1 dX4_of_87 (by decide) ?_
        refine g_goIr (g_runV (As := [.int (nI (ix a1)), .int 4]) (rest := []) F hX hP hD hS hA (c_X4_it l E h fs qm m (ix a1) 4 (by first | assumption | rfl) (by omega) (by decide) H.size) (cwV 2 F.2.2.2.2 gX4_of_X4_it rfl rfl rfl (by decide +kernel) ⟨Nat.le_of_ble_eq_true rfl, Nat.le_of_ble_eq_true rfl⟩) [0, 1] rfl rfl (q0 := 0) (ci := 4) rfl rfl rfl hl.1 rfl (Nat.le_of_ble_eq_true rfl) dX4_of_88 ⟨Nat.le_refl _, Nat.le_refl _⟩) hP hD hS hA [0, 1] rfl (fun r _ H locs hq hP hS => ?_)
        subst hq
        exact g_reti F hr hlk (vp_nar_int _) hS hP hD (fd) (rfl) (by unfold mn_of; (try simp only [k1, k2, and_self, true_and, and_true, if_true, Bool.false_eq_true, false_and, and_false, if_false]); all_goals simp [fn, k1, k2, k3, k4, k5, k7]) dX4_of_91
      refine lv_tableOut (tgt := 92) F.1 F.2.1 dX4_of_27 (t_out a2 4 7 (fun kk h1 h2 => by rcases (show kk = 4 ∨ kk = 5 ∨ kk = 6 ∨ kk = 7 by omega) with rfl | rfl | rfl | rfl <;> assumption)) (by decide) ?_
      have hi5 : ix a2 < 4 := by
                              have q1 := ix_of 7 kQ (by decide) (by decide)
                              rcases (show ix a2 < 4 ∨ ix a2 = 4 ∨ ix a2 = 5 ∨ ix a2 = 6 ∨ ix a2 = 7 by omega) with q | q | q | q | q
                              · exact q
                              · exact absurd (show a2 = 4 from q1.1.trans (by rw [q]; rfl)) (by assumption)
                              · exact absurd (show a2 = 5 from q1.1.trans (by rw [q]; rfl)) (by assumption)
                              · exact absurd (show a2 = 6 from q1.1.trans (by rw [q]; rfl)) (by assumption)
                              · exact absurd (show a2 = 7 from q1.1.trans (by rw [q]; rfl)) (by assumption)
      obtain ⟨e_a2, -⟩ := ix_of 7 kQ (by decide) (by decide)
      have hl : lv_has ls 3 [(0, .ref h), (1, .int (nI (ix a1))), (2, .int (nI (ix a2)))] := by rw [← e_a2]; exact hl
      refine lv_aload_n F.1 F.2.1 dX4_of_92 rfl (lv_at hl 0 rfl) ?_
      refine lv_iload_n F.1 F.2.1 dX4_of_93 rfl (lv_at hl 1 rfl) ?_
      refine lv_iload_n F.1 F.2.1 dX4_of_94 rfl (lv_at hl 2 rfl) ?_
      refine g_goIr (g_runV (As := [.int (nI (ix a1)), .int (nI (ix a2))]) (rest := []) F hX hP hD hS hA (c_X4_it l E h fs qm m (ix a1) (ix a2) (by first | assumption | rfl) (by omega) (by omega) H.size) (cwV 2 F.2.2.2.2 gX4_of_X4_it rfl rfl rfl (by decide +kernel) ⟨Nat.le_of_ble_eq_true rfl, Nat.le_of_ble_eq_true rfl⟩) [0, 1] rfl rfl (q0 := 0) (ci := 4) rfl rfl rfl hl.1 rfl (Nat.le_of_ble_eq_true rfl) dX4_of_95 ⟨Nat.le_refl _, Nat.le_refl _⟩) hP hD hS hA [0, 1] rfl (fun r _ H locs hq hP hS => ?_)
      subst hq
      exact g_reti F hr hlk (vp_nar_int _) hS hP hD (fd) (rfl) (by unfold mn_of; (try simp only [k1, k2, and_self, true_and, and_true, if_true, Bool.false_eq_true, false_and, and_false, if_false]); all_goals simp [fn, k1, k2, k3, k4, k5, k7]) dX4_of_98
    · refine lv_aload_n F.1 F.2.1 dX4_of_19 rfl (lv_at hl 0 rfl) ?_
      refine lv_ldc (v := (-1000000001)) F.1 F.2.1 F.2.2.2.1 (F.2.2.2.2 _ (mm 1 rfl)) dX4_of_20 ?_
      refine g_goI (wr := [(qm, .inl (eI E, 75, .inl m))]) (g_runV (As := [.int (-1000000001)]) (rest := []) F hX hP hD hS hA (c_X4_finds l E h fs qf fd (-1000000001) 0 (by first | assumption | rfl) (by decide +kernel) (by decide) H.size) (cwV 1 F.2.2.2.2 gX4_of_X4_finds rfl rfl rfl (by decide +kernel) ⟨Nat.le_of_ble_eq_true rfl, Nat.le_of_ble_eq_true rfl⟩) [0, 2] rfl rfl (q0 := 0) (ci := 4) rfl rfl rfl hl.1 rfl (Nat.le_of_ble_eq_true rfl) dX4_of_22 ⟨Nat.le_refl _, Nat.le_refl _⟩) hP hD hS hA [0, 2] [1] rfl rfl rfl (by decide) (fun r _ H locs hq hP hD hS => ?_)
      have hP : va_P (eD E) vwCl [(h, .inr (4, fs)), (qm, .inl (eI E, 75, .inl m)), (qf, .inl (eI E, 7, .inl (upd fd 0 (fd 0 + 1))))] H := hP.sub [1, 0, 2] rfl
      have hD : va_D A [(h, .inr (4, fs)), (qm, .inl (eI E, 75, .inl m)), (qf, .inl (eI E, 7, .inl (upd fd 0 (fd 0 + 1))))] := hD.sub [1, 0, 2] (by decide) rfl
      subst hq
      exact g_reti F hr hlk (vp_nar_int _) hS hP hD (upd fd 0 (fd 0 + 1)) (rfl) (by unfold mn_of; (try simp only [k1, k2, and_self, true_and, and_true, if_true, Bool.false_eq_true, false_and, and_false, if_false]); all_goals simp [fn, k1, k2]) dX4_of_25
def mn_set (P : Nat) (m fd : Nat → Int32) (a1 a2 a3 : Int32) : Int32 × (Nat → Int32) × (Nat → Int32) := if (inR a1 0 (nI P - 1) && (inR a2 1 3 && inR a3 0 (if a2 = 1 then 29 else 9999))) = true then (pf m (ix a1) (ix a2), pu m (ix a1) (ix a2) a3, fd) else (-1000000001, m, fn fd 0)
set_option maxHeartbeats 4000000 in
set_option maxRecDepth 100000 in
theorem c_X4_set (l : Launch) (E : gE) (h : Nat) (fs : List Value) (qm : Nat) (qf : Nat) (m : Nat → Int32) (fd : Nat → Int32) (P : Nat) (a1 : Int32) (a2 : Int32) (a3 : Int32) (hf0 : fs[0]? = some (.ref qm)) (hf4 : fs[4]? = some (.ref qf)) (hm4 : m 4 = nI P) (hP8 : P ≤ 8) : gI l yX4_set wsX4_set ({ frames := 2, cells := 0, slots := 0, locals := 44 }) E [(h, .inr (4, fs)), (qm, .inl (eI E, 75, .inl m)), (qf, .inl (eI E, 7, .inl fd))] (fun u : (Nat → Int32) × (Nat → Int32) => [(h, .inr (4, fs)), (qm, .inl (eI E, 75, .inl u.1)), (qf, .inl (eI E, 7, .inl u.2))]) [.ref h, .int a1, .int a2, .int a3] (fun (r : Int32) (u : (Nat → Int32) × (Nat → Int32)) => (r, u) = mn_set P m fd a1 a2 a3) := by
  refine gI.of (cc := cX4_set) (maxL := 5) (by decide) rfl (Nat.le_of_ble_eq_true rfl) ?_
  intro pG eG sG mG below meth cG A ls H locs F hr hlk hX hP hD hA hS hl
  have hl : lv_has ls 5 [(0, .ref h), (1, .int a1), (2, .int a2), (3, .int a3)] := hl
  refine lv_aload_n F.1 F.2.1 dX4_set_0 rfl (lv_at hl 0 rfl) ?_
  refine lv_iload_n F.1 F.2.1 dX4_set_1 rfl (lv_at hl 1 rfl) ?_
  refine g_goIr (g_runV (As := [.int a1]) (rest := []) F hX hP hD hS hA (c_X4_isPerson l E h fs qm m P a1 (by first | assumption | rfl) (by assumption) H.size) (cwV 1 F.2.2.2.2 gX4_set_X4_isPerson rfl rfl rfl (by decide +kernel) ⟨Nat.le_of_ble_eq_true rfl, Nat.le_of_ble_eq_true rfl⟩) [0, 1] rfl rfl (q0 := 0) (ci := 4) rfl rfl rfl hl.1 rfl (Nat.le_of_ble_eq_true rfl) dX4_set_2 ⟨Nat.le_refl _, Nat.le_refl _⟩) hP hD hS hA [0, 1] rfl (fun r _ H locs hq hP hS => ?_)
  subst hq
  have jn45 : ∀ (H : Heap) (locs : List Loc) (ls : Array Slot), va_P (eD E) vwCl [(h, .inr (4, fs)), (qm, .inl (eI E, 75, .inl m)), (qf, .inl (eI E, 7, .inl fd))] H → va_D A [(h, .inr (4, fs)), (qm, .inl (eI E, 75, .inl m)), (qf, .inl (eI E, 7, .inl fd))] → va_S A sG.heap H locs → lv_has ls 5 [(0, .ref h), (1, .int a1), (2, .int a2), (3, .int a3)] → W pG l eG { frames := 2, cells := 0, slots := 0, locals := 44 } sG mG [.ref h, .int a1, .int a2, .int a3].toArray below meth cG H locs 0 0 (MQ below (va_Qi (fun (r : Int32) (u : (Nat → Int32) × (Nat → Int32)) => (r, u) = mn_set P m fd a1 a2 a3) (gR E (fun u : (Nat → Int32) × (Nat → Int32) => [(h, .inr (4, fs)), (qm, .inl (eI E, 75, .inl u.1)), (qf, .inl (eI E, 7, .inl u.2))]) A) A) [.ref h, .int a1, .int a2, .int a3].toArray sG 0 0 A) (F0 mG 45 ls [.int (bi (inR a1 0 (nI P - 1) && (inR a2 1 3 && inR a3 0 (if a2 = 1 then 29 else 9999))))]) := by
    intro H locs ls hP hD hS hl
    refine lv_istore (lv' := [(4, .int (bi (inR a1 0 (nI P - 1) && (inR a2 1 3 && inR a3 0 (if a2 = 1 then 29 else 9999))))), (0, .ref h), (1, .int a1), (2, .int a2), (3, .int a3)]) F.1 F.2.1 dX4_set_45 hl (by decide) rfl (fun ls hl => ?_)
    refine lv_iload F.1 F.2.1 dX4_set_47 (lv_at hl 0 rfl) ?_
    refine g_beq (tgt := 68) F dX4_set_49 (by decide) (fun k1 => ?_) (fun k1 => ?_)
    · refine lv_aload_n F.1 F.2.1 dX4_set_68 rfl (lv_at hl 1 rfl) ?_
      refine lv_ldc (v := (-1000000001)) F.1 F.2.1 F.2.2.2.1 (F.2.2.2.2 _ (mm 1 rfl)) dX4_set_69 ?_
      refine g_goI (wr := [(qm, .inl (eI E, 75, .inl m))]) (g_runV (As := [.int (-1000000001)]) (rest := []) F hX hP hD hS hA (c_X4_finds l E h fs qf fd (-1000000001) 0 (by first | assumption | rfl) (by decide +kernel) (by decide) H.size) (cwV 1 F.2.2.2.2 gX4_set_X4_finds rfl rfl rfl (by decide +kernel) ⟨Nat.le_of_ble_eq_true rfl, Nat.le_of_ble_eq_true rfl⟩) [0, 2] rfl rfl (q0 := 0) (ci := 4) rfl rfl rfl hl.1 rfl (Nat.le_of_ble_eq_true rfl) dX4_set_71 ⟨Nat.le_refl _, Nat.le_refl _⟩) hP hD hS hA [0, 2] [1] rfl rfl rfl (by decide) (fun r _ H locs hq hP hD hS => ?_)
      have hP : va_P (eD E) vwCl [(h, .inr (4, fs)), (qm, .inl (eI E, 75, .inl m)), (qf, .inl (eI E, 7, .inl (upd fd 0 (fd 0 + 1))))] H := hP.sub [1, 0, 2] rfl
      have hD : va_D A [(h, .inr (4, fs)), (qm, .inl (eI E, 75, .inl m)), (qf, .inl (eI E, 7, .inl (upd fd 0 (fd 0 + 1))))] := hD.sub [1, 0, 2] (by decide) rfl
      subst hq
      exact g_reti F hr hlk (vp_nar_int _) hS hP hD ((m, upd fd 0 (fd 0 + 1))) (rfl) (by unfold mn_set; rw [k1]; rfl) dX4_set_74
    · have kk := (Bool.and_eq_true _ _).mp k1
      have kk2 := (Bool.and_eq_true _ _).mp kk.2
      obtain ⟨e_a1, b_a1⟩ := ix_person kk.1 hP8
      have hl : lv_has ls 5 [(4, .int (bi (inR a1 0 (nI P - 1) && (inR a2 1 3 && inR a3 0 (if a2 = 1 then 29 else 9999))))), (0, .ref h), (1, .int (nI (ix a1))), (2, .int a2), (3, .int a3)] := by rw [← e_a1]; exact hl
      obtain ⟨e_a2, b_a2⟩ := ix_of 3 kk2.1 (by decide) (by decide)
      have hl : lv_has ls 5 [(4, .int (bi (inR a1 0 (nI P - 1) && (inR a2 1 3 && inR a3 0 (if a2 = 1 then 29 else 9999))))), (0, .ref h), (1, .int (nI (ix a1))), (2, .int (nI (ix a2))), (3, .int a3)] := by rw [← e_a2]; exact hl
      refine lv_aload_n F.1 F.2.1 dX4_set_52 rfl (lv_at hl 1 rfl) ?_
      refine lv_bipush (v := 35) F.1 F.2.1 dX4_set_53 (by decide) ?_
      refine lv_iconst (v := 5) F.1 F.2.1 dX4_set_55 (by decide) ?_
      refine lv_iload_n F.1 F.2.1 dX4_set_56 rfl (lv_at hl 2 rfl) ?_
      refine lv_imul F.1 F.2.1 dX4_set_57 ?_
      refine lv_iadd F.1 F.2.1 dX4_set_58 ?_
      refine lv_iload_n F.1 F.2.1 dX4_set_59 rfl (lv_at hl 3 rfl) ?_
      refine lv_iadd F.1 F.2.1 dX4_set_60 ?_
      refine g_top (nI (35 + 5 * ix a1 + ix a2)) (ix5 (ix a1) (ix a2)) ?_
      refine lv_iload_n F.1 F.2.1 dX4_set_61 rfl (lv_at hl 4 rfl) ?_
      refine g_goI (wr := [(qf, .inl (eI E, 7, .inl fd))]) (g_runV (As := [.int (nI (35 + 5 * ix a1 + ix a2)), .int a3]) (rest := []) F hX hP hD hS hA (c_X4_becomes l E h fs qm m (35 + 5 * ix a1 + ix a2) a3 (by first | assumption | rfl) (by omega) H.size) (cwV 2 F.2.2.2.2 gX4_set_X4_becomes rfl rfl rfl (by decide +kernel) ⟨Nat.le_of_ble_eq_true rfl, Nat.le_of_ble_eq_true rfl⟩) [0, 1] rfl rfl (q0 := 0) (ci := 4) rfl rfl rfl hl.1 rfl (Nat.le_of_ble_eq_true rfl) dX4_set_62 ⟨Nat.le_refl _, Nat.le_refl _⟩) hP hD hS hA [0, 1] [2] rfl rfl rfl (by decide) (fun r _ H locs hq hP hD hS => ?_)
      have hP : va_P (eD E) vwCl [(h, .inr (4, fs)), (qm, .inl (eI E, 75, .inl (upd m (35 + 5 * ix a1 + ix a2) a3))), (qf, .inl (eI E, 7, .inl fd))] H := hP.sub [1, 2, 0] rfl
      have hD : va_D A [(h, .inr (4, fs)), (qm, .inl (eI E, 75, .inl (upd m (35 + 5 * ix a1 + ix a2) a3))), (qf, .inl (eI E, 7, .inl fd))] := hD.sub [1, 2, 0] (by decide) rfl
      subst hq
      refine lv_goto (tgt := 74) F.1 F.2.1 dX4_set_65 (by decide) ?_
      exact g_reti F hr hlk (vp_nar_int _) hS hP hD ((upd m (35 + 5 * ix a1 + ix a2) a3, fd)) (rfl) (by unfold mn_set; rw [k1]; rfl) dX4_set_74
  refine g_beq (tgt := 44) F dX4_set_5 (by decide) (fun k2 => ?_) (fun k2 => ?_)
  · refine lv_iconst (v := 0) F.1 F.2.1 dX4_set_44 (by decide) ?_
    refine g_top (bi (inR a1 0 (nI P - 1) && (inR a2 1 3 && inR a3 0 (if a2 = 1 then 29 else 9999)))) (by simp [bi, k2]) ?_
    exact jn45 _ _ _ hP hD hS (lv_sub hl [0, 1, 2, 3] rfl)
  · refine lv_iload_n F.1 F.2.1 dX4_set_8 rfl (lv_at hl 2 rfl) ?_
    refine lv_i2l (v := (a2 : Int32).toInt64) F.1 F.2.1 dX4_set_9 rfl ?_
    refine lv_iconst (v := 1) F.1 F.2.1 dX4_set_10 (by decide) ?_
    refine lv_iconst (v := 3) F.1 F.2.1 dX4_set_11 (by decide) ?_
    refine g_goIr (g_runS (As := [.long ((a2 : Int32).toInt64), .int 1, .int 3]) (rest := []) F hX hP hD hS hA (c_X4_in_i l E a2 1 3 H.size) (va_cwS 3 F.2.2.2.2 gX4_set_X4_in rfl rfl rfl (by decide +kernel) ⟨Nat.le_of_ble_eq_true rfl, Nat.le_of_ble_eq_true rfl⟩) [] rfl rfl rfl hl.1 rfl (Nat.le_of_ble_eq_true rfl) dX4_set_12 ⟨Nat.le_refl _, Nat.le_refl _⟩) hP hD hS hA [] rfl (fun r _ H locs hq hP hS => ?_)
    subst hq
    refine g_beq (tgt := 44) F dX4_set_15 (by decide) (fun k3 => ?_) (fun k3 => ?_)
    · refine lv_iconst (v := 0) F.1 F.2.1 dX4_set_44 (by decide) ?_
      refine g_top (bi (inR a1 0 (nI P - 1) && (inR a2 1 3 && inR a3 0 (if a2 = 1 then 29 else 9999)))) (by simp [bi, k2, k3]) ?_
      exact jn45 _ _ _ hP hD hS (lv_sub hl [0, 1, 2, 3] rfl)
    · refine lv_iload_n F.1 F.2.1 dX4_set_18 rfl (lv_at hl 3 rfl) ?_
      refine lv_i2l (v := (a3 : Int32).toInt64) F.1 F.2.1 dX4_set_19 rfl ?_
      refine lv_iconst (v := 0) F.1 F.2.1 dX4_set_20 (by decide) ?_
      refine lv_iload_n F.1 F.2.1 dX4_set_21 rfl (lv_at hl 2 rfl) ?_
      refine lv_iconst (v := 1) F.1 F.2.1 dX4_set_22 (by decide) ?_
      have jn34 : ∀ (H : Heap) (locs : List Loc) (ls : Array Slot), va_P (eD E) vwCl [(h, .inr (4, fs)), (qm, .inl (eI E, 75, .inl m)), (qf, .inl (eI E, 7, .inl fd))] H → va_D A [(h, .inr (4, fs)), (qm, .inl (eI E, 75, .inl m)), (qf, .inl (eI E, 7, .inl fd))] → va_S A sG.heap H locs → lv_has ls 5 [(0, .ref h), (1, .int a1), (2, .int a2), (3, .int a3)] → W pG l eG { frames := 2, cells := 0, slots := 0, locals := 44 } sG mG [.ref h, .int a1, .int a2, .int a3].toArray below meth cG H locs 0 0 (MQ below (va_Qi (fun (r : Int32) (u : (Nat → Int32) × (Nat → Int32)) => (r, u) = mn_set P m fd a1 a2 a3) (gR E (fun u : (Nat → Int32) × (Nat → Int32) => [(h, .inr (4, fs)), (qm, .inl (eI E, 75, .inl u.1)), (qf, .inl (eI E, 7, .inl u.2))]) A) A) [.ref h, .int a1, .int a2, .int a3].toArray sG 0 0 A) (F0 mG 34 ls [.int (if a2 = 1 then 29 else 9999), .int 0, .long ((a3 : Int32).toInt64)]) := by
        intro H locs ls hP hD hS hl
        refine g_goIr (g_runS (As := [.long ((a3 : Int32).toInt64), .int 0, .int (if a2 = 1 then 29 else 9999)]) (rest := []) F hX hP hD hS hA (c_X4_in_i l E a3 0 (if a2 = 1 then 29 else 9999) H.size) (va_cwS 3 F.2.2.2.2 gX4_set_X4_in rfl rfl rfl (by decide +kernel) ⟨Nat.le_of_ble_eq_true rfl, Nat.le_of_ble_eq_true rfl⟩) [] rfl rfl rfl hl.1 rfl (Nat.le_of_ble_eq_true rfl) dX4_set_34 ⟨Nat.le_refl _, Nat.le_refl _⟩) hP hD hS hA [] rfl (fun r _ H locs hq hP hS => ?_)
        subst hq
        refine g_beq (tgt := 44) F dX4_set_37 (by decide) (fun k4 => ?_) (fun k4 => ?_)
        · refine lv_iconst (v := 0) F.1 F.2.1 dX4_set_44 (by decide) ?_
          refine g_top (bi (inR a1 0 (nI P - 1) && (inR a2 1 3 && inR a3 0 (if a2 = 1 then 29 else 9999)))) (by simp [bi, k2, k3, k4]) ?_
          exact jn45 _ _ _ hP hD hS (lv_sub hl [0, 1, 2, 3] rfl)
        · refine lv_iconst (v := 1) F.1 F.2.1 dX4_set_40 (by decide) ?_
          refine lv_goto (tgt := 45) F.1 F.2.1 dX4_set_41 (by decide) ?_
          refine g_top (bi (inR a1 0 (nI P - 1) && (inR a2 1 3 && inR a3 0 (if a2 = 1 then 29 else 9999)))) (by simp [bi, k2, k3, k4]) ?_
          exact jn45 _ _ _ hP hD hS (lv_sub hl [0, 1, 2, 3] rfl)
      refine lv_icmp_ne (tgt := 31) F.1 F.2.1 dX4_set_23 (by decide) (fun k5 => ?_) (fun k5 => ?_)
      · refine lv_sipush (v := 9999) F.1 F.2.1 dX4_set_31 (by decide) ?_
        refine g_top (if a2 = 1 then 29 else 9999) (by simp [k5]) ?_
        exact jn34 _ _ _ hP hD hS (lv_sub hl [0, 1, 2, 3] rfl)
      · refine lv_bipush (v := 29) F.1 F.2.1 dX4_set_26 (by decide) ?_
        refine lv_goto (tgt := 34) F.1 F.2.1 dX4_set_28 (by decide) ?_
        refine g_top (if a2 = 1 then 29 else 9999) (by simp [k5]) ?_
        exact jn34 _ _ _ hP hD hS (lv_sub hl [0, 1, 2, 3] rfl)
def mn_turn (P : Nat) (m fd : Nat → Int32) (a1 a2 : Int32) : Int32 × (Nat → Int32) × (Nat → Int32) := if inR a1 0 (nI P - 1) = true ∧ inR a2 0 5 = true then (pf m (ix a1) 0, pu m (ix a1) 0 a2, fd) else (-1000000001, m, fn fd 0)
set_option maxHeartbeats 4000000 in
set_option maxRecDepth 100000 in
theorem c_X4_turn (l : Launch) (E : gE) (h : Nat) (fs : List Value) (qm : Nat) (qf : Nat) (m : Nat → Int32) (fd : Nat → Int32) (P : Nat) (a1 : Int32) (a2 : Int32) (hf0 : fs[0]? = some (.ref qm)) (hf4 : fs[4]? = some (.ref qf)) (hm4 : m 4 = nI P) (hP8 : P ≤ 8) : gI l yX4_turn wsX4_turn ({ frames := 2, cells := 0, slots := 0, locals := 44 }) E [(h, .inr (4, fs)), (qm, .inl (eI E, 75, .inl m)), (qf, .inl (eI E, 7, .inl fd))] (fun u : (Nat → Int32) × (Nat → Int32) => [(h, .inr (4, fs)), (qm, .inl (eI E, 75, .inl u.1)), (qf, .inl (eI E, 7, .inl u.2))]) [.ref h, .int a1, .int a2] (fun (r : Int32) (u : (Nat → Int32) × (Nat → Int32)) => (r, u) = mn_turn P m fd a1 a2) := by
  refine gI.of (cc := cX4_turn) (maxL := 3) (by decide) rfl (Nat.le_of_ble_eq_true rfl) ?_
  intro pG eG sG mG below meth cG A ls H locs F hr hlk hX hP hD hA hS hl
  have hl : lv_has ls 3 [(0, .ref h), (1, .int a1), (2, .int a2)] := hl
  refine lv_aload_n F.1 F.2.1 dX4_turn_0 rfl (lv_at hl 0 rfl) ?_
  refine lv_iload_n F.1 F.2.1 dX4_turn_1 rfl (lv_at hl 1 rfl) ?_
  refine g_goIr (g_runV (As := [.int a1]) (rest := []) F hX hP hD hS hA (c_X4_isPerson l E h fs qm m P a1 (by first | assumption | rfl) (by assumption) H.size) (cwV 1 F.2.2.2.2 gX4_turn_X4_isPerson rfl rfl rfl (by decide +kernel) ⟨Nat.le_of_ble_eq_true rfl, Nat.le_of_ble_eq_true rfl⟩) [0, 1] rfl rfl (q0 := 0) (ci := 4) rfl rfl rfl hl.1 rfl (Nat.le_of_ble_eq_true rfl) dX4_turn_2 ⟨Nat.le_refl _, Nat.le_refl _⟩) hP hD hS hA [0, 1] rfl (fun r _ H locs hq hP hS => ?_)
  subst hq
  refine g_beq (tgt := 32) F dX4_turn_5 (by decide) (fun k1 => ?_) (fun k1 => ?_)
  · refine lv_aload_n F.1 F.2.1 dX4_turn_32 rfl (lv_at hl 0 rfl) ?_
    refine lv_ldc (v := (-1000000001)) F.1 F.2.1 F.2.2.2.1 (F.2.2.2.2 _ (mm 1 rfl)) dX4_turn_33 ?_
    refine g_goI (wr := [(qm, .inl (eI E, 75, .inl m))]) (g_runV (As := [.int (-1000000001)]) (rest := []) F hX hP hD hS hA (c_X4_finds l E h fs qf fd (-1000000001) 0 (by first | assumption | rfl) (by decide +kernel) (by decide) H.size) (cwV 1 F.2.2.2.2 gX4_turn_X4_finds rfl rfl rfl (by decide +kernel) ⟨Nat.le_of_ble_eq_true rfl, Nat.le_of_ble_eq_true rfl⟩) [0, 2] rfl rfl (q0 := 0) (ci := 4) rfl rfl rfl hl.1 rfl (Nat.le_of_ble_eq_true rfl) dX4_turn_35 ⟨Nat.le_refl _, Nat.le_refl _⟩) hP hD hS hA [0, 2] [1] rfl rfl rfl (by decide) (fun r _ H locs hq hP hD hS => ?_)
    have hP : va_P (eD E) vwCl [(h, .inr (4, fs)), (qm, .inl (eI E, 75, .inl m)), (qf, .inl (eI E, 7, .inl (upd fd 0 (fd 0 + 1))))] H := hP.sub [1, 0, 2] rfl
    have hD : va_D A [(h, .inr (4, fs)), (qm, .inl (eI E, 75, .inl m)), (qf, .inl (eI E, 7, .inl (upd fd 0 (fd 0 + 1))))] := hD.sub [1, 0, 2] (by decide) rfl
    subst hq
    exact g_reti F hr hlk (vp_nar_int _) hS hP hD ((m, upd fd 0 (fd 0 + 1))) (rfl) (by unfold mn_turn; (try simp only [k1, and_self, true_and, and_true, if_true, Bool.false_eq_true, false_and, and_false, if_false]); all_goals simp [fn, pf, pu, k1]) dX4_turn_38
  · refine lv_iload_n F.1 F.2.1 dX4_turn_8 rfl (lv_at hl 2 rfl) ?_
    refine lv_i2l (v := (a2 : Int32).toInt64) F.1 F.2.1 dX4_turn_9 rfl ?_
    refine lv_iconst (v := 0) F.1 F.2.1 dX4_turn_10 (by decide) ?_
    refine lv_iconst (v := 5) F.1 F.2.1 dX4_turn_11 (by decide) ?_
    refine g_goIr (g_runS (As := [.long ((a2 : Int32).toInt64), .int 0, .int 5]) (rest := []) F hX hP hD hS hA (c_X4_in_i l E a2 0 5 H.size) (va_cwS 3 F.2.2.2.2 gX4_turn_X4_in rfl rfl rfl (by decide +kernel) ⟨Nat.le_of_ble_eq_true rfl, Nat.le_of_ble_eq_true rfl⟩) [] rfl rfl rfl hl.1 rfl (Nat.le_of_ble_eq_true rfl) dX4_turn_12 ⟨Nat.le_refl _, Nat.le_refl _⟩) hP hD hS hA [] rfl (fun r _ H locs hq hP hS => ?_)
    subst hq
    refine g_beq (tgt := 32) F dX4_turn_15 (by decide) (fun k2 => ?_) (fun k2 => ?_)
    · refine lv_aload_n F.1 F.2.1 dX4_turn_32 rfl (lv_at hl 0 rfl) ?_
      refine lv_ldc (v := (-1000000001)) F.1 F.2.1 F.2.2.2.1 (F.2.2.2.2 _ (mm 1 rfl)) dX4_turn_33 ?_
      refine g_goI (wr := [(qm, .inl (eI E, 75, .inl m))]) (g_runV (As := [.int (-1000000001)]) (rest := []) F hX hP hD hS hA (c_X4_finds l E h fs qf fd (-1000000001) 0 (by first | assumption | rfl) (by decide +kernel) (by decide) H.size) (cwV 1 F.2.2.2.2 gX4_turn_X4_finds rfl rfl rfl (by decide +kernel) ⟨Nat.le_of_ble_eq_true rfl, Nat.le_of_ble_eq_true rfl⟩) [0, 2] rfl rfl (q0 := 0) (ci := 4) rfl rfl rfl hl.1 rfl (Nat.le_of_ble_eq_true rfl) dX4_turn_35 ⟨Nat.le_refl _, Nat.le_refl _⟩) hP hD hS hA [0, 2] [1] rfl rfl rfl (by decide) (fun r _ H locs hq hP hD hS => ?_)
      have hP : va_P (eD E) vwCl [(h, .inr (4, fs)), (qm, .inl (eI E, 75, .inl m)), (qf, .inl (eI E, 7, .inl (upd fd 0 (fd 0 + 1))))] H := hP.sub [1, 0, 2] rfl
      have hD : va_D A [(h, .inr (4, fs)), (qm, .inl (eI E, 75, .inl m)), (qf, .inl (eI E, 7, .inl (upd fd 0 (fd 0 + 1))))] := hD.sub [1, 0, 2] (by decide) rfl
      subst hq
      exact g_reti F hr hlk (vp_nar_int _) hS hP hD ((m, upd fd 0 (fd 0 + 1))) (rfl) (by unfold mn_turn; (try simp only [k1, k2, and_self, true_and, and_true, if_true, Bool.false_eq_true, false_and, and_false, if_false]); all_goals simp [fn, pf, pu, k1, k2]) dX4_turn_38
    · obtain ⟨e_a1, b_a1⟩ := ix_person k1 hP8
      have hl : lv_has ls 3 [(0, .ref h), (1, .int (nI (ix a1))), (2, .int a2)] := by rw [← e_a1]; exact hl
      refine lv_aload_n F.1 F.2.1 dX4_turn_18 rfl (lv_at hl 0 rfl) ?_
      refine lv_bipush (v := 35) F.1 F.2.1 dX4_turn_19 (by decide) ?_
      refine lv_iconst (v := 5) F.1 F.2.1 dX4_turn_21 (by decide) ?_
      refine lv_iload_n F.1 F.2.1 dX4_turn_22 rfl (lv_at hl 1 rfl) ?_
      refine lv_imul F.1 F.2.1 dX4_turn_23 ?_
      refine lv_iadd F.1 F.2.1 dX4_turn_24 ?_
      refine g_top (nI (35 + 5 * ix a1)) (by show nI 35 + nI 5 * nI (ix a1) = _; rw [pk_mul, nI_add]) ?_
      refine lv_iload_n F.1 F.2.1 dX4_turn_25 rfl (lv_at hl 2 rfl) ?_
      refine g_goI (wr := [(qf, .inl (eI E, 7, .inl fd))]) (g_runV (As := [.int (nI (35 + 5 * ix a1)), .int a2]) (rest := []) F hX hP hD hS hA (c_X4_becomes l E h fs qm m (35 + 5 * ix a1) a2 (by first | assumption | rfl) (by omega) H.size) (cwV 2 F.2.2.2.2 gX4_turn_X4_becomes rfl rfl rfl (by decide +kernel) ⟨Nat.le_of_ble_eq_true rfl, Nat.le_of_ble_eq_true rfl⟩) [0, 1] rfl rfl (q0 := 0) (ci := 4) rfl rfl rfl hl.1 rfl (Nat.le_of_ble_eq_true rfl) dX4_turn_26 ⟨Nat.le_refl _, Nat.le_refl _⟩) hP hD hS hA [0, 1] [2] rfl rfl rfl (by decide) (fun r _ H locs hq hP hD hS => ?_)
      have hP : va_P (eD E) vwCl [(h, .inr (4, fs)), (qm, .inl (eI E, 75, .inl (upd m (35 + 5 * ix a1) a2))), (qf, .inl (eI E, 7, .inl fd))] H := hP.sub [1, 2, 0] rfl
      have hD : va_D A [(h, .inr (4, fs)), (qm, .inl (eI E, 75, .inl (upd m (35 + 5 * ix a1) a2))), (qf, .inl (eI E, 7, .inl fd))] := hD.sub [1, 2, 0] (by decide) rfl
      subst hq
      refine lv_goto (tgt := 38) F.1 F.2.1 dX4_turn_29 (by decide) ?_
      exact g_reti F hr hlk (vp_nar_int _) hS hP hD ((upd m (35 + 5 * ix a1) a2, fd)) (rfl) (by unfold mn_turn; (try simp only [k1, k2, and_self, true_and, and_true, if_true, Bool.false_eq_true, false_and, and_false, if_false]); all_goals simp [fn, pf, pu, k1, k2]) dX4_turn_38
def mn_as (P : Nat) (m fd : Nat → Int32) (a1 a2 : Int32) : Int32 × (Nat → Int32) := if inR a1 0 (nI P - 1) = true ∧ inR a2 0 5 = true then (if (decide (a2 = 0) || (decide (a2 = pf m (ix a1) 0) || (decide (a2 = 1) && decide (pf m (ix a1) 0 = 4) || decide (a2 = 2) && decide (pf m (ix a1) 0 = 5)))) = true then (pf m (ix a1) 2, fd) else (-1000000003, fn fd 2)) else (-1000000001, fn fd 0)
set_option maxHeartbeats 4000000 in
set_option maxRecDepth 100000 in
theorem c_X4_as (l : Launch) (E : gE) (h : Nat) (fs : List Value) (qm : Nat) (qf : Nat) (m : Nat → Int32) (fd : Nat → Int32) (P : Nat) (a1 : Int32) (a2 : Int32) (hf0 : fs[0]? = some (.ref qm)) (hf4 : fs[4]? = some (.ref qf)) (hm4 : m 4 = nI P) (hP8 : P ≤ 8) : gI l yX4_as wsX4_as ({ frames := 2, cells := 0, slots := 0, locals := 44 }) E [(h, .inr (4, fs)), (qm, .inl (eI E, 75, .inl m)), (qf, .inl (eI E, 7, .inl fd))] (fun u : (Nat → Int32) => [(h, .inr (4, fs)), (qm, .inl (eI E, 75, .inl m)), (qf, .inl (eI E, 7, .inl u))]) [.ref h, .int a1, .int a2] (fun (r : Int32) (u : (Nat → Int32)) => (r, u) = mn_as P m fd a1 a2) := by
  refine gI.of (cc := cX4_as) (maxL := 5) (by decide) rfl (Nat.le_of_ble_eq_true rfl) ?_
  intro pG eG sG mG below meth cG A ls H locs F hr hlk hX hP hD hA hS hl
  have hl : lv_has ls 5 [(0, .ref h), (1, .int a1), (2, .int a2)] := hl
  refine lv_aload_n F.1 F.2.1 dX4_as_0 rfl (lv_at hl 0 rfl) ?_
  refine lv_iload_n F.1 F.2.1 dX4_as_1 rfl (lv_at hl 1 rfl) ?_
  refine g_goIr (g_runV (As := [.int a1]) (rest := []) F hX hP hD hS hA (c_X4_isPerson l E h fs qm m P a1 (by first | assumption | rfl) (by assumption) H.size) (cwV 1 F.2.2.2.2 gX4_as_X4_isPerson rfl rfl rfl (by decide +kernel) ⟨Nat.le_of_ble_eq_true rfl, Nat.le_of_ble_eq_true rfl⟩) [0, 1] rfl rfl (q0 := 0) (ci := 4) rfl rfl rfl hl.1 rfl (Nat.le_of_ble_eq_true rfl) dX4_as_2 ⟨Nat.le_refl _, Nat.le_refl _⟩) hP hD hS hA [0, 1] rfl (fun r _ H locs hq hP hS => ?_)
  subst hq
  refine g_beq (tgt := 18) F dX4_as_5 (by decide) (fun k1 => ?_) (fun k1 => ?_)
  · refine lv_aload_n F.1 F.2.1 dX4_as_18 rfl (lv_at hl 0 rfl) ?_
    refine lv_ldc (v := (-1000000001)) F.1 F.2.1 F.2.2.2.1 (F.2.2.2.2 _ (mm 1 rfl)) dX4_as_19 ?_
    refine g_goI (wr := [(qm, .inl (eI E, 75, .inl m))]) (g_runV (As := [.int (-1000000001)]) (rest := []) F hX hP hD hS hA (c_X4_finds l E h fs qf fd (-1000000001) 0 (by first | assumption | rfl) (by decide +kernel) (by decide) H.size) (cwV 1 F.2.2.2.2 gX4_as_X4_finds rfl rfl rfl (by decide +kernel) ⟨Nat.le_of_ble_eq_true rfl, Nat.le_of_ble_eq_true rfl⟩) [0, 2] rfl rfl (q0 := 0) (ci := 4) rfl rfl rfl hl.1 rfl (Nat.le_of_ble_eq_true rfl) dX4_as_21 ⟨Nat.le_refl _, Nat.le_refl _⟩) hP hD hS hA [0, 2] [1] rfl rfl rfl (by decide) (fun r _ H locs hq hP hD hS => ?_)
    have hP : va_P (eD E) vwCl [(h, .inr (4, fs)), (qm, .inl (eI E, 75, .inl m)), (qf, .inl (eI E, 7, .inl (upd fd 0 (fd 0 + 1))))] H := hP.sub [1, 0, 2] rfl
    have hD : va_D A [(h, .inr (4, fs)), (qm, .inl (eI E, 75, .inl m)), (qf, .inl (eI E, 7, .inl (upd fd 0 (fd 0 + 1))))] := hD.sub [1, 0, 2] (by decide) rfl
    subst hq
    exact g_reti F hr hlk (vp_nar_int _) hS hP hD (upd fd 0 (fd 0 + 1)) (rfl) (by unfold mn_as; (try simp only [k1, and_self, true_and, and_true, if_true, Bool.false_eq_true, false_and, and_false, if_false]); all_goals simp [fn, k1]) dX4_as_24
  · refine lv_iload_n F.1 F.2.1 dX4_as_8 rfl (lv_at hl 2 rfl) ?_
    refine lv_i2l (v := (a2 : Int32).toInt64) F.1 F.2.1 dX4_as_9 rfl ?_
    refine lv_iconst (v := 0) F.1 F.2.1 dX4_as_10 (by decide) ?_
    refine lv_iconst (v := 5) F.1 F.2.1 dX4_as_11 (by decide) ?_
    refine g_goIr (g_runS (As := [.long ((a2 : Int32).toInt64), .int 0, .int 5]) (rest := []) F hX hP hD hS hA (c_X4_in_i l E a2 0 5 H.size) (va_cwS 3 F.2.2.2.2 gX4_as_X4_in rfl rfl rfl (by decide +kernel) ⟨Nat.le_of_ble_eq_true rfl, Nat.le_of_ble_eq_true rfl⟩) [] rfl rfl rfl hl.1 rfl (Nat.le_of_ble_eq_true rfl) dX4_as_12 ⟨Nat.le_refl _, Nat.le_refl _⟩) hP hD hS hA [] rfl (fun r _ H locs hq hP hS => ?_)
    subst hq
    refine g_bne (tgt := 25) F dX4_as_15 (by decide) (fun k2 => ?_) (fun k2 => ?_)
    · obtain ⟨e_a1, b_a1⟩ := ix_person k1 hP8
      have hl : lv_has ls 5 [(0, .ref h), (1, .int (nI (ix a1))), (2, .int a2)] := by rw [← e_a1]; exact hl
      refine lv_aload_n F.1 F.2.1 dX4_as_25 rfl (lv_at hl 0 rfl) ?_
      refine lv_iload_n F.1 F.2.1 dX4_as_26 rfl (lv_at hl 1 rfl) ?_
      refine lv_iconst (v := 0) F.1 F.2.1 dX4_as_27 (by decide) ?_
      refine g_goIr (g_runV (As := [.int (nI (ix a1)), .int 0]) (rest := []) F hX hP hD hS hA (c_X4_it l E h fs qm m (ix a1) 0 (by first | assumption | rfl) (by omega) (by decide) H.size) (cwV 2 F.2.2.2.2 gX4_as_X4_it rfl rfl rfl (by decide +kernel) ⟨Nat.le_of_ble_eq_true rfl, Nat.le_of_ble_eq_true rfl⟩) [0, 1] rfl rfl (q0 := 0) (ci := 4) rfl rfl rfl hl.1 rfl (Nat.le_of_ble_eq_true rfl) dX4_as_28 ⟨Nat.le_refl _, Nat.le_refl _⟩) hP hD hS hA [0, 1] rfl (fun r _ H locs hq hP hS => ?_)
      subst hq
      refine lv_istore_n (lv' := [(3, .int (pf m (ix a1) 0)), (0, .ref h), (1, .int (nI (ix a1))), (2, .int a2)]) F.1 F.2.1 dX4_as_31 rfl hl (by decide) rfl (fun ls hl => ?_)
      refine lv_iload_n F.1 F.2.1 dX4_as_32 rfl (lv_at hl 3 rfl) ?_
      have jn66 : ∀ (H : Heap) (locs : List Loc) (ls : Array Slot), va_P (eD E) vwCl [(h, .inr (4, fs)), (qm, .inl (eI E, 75, .inl m)), (qf, .inl (eI E, 7, .inl fd))] H → va_D A [(h, .inr (4, fs)), (qm, .inl (eI E, 75, .inl m)), (qf, .inl (eI E, 7, .inl fd))] → va_S A sG.heap H locs → lv_has ls 5 [(3, .int (pf m (ix a1) 0)), (0, .ref h), (1, .int (nI (ix a1))), (2, .int a2)] → W pG l eG { frames := 2, cells := 0, slots := 0, locals := 44 } sG mG [.ref h, .int a1, .int a2].toArray below meth cG H locs 0 0 (MQ below (va_Qi (fun (r : Int32) (u : (Nat → Int32)) => (r, u) = mn_as P m fd a1 a2) (gR E (fun u : (Nat → Int32) => [(h, .inr (4, fs)), (qm, .inl (eI E, 75, .inl m)), (qf, .inl (eI E, 7, .inl u))]) A) A) [.ref h, .int a1, .int a2].toArray sG 0 0 A) (F0 mG 66 ls [.int (bi (decide (a2 = 0) || (decide (a2 = pf m (ix a1) 0) || (decide (a2 = 1) && decide (pf m (ix a1) 0 = 4) || decide (a2 = 2) && decide (pf m (ix a1) 0 = 5)))))]) := by
        intro H locs ls hP hD hS hl
        refine lv_istore (lv' := [(4, .int (bi (decide (a2 = 0) || (decide (a2 = pf m (ix a1) 0) || (decide (a2 = 1) && decide (pf m (ix a1) 0 = 4) || decide (a2 = 2) && decide (pf m (ix a1) 0 = 5)))))), (3, .int (pf m (ix a1) 0)), (0, .ref h), (1, .int (nI (ix a1))), (2, .int a2)]) F.1 F.2.1 dX4_as_66 hl (by decide) rfl (fun ls hl => ?_)
        refine lv_iload F.1 F.2.1 dX4_as_68 (lv_at hl 0 rfl) ?_
        refine g_beq (tgt := 82) F dX4_as_70 (by decide) (fun k3 => ?_) (fun k3 => ?_)
        · refine lv_aload_n F.1 F.2.1 dX4_as_82 rfl (lv_at hl 2 rfl) ?_
          refine lv_ldc (v := (-1000000003)) F.1 F.2.1 F.2.2.2.1 (F.2.2.2.2 _ (mm 2 rfl)) dX4_as_83 ?_
          refine g_goI (wr := [(qm, .inl (eI E, 75, .inl m))]) (g_runV (As := [.int (-1000000003)]) (rest := []) F hX hP hD hS hA (c_X4_finds l E h fs qf fd (-1000000003) 2 (by first | assumption | rfl) (by decide +kernel) (by decide) H.size) (cwV 1 F.2.2.2.2 gX4_as_X4_finds rfl rfl rfl (by decide +kernel) ⟨Nat.le_of_ble_eq_true rfl, Nat.le_of_ble_eq_true rfl⟩) [0, 2] rfl rfl (q0 := 0) (ci := 4) rfl rfl rfl hl.1 rfl (Nat.le_of_ble_eq_true rfl) dX4_as_85 ⟨Nat.le_refl _, Nat.le_refl _⟩) hP hD hS hA [0, 2] [1] rfl rfl rfl (by decide) (fun r _ H locs hq hP hD hS => ?_)
          have hP : va_P (eD E) vwCl [(h, .inr (4, fs)), (qm, .inl (eI E, 75, .inl m)), (qf, .inl (eI E, 7, .inl (upd fd 2 (fd 2 + 1))))] H := hP.sub [1, 0, 2] rfl
          have hD : va_D A [(h, .inr (4, fs)), (qm, .inl (eI E, 75, .inl m)), (qf, .inl (eI E, 7, .inl (upd fd 2 (fd 2 + 1))))] := hD.sub [1, 0, 2] (by decide) rfl
          subst hq
          exact g_reti F hr hlk (vp_nar_int _) hS hP hD (upd fd 2 (fd 2 + 1)) (rfl) (by rw [mn_as, if_pos ⟨k1, k2⟩, k3]; rfl) dX4_as_88
        · refine lv_aload_n F.1 F.2.1 dX4_as_73 rfl (lv_at hl 2 rfl) ?_
          refine lv_iload_n F.1 F.2.1 dX4_as_74 rfl (lv_at hl 3 rfl) ?_
          refine lv_iconst (v := 2) F.1 F.2.1 dX4_as_75 (by decide) ?_
          refine g_goIr (g_runV (As := [.int (nI (ix a1)), .int 2]) (rest := []) F hX hP hD hS hA (c_X4_it l E h fs qm m (ix a1) 2 (by first | assumption | rfl) (by omega) (by decide) H.size) (cwV 2 F.2.2.2.2 gX4_as_X4_it rfl rfl rfl (by decide +kernel) ⟨Nat.le_of_ble_eq_true rfl, Nat.le_of_ble_eq_true rfl⟩) [0, 1] rfl rfl (q0 := 0) (ci := 4) rfl rfl rfl hl.1 rfl (Nat.le_of_ble_eq_true rfl) dX4_as_76 ⟨Nat.le_refl _, Nat.le_refl _⟩) hP hD hS hA [0, 1] rfl (fun r _ H locs hq hP hS => ?_)
          subst hq
          refine lv_goto (tgt := 88) F.1 F.2.1 dX4_as_79 (by decide) ?_
          exact g_reti F hr hlk (vp_nar_int _) hS hP hD (fd) (rfl) (by rw [mn_as, if_pos ⟨k1, k2⟩, k3]; rfl) dX4_as_88
      refine lv_if_eq (tgt := 61) F.1 F.2.1 dX4_as_33 (by decide) (fun k4 => ?_) (fun k4 => ?_)
      · refine lv_iconst (v := 1) F.1 F.2.1 dX4_as_61 (by decide) ?_
        refine lv_goto (tgt := 66) F.1 F.2.1 dX4_as_62 (by decide) ?_
        refine g_top (bi (decide (a2 = 0) || (decide (a2 = pf m (ix a1) 0) || (decide (a2 = 1) && decide (pf m (ix a1) 0 = 4) || decide (a2 = 2) && decide (pf m (ix a1) 0 = 5))))) (by first | (simp [bi, k1, k2, k4]; done) | (clear e_a1; simp_all [bi]; done)) ?_
        exact jn66 _ _ _ hP hD hS (lv_sub hl [0, 1, 2, 3] rfl)
      · refine lv_iload_n F.1 F.2.1 dX4_as_36 rfl (lv_at hl 3 rfl) ?_
        refine lv_iload_n F.1 F.2.1 dX4_as_37 rfl (lv_at hl 0 rfl) ?_
        refine lv_icmp_eq (tgt := 61) F.1 F.2.1 dX4_as_38 (by decide) (fun k5 => ?_) (fun k5 => ?_)
        · refine lv_iconst (v := 1) F.1 F.2.1 dX4_as_61 (by decide) ?_
          refine lv_goto (tgt := 66) F.1 F.2.1 dX4_as_62 (by decide) ?_
          refine g_top (bi (decide (a2 = 0) || (decide (a2 = pf m (ix a1) 0) || (decide (a2 = 1) && decide (pf m (ix a1) 0 = 4) || decide (a2 = 2) && decide (pf m (ix a1) 0 = 5))))) (by first | (simp [bi, k1, k2, k4, k5]; done) | (clear e_a1; simp_all [bi]; done)) ?_
          exact jn66 _ _ _ hP hD hS (lv_sub hl [0, 1, 2, 3] rfl)
        · refine lv_iload_n F.1 F.2.1 dX4_as_41 rfl (lv_at hl 3 rfl) ?_
          refine lv_iconst (v := 1) F.1 F.2.1 dX4_as_42 (by decide) ?_
          refine lv_icmp_ne (tgt := 51) F.1 F.2.1 dX4_as_43 (by decide) (fun k6 => ?_) (fun k6 => ?_)
          · refine lv_iload_n F.1 F.2.1 dX4_as_51 rfl (lv_at hl 3 rfl) ?_
            refine lv_iconst (v := 2) F.1 F.2.1 dX4_as_52 (by decide) ?_
            refine lv_icmp_ne (tgt := 65) F.1 F.2.1 dX4_as_53 (by decide) (fun k7 => ?_) (fun k7 => ?_)
            · refine lv_iconst (v := 0) F.1 F.2.1 dX4_as_65 (by decide) ?_
              refine g_top (bi (decide (a2 = 0) || (decide (a2 = pf m (ix a1) 0) || (decide (a2 = 1) && decide (pf m (ix a1) 0 = 4) || decide (a2 = 2) && decide (pf m (ix a1) 0 = 5))))) (by first | (simp [bi, k1, k2, k4, k5, k6, k7]; done) | (clear e_a1; simp_all [bi]; done)) ?_
              exact jn66 _ _ _ hP hD hS (lv_sub hl [0, 1, 2, 3] rfl)
            · refine lv_iload_n F.1 F.2.1 dX4_as_56 rfl (lv_at hl 0 rfl) ?_
              refine lv_iconst (v := 5) F.1 F.2.1 dX4_as_57 (by decide) ?_
              refine lv_icmp_ne (tgt := 65) F.1 F.2.1 dX4_as_58 (by decide) (fun k8 => ?_) (fun k8 => ?_)
              · refine lv_iconst (v := 0) F.1 F.2.1 dX4_as_65 (by decide) ?_
                refine g_top (bi (decide (a2 = 0) || (decide (a2 = pf m (ix a1) 0) || (decide (a2 = 1) && decide (pf m (ix a1) 0 = 4) || decide (a2 = 2) && decide (pf m (ix a1) 0 = 5))))) (by first | (simp [bi, k1, k2, k4, k5, k6, k7, k8]; done) | (clear e_a1; simp_all [bi]; done)) ?_
                exact jn66 _ _ _ hP hD hS (lv_sub hl [0, 1, 2, 3] rfl)
              · refine lv_iconst (v := 1) F.1 F.2.1 dX4_as_61 (by decide) ?_
                refine lv_goto (tgt := 66) F.1 F.2.1 dX4_as_62 (by decide) ?_
                refine g_top (bi (decide (a2 = 0) || (decide (a2 = pf m (ix a1) 0) || (decide (a2 = 1) && decide (pf m (ix a1) 0 = 4) || decide (a2 = 2) && decide (pf m (ix a1) 0 = 5))))) (by first | (simp [bi, k1, k2, k4, k5, k6, k7, k8]; done) | (clear e_a1; simp_all [bi]; done)) ?_
                exact jn66 _ _ _ hP hD hS (lv_sub hl [0, 1, 2, 3] rfl)
          · refine lv_iload_n F.1 F.2.1 dX4_as_46 rfl (lv_at hl 0 rfl) ?_
            refine lv_iconst (v := 4) F.1 F.2.1 dX4_as_47 (by decide) ?_
            refine lv_icmp_eq (tgt := 61) F.1 F.2.1 dX4_as_48 (by decide) (fun k9 => ?_) (fun k9 => ?_)
            · refine lv_iconst (v := 1) F.1 F.2.1 dX4_as_61 (by decide) ?_
              refine lv_goto (tgt := 66) F.1 F.2.1 dX4_as_62 (by decide) ?_
              refine g_top (bi (decide (a2 = 0) || (decide (a2 = pf m (ix a1) 0) || (decide (a2 = 1) && decide (pf m (ix a1) 0 = 4) || decide (a2 = 2) && decide (pf m (ix a1) 0 = 5))))) (by first | (simp [bi, k1, k2, k4, k5, k6, k9]; done) | (clear e_a1; simp_all [bi]; done)) ?_
              exact jn66 _ _ _ hP hD hS (lv_sub hl [0, 1, 2, 3] rfl)
            · refine lv_iload_n F.1 F.2.1 dX4_as_51 rfl (lv_at hl 3 rfl) ?_
              refine lv_iconst (v := 2) F.1 F.2.1 dX4_as_52 (by decide) ?_
              refine lv_icmp_ne (tgt := 65) F.1 F.2.1 dX4_as_53 (by decide) (fun k10 => ?_) (fun k10 => ?_)
              · refine lv_iconst (v := 0) F.1 F.2.1 dX4_as_65 (by decide) ?_
                refine g_top (bi (decide (a2 = 0) || (decide (a2 = pf m (ix a1) 0) || (decide (a2 = 1) && decide (pf m (ix a1) 0 = 4) || decide (a2 = 2) && decide (pf m (ix a1) 0 = 5))))) (by first | (simp [bi, k1, k2, k4, k5, k6, k9, k10]; done) | (clear e_a1; simp_all [bi]; done)) ?_
                exact jn66 _ _ _ hP hD hS (lv_sub hl [0, 1, 2, 3] rfl)
              · refine lv_iload_n F.1 F.2.1 dX4_as_56 rfl (lv_at hl 0 rfl) ?_
                refine lv_iconst (v := 5) F.1 F.2.1 dX4_as_57 (by decide) ?_
                refine lv_icmp_ne (tgt := 65) F.1 F.2.1 dX4_as_58 (by decide) (fun k11 => ?_) (fun k11 => ?_)
                · refine lv_iconst (v := 0) F.1 F.2.1 dX4_as_65 (by decide) ?_
                  refine g_top (bi (decide (a2 = 0) || (decide (a2 = pf m (ix a1) 0) || (decide (a2 = 1) && decide (pf m (ix a1) 0 = 4) || decide (a2 = 2) && decide (pf m (ix a1) 0 = 5))))) (by first | (simp [bi, k1, k2, k4, k5, k6, k9, k10, k11]; done) | (clear e_a1; simp_all [bi]; done)) ?_
                  exact jn66 _ _ _ hP hD hS (lv_sub hl [0, 1, 2, 3] rfl)
                · refine lv_iconst (v := 1) F.1 F.2.1 dX4_as_61 (by decide) ?_
                  refine lv_goto (tgt := 66) F.1 F.2.1 dX4_as_62 (by decide) ?_
                  refine g_top (bi (decide (a2 = 0) || (decide (a2 = pf m (ix a1) 0) || (decide (a2 = 1) && decide (pf m (ix a1) 0 = 4) || decide (a2 = 2) && decide (pf m (ix a1) 0 = 5))))) (by first | (simp [bi, k1, k2, k4, k5, k6, k9, k10, k11]; done) | (clear e_a1; simp_all [bi]; done)) ?_
                  exact jn66 _ _ _ hP hD hS (lv_sub hl [0, 1, 2, 3] rfl)
    · refine lv_aload_n F.1 F.2.1 dX4_as_18 rfl (lv_at hl 0 rfl) ?_
      refine lv_ldc (v := (-1000000001)) F.1 F.2.1 F.2.2.2.1 (F.2.2.2.2 _ (mm 1 rfl)) dX4_as_19 ?_
      refine g_goI (wr := [(qm, .inl (eI E, 75, .inl m))]) (g_runV (As := [.int (-1000000001)]) (rest := []) F hX hP hD hS hA (c_X4_finds l E h fs qf fd (-1000000001) 0 (by first | assumption | rfl) (by decide +kernel) (by decide) H.size) (cwV 1 F.2.2.2.2 gX4_as_X4_finds rfl rfl rfl (by decide +kernel) ⟨Nat.le_of_ble_eq_true rfl, Nat.le_of_ble_eq_true rfl⟩) [0, 2] rfl rfl (q0 := 0) (ci := 4) rfl rfl rfl hl.1 rfl (Nat.le_of_ble_eq_true rfl) dX4_as_21 ⟨Nat.le_refl _, Nat.le_refl _⟩) hP hD hS hA [0, 2] [1] rfl rfl rfl (by decide) (fun r _ H locs hq hP hD hS => ?_)
      have hP : va_P (eD E) vwCl [(h, .inr (4, fs)), (qm, .inl (eI E, 75, .inl m)), (qf, .inl (eI E, 7, .inl (upd fd 0 (fd 0 + 1))))] H := hP.sub [1, 0, 2] rfl
      have hD : va_D A [(h, .inr (4, fs)), (qm, .inl (eI E, 75, .inl m)), (qf, .inl (eI E, 7, .inl (upd fd 0 (fd 0 + 1))))] := hD.sub [1, 0, 2] (by decide) rfl
      subst hq
      exact g_reti F hr hlk (vp_nar_int _) hS hP hD (upd fd 0 (fd 0 + 1)) (rfl) (by unfold mn_as; (try simp only [k1, k2, and_self, true_and, and_true, if_true, Bool.false_eq_true, false_and, and_false, if_false]); all_goals simp [fn, k1, k2]) dX4_as_24
def mn_minutes (P : Nat) (m fd : Nat → Int32) (a1 : Int32) : Int32 × (Nat → Int32) × (Nat → Int32) := if inR a1 1 200 = true then (if m 0 + a1 ≤ 99999 then (whM (itM P m (ix a1)) P, itM P m (ix a1), fd) else (-1000000005, m, fn fd 4)) else (-1000000001, m, fn fd 0)
set_option maxHeartbeats 4000000 in
set_option maxRecDepth 100000 in
theorem c_X4_minutes (l : Launch) (E : gE) (h : Nat) (fs : List Value) (qm : Nat) (qf : Nat) (m : Nat → Int32) (fd : Nat → Int32) (P : Nat) (a1 : Int32) (hf0 : fs[0]? = some (.ref qm)) (hf4 : fs[4]? = some (.ref qf)) (hm4 : m 4 = nI P) (hP8 : P ≤ 8) : gI l yX4_minutes wsX4_minutes ({ frames := 8, cells := 0, slots := 0, locals := 169 }) E [(h, .inr (4, fs)), (qm, .inl (eI E, 75, .inl m)), (qf, .inl (eI E, 7, .inl fd))] (fun u : (Nat → Int32) × (Nat → Int32) => [(h, .inr (4, fs)), (qm, .inl (eI E, 75, .inl u.1)), (qf, .inl (eI E, 7, .inl u.2))]) [.ref h, .int a1] (fun (r : Int32) (u : (Nat → Int32) × (Nat → Int32)) => (r, u) = mn_minutes P m fd a1) := by
  have hin4 : ∀ w ∈ wsX40, w ∈ wsX4_minutes := (fun _ h => (List.mem_cons_of_mem _ (List.mem_append_right _ h)))
  refine gI.of (cc := cX4_minutes) (maxL := 2) (by decide) rfl (Nat.le_of_ble_eq_true rfl) ?_
  intro pG eG sG mG below meth cG A ls H locs F hr hlk hX hP hD hA hS hl
  have hl : lv_has ls 2 [(0, .ref h), (1, .int a1)] := hl
  refine lv_iload_n F.1 F.2.1 dX4_minutes_0 rfl (lv_at hl 1 rfl) ?_
  refine lv_i2l (v := (a1 : Int32).toInt64) F.1 F.2.1 dX4_minutes_1 rfl ?_
  refine lv_iconst (v := 1) F.1 F.2.1 dX4_minutes_2 (by decide) ?_
  refine lv_sipush (v := 200) F.1 F.2.1 dX4_minutes_3 (by decide) ?_
  refine g_goIr (g_runS (As := [.long ((a1 : Int32).toInt64), .int 1, .int 200]) (rest := []) F hX hP hD hS hA (c_X4_in_i l E a1 1 200 H.size) (va_cwS 3 F.2.2.2.2 gX4_minutes_X4_in rfl rfl rfl (by decide +kernel) ⟨Nat.le_of_ble_eq_true rfl, Nat.le_of_ble_eq_true rfl⟩) [] rfl rfl rfl hl.1 rfl (Nat.le_of_ble_eq_true rfl) dX4_minutes_6 ⟨Nat.le_refl _, Nat.le_refl _⟩) hP hD hS hA [] rfl (fun r _ H locs hq hP hS => ?_)
  subst hq
  refine g_bne (tgt := 19) F dX4_minutes_9 (by decide) (fun k1 => ?_) (fun k1 => ?_)
  · refine lv_aload_n F.1 F.2.1 dX4_minutes_19 rfl (lv_at hl 0 rfl) ?_
    refine g_get F hX hP hin4 0 rfl rfl 0 (by decide) (mm 2 rfl) hf0 dX4_minutes_20 ?_
    refine lv_iconst (v := 0) F.1 F.2.1 dX4_minutes_23 (by decide) ?_
    refine g_iald F hX hP 1 rfl (j := 0) (rfl) (by decide) (by decide) dX4_minutes_24 ?_
    refine lv_iload_n F.1 F.2.1 dX4_minutes_25 rfl (lv_at hl 1 rfl) ?_
    refine lv_iadd F.1 F.2.1 dX4_minutes_26 ?_
    refine lv_ldc (v := 99999) F.1 F.2.1 F.2.2.2.1 (F.2.2.2.2 _ (mm 3 rfl)) dX4_minutes_27 ?_
    refine lv_icmp_le (tgt := 39) F.1 F.2.1 dX4_minutes_29 (by decide) (fun k2 => ?_) (fun k2 => ?_)
    · obtain ⟨e_a1, b_a1⟩ := ix_of 200 k1 (by decide) (by decide)
      have hl : lv_has ls 2 [(0, .ref h), (1, .int (nI (ix a1)))] := by rw [← e_a1]; exact hl
      refine lv_aload_n F.1 F.2.1 dX4_minutes_39 rfl (lv_at hl 0 rfl) ?_
      refine lv_iload_n F.1 F.2.1 dX4_minutes_40 rfl (lv_at hl 1 rfl) ?_
      refine g_goV (wr := [(qf, .inl (eI E, 7, .inl fd))]) (g_runV (As := [.int (nI (ix a1))]) (rest := []) F hX hP hD hS hA (c_X4_goesFor l E h fs qm m P (ix a1) (by first | assumption | rfl) (by assumption) (by assumption) (by omega) H.size) (cwV 1 F.2.2.2.2 gX4_minutes_X4_goesFor rfl rfl rfl (by decide +kernel) ⟨Nat.le_of_ble_eq_true rfl, Nat.le_of_ble_eq_true rfl⟩) [0, 1] rfl rfl (q0 := 0) (ci := 4) rfl rfl rfl hl.1 rfl (Nat.le_of_ble_eq_true rfl) dX4_minutes_41 ⟨Nat.le_refl _, Nat.le_refl _⟩) hP hD hS hA [0, 1] [2] rfl rfl rfl (by decide) (fun _ H locs hq hP hD hS => ?_)
      have hP : va_P (eD E) vwCl [(h, .inr (4, fs)), (qm, .inl (eI E, 75, .inl (itM P m (ix a1)))), (qf, .inl (eI E, 7, .inl fd))] H := hP.sub [1, 2, 0] rfl
      have hD : va_D A [(h, .inr (4, fs)), (qm, .inl (eI E, 75, .inl (itM P m (ix a1)))), (qf, .inl (eI E, 7, .inl fd))] := hD.sub [1, 2, 0] (by decide) rfl
      refine lv_aload_n F.1 F.2.1 dX4_minutes_44 rfl (lv_at hl 0 rfl) ?_
      refine g_goIr (g_runV (As := []) (rest := []) F hX hP hD hS hA (c_X4_insiders l E h fs qm (itM P m (ix a1)) P (by first | assumption | rfl) ((itM_lo P m (by decide) (by decide) (ix a1)).trans hm4) (by assumption) H.size) (cwV 0 F.2.2.2.2 gX4_minutes_X4_insiders rfl rfl rfl (by decide +kernel) ⟨Nat.le_of_ble_eq_true rfl, Nat.le_of_ble_eq_true rfl⟩) [0, 1] rfl rfl (q0 := 0) (ci := 4) rfl rfl rfl hl.1 rfl (Nat.le_of_ble_eq_true rfl) dX4_minutes_45 ⟨Nat.le_refl _, Nat.le_refl _⟩) hP hD hS hA [0, 1] rfl (fun r _ H locs hq hP hS => ?_)
      subst hq
      exact g_reti F hr hlk (vp_nar_int _) hS hP hD ((itM P m (ix a1), fd)) (rfl) (by unfold mn_minutes; (try simp only [k1, and_self, true_and, and_true, if_true, Bool.false_eq_true, false_and, and_false, if_false]); all_goals simp [fn, k1, k2]) dX4_minutes_48
    · refine lv_aload_n F.1 F.2.1 dX4_minutes_32 rfl (lv_at hl 0 rfl) ?_
      refine lv_ldc (v := (-1000000005)) F.1 F.2.1 F.2.2.2.1 (F.2.2.2.2 _ (mm 4 rfl)) dX4_minutes_33 ?_
      refine g_goI (wr := [(qm, .inl (eI E, 75, .inl m))]) (g_runV (As := [.int (-1000000005)]) (rest := []) F hX hP hD hS hA (c_X4_finds l E h fs qf fd (-1000000005) 4 (by first | assumption | rfl) (by decide +kernel) (by decide) H.size) (cwV 1 F.2.2.2.2 gX4_minutes_X4_finds rfl rfl rfl (by decide +kernel) ⟨Nat.le_of_ble_eq_true rfl, Nat.le_of_ble_eq_true rfl⟩) [0, 2] rfl rfl (q0 := 0) (ci := 4) rfl rfl rfl hl.1 rfl (Nat.le_of_ble_eq_true rfl) dX4_minutes_35 ⟨Nat.le_refl _, Nat.le_refl _⟩) hP hD hS hA [0, 2] [1] rfl rfl rfl (by decide) (fun r _ H locs hq hP hD hS => ?_)
      have hP : va_P (eD E) vwCl [(h, .inr (4, fs)), (qm, .inl (eI E, 75, .inl m)), (qf, .inl (eI E, 7, .inl (upd fd 4 (fd 4 + 1))))] H := hP.sub [1, 0, 2] rfl
      have hD : va_D A [(h, .inr (4, fs)), (qm, .inl (eI E, 75, .inl m)), (qf, .inl (eI E, 7, .inl (upd fd 4 (fd 4 + 1))))] := hD.sub [1, 0, 2] (by decide) rfl
      subst hq
      exact g_reti F hr hlk (vp_nar_int _) hS hP hD ((m, upd fd 4 (fd 4 + 1))) (rfl) (by unfold mn_minutes; (try simp only [k1, and_self, true_and, and_true, if_true, Bool.false_eq_true, false_and, and_false, if_false]); all_goals simp [fn, k1, k2]) dX4_minutes_38
  · refine lv_aload_n F.1 F.2.1 dX4_minutes_12 rfl (lv_at hl 0 rfl) ?_
    refine lv_ldc (v := (-1000000001)) F.1 F.2.1 F.2.2.2.1 (F.2.2.2.2 _ (mm 1 rfl)) dX4_minutes_13 ?_
    refine g_goI (wr := [(qm, .inl (eI E, 75, .inl m))]) (g_runV (As := [.int (-1000000001)]) (rest := []) F hX hP hD hS hA (c_X4_finds l E h fs qf fd (-1000000001) 0 (by first | assumption | rfl) (by decide +kernel) (by decide) H.size) (cwV 1 F.2.2.2.2 gX4_minutes_X4_finds rfl rfl rfl (by decide +kernel) ⟨Nat.le_of_ble_eq_true rfl, Nat.le_of_ble_eq_true rfl⟩) [0, 2] rfl rfl (q0 := 0) (ci := 4) rfl rfl rfl hl.1 rfl (Nat.le_of_ble_eq_true rfl) dX4_minutes_15 ⟨Nat.le_refl _, Nat.le_refl _⟩) hP hD hS hA [0, 2] [1] rfl rfl rfl (by decide) (fun r _ H locs hq hP hD hS => ?_)
    have hP : va_P (eD E) vwCl [(h, .inr (4, fs)), (qm, .inl (eI E, 75, .inl m)), (qf, .inl (eI E, 7, .inl (upd fd 0 (fd 0 + 1))))] H := hP.sub [1, 0, 2] rfl
    have hD : va_D A [(h, .inr (4, fs)), (qm, .inl (eI E, 75, .inl m)), (qf, .inl (eI E, 7, .inl (upd fd 0 (fd 0 + 1))))] := hD.sub [1, 0, 2] (by decide) rfl
    subst hq
    exact g_reti F hr hlk (vp_nar_int _) hS hP hD ((m, upd fd 0 (fd 0 + 1))) (rfl) (by unfold mn_minutes; (try simp only [k1, and_self, true_and, and_true, if_true, Bool.false_eq_true, false_and, and_false, if_false]); all_goals simp [fn, k1]) dX4_minutes_18
