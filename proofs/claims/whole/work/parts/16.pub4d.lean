def cn_status (fd : Nat → Int32) (a1 : Int32) : Int32 × (Nat → Int32) := if inR a1 0 6 = true then (fd (ix a1), fd) else if a1 = -1 then (sumF 0 fd 7, fd) else (-1000000001, fn fd 0)
def mn_status (fd : Nat → Int32) (a1 : Int32) : Int32 × (Nat → Int32) := if inR a1 (-1) 6 = true then (sumF 0 (fun k => bif (decide (a1 < 0) || decide (a1 = nI k)) then fd k else 0) 7, fd) else (-1000000001, fn fd 0)
set_option maxHeartbeats 4000000 in
set_option maxRecDepth 100000 in
theorem c_X3_status (l : Launch) (E : gE) (x : Nat) (fx : List Value) (qf : Nat) (fd : Nat → Int32) (a1 : Int32) (hx5 : fx[5]? = some (.ref qf)) : gI l yX3_status wsX3_status ({ frames := 2, cells := 0, slots := 0, locals := 44 }) E [(x, .inr (3, fx)), (qf, .inl (eI E, 7, .inl fd))] (fun u : (Nat → Int32) => [(x, .inr (3, fx)), (qf, .inl (eI E, 7, .inl u))]) [.ref x, .int a1] (fun (r : Int32) (u : (Nat → Int32)) => (r, u) = cn_status fd a1) := by
  have hin3 : ∀ w ∈ wsX30, w ∈ wsX3_status := (fun _ h => (List.mem_cons_of_mem _ (List.mem_append_right _ h)))
  refine gI.of (cc := cX3_status) (maxL := 2) (by decide) rfl (Nat.le_of_ble_eq_true rfl) ?_
  intro pG eG sG mG below meth cG A ls H locs F hr hlk hX hP hD hA hS hl
  have hl : lv_has ls 2 [(0, .ref x), (1, .int a1)] := hl
  refine lv_iload_n F.1 F.2.1 dX3_status_0 rfl (lv_at hl 1 rfl) ?_
  refine lv_iconst (v := 0) F.1 F.2.1 dX3_status_1 (by decide) ?_
  refine lv_bipush (v := 6) F.1 F.2.1 dX3_status_2 (by decide) ?_
  refine g_goIr (g_runS (As := [.int a1, .int 0, .int 6]) (rest := []) F hX hP hD hS hA (c_X3_isWithin l E a1 0 6 H.size) (va_cwS 3 F.2.2.2.2 gX3_status_X3_isWithin rfl rfl rfl (by decide +kernel) ⟨Nat.le_of_ble_eq_true rfl, Nat.le_of_ble_eq_true rfl⟩) [] rfl rfl rfl hl.1 rfl (Nat.le_of_ble_eq_true rfl) dX3_status_4 ⟨Nat.le_refl _, Nat.le_refl _⟩) hP hD hS hA [] rfl (fun r _ H locs hq hP hS => ?_)
  subst hq
  refine g_beq (tgt := 17) F dX3_status_7 (by decide) (fun k1 => ?_) (fun k1 => ?_)
  · refine lv_iload_n F.1 F.2.1 dX3_status_17 rfl (lv_at hl 1 rfl) ?_
    refine lv_iconst (v := (-1)) F.1 F.2.1 dX3_status_18 (by decide) ?_
    refine lv_icmp_ne (tgt := 34) F.1 F.2.1 dX3_status_19 (by decide) (fun k2 => ?_) (fun k2 => ?_)
    · refine lv_aload_n F.1 F.2.1 dX3_status_34 rfl (lv_at hl 0 rfl) ?_
      refine lv_ldc (v := (-1000000001)) F.1 F.2.1 F.2.2.2.1 (F.2.2.2.2 _ (mm 2 rfl)) dX3_status_35 ?_
      refine g_goI (wr := []) (g_runV (As := [.int (-1000000001)]) (rest := []) F hX hP hD hS hA (c_X3_found l E x fx qf fd (-1000000001) 0 (by first | assumption | rfl) (by decide +kernel) (by decide) H.size) (cwV 1 F.2.2.2.2 gX3_status_X3_found rfl rfl rfl (by decide +kernel) ⟨Nat.le_of_ble_eq_true rfl, Nat.le_of_ble_eq_true rfl⟩) [0, 1] rfl rfl (q0 := 0) (ci := 3) rfl rfl rfl hl.1 rfl (Nat.le_of_ble_eq_true rfl) dX3_status_37 ⟨Nat.le_refl _, Nat.le_refl _⟩) hP hD hS hA [0, 1] [] rfl rfl rfl (by decide) (fun r _ H locs hq hP hD hS => ?_)
      have hP : va_P (eD E) vwCl [(x, .inr (3, fx)), (qf, .inl (eI E, 7, .inl (fn fd 0)))] H := hP.sub [0, 1] rfl
      have hD : va_D A [(x, .inr (3, fx)), (qf, .inl (eI E, 7, .inl (fn fd 0)))] := hD.sub [0, 1] (by decide) rfl
      subst hq
      exact g_reti F hr hlk (vp_nar_int _) hS hP hD (fn fd 0) (rfl) (by unfold cn_status; (try simp only [k1, and_self, true_and, and_true, if_true, Bool.false_eq_true, false_and, and_false, if_false]); all_goals simp [k1, k2]) dX3_status_40
    · refine lv_aload_n F.1 F.2.1 dX3_status_22 rfl (lv_at hl 0 rfl) ?_
      refine g_get F hX hP hin3 0 rfl rfl 5 (by decide) (mm 1 rfl) hx5 dX3_status_23 ?_
      refine lv_bipush (v := 7) F.1 F.2.1 dX3_status_26 (by decide) ?_
      refine g_goIr (g_runS (As := [.ref qf, .int 7]) (rest := []) F hX hP hD hS hA (c_X3_sum l E qf 7 7 fd (by first | assumption | omega) H.size) (va_cwS 2 F.2.2.2.2 gX3_status_X3_sum rfl rfl rfl (by decide +kernel) ⟨Nat.le_of_ble_eq_true rfl, Nat.le_of_ble_eq_true rfl⟩) [1] rfl rfl rfl hl.1 rfl (Nat.le_of_ble_eq_true rfl) dX3_status_28 ⟨Nat.le_refl _, Nat.le_refl _⟩) hP hD hS hA [1] rfl (fun r _ H locs hq hP hS => ?_)
      subst hq
      refine lv_goto (tgt := 40) F.1 F.2.1 dX3_status_31 (by decide) ?_
      exact g_reti F hr hlk (vp_nar_int _) hS hP hD (fd) (rfl) (by unfold cn_status; (try simp only [k1, and_self, true_and, and_true, if_true, Bool.false_eq_true, false_and, and_false, if_false]); all_goals simp [k1, k2]) dX3_status_40
  · obtain ⟨e_a1, b_a1⟩ := ix_of 6 k1 (by decide) (by decide)
    have hl : lv_has ls 2 [(0, .ref x), (1, .int (nI (ix a1)))] := by rw [← e_a1]; exact hl
    refine lv_aload_n F.1 F.2.1 dX3_status_10 rfl (lv_at hl 0 rfl) ?_
    refine g_get F hX hP hin3 0 rfl rfl 5 (by decide) (mm 1 rfl) hx5 dX3_status_11 ?_
    refine lv_iload_n F.1 F.2.1 dX3_status_14 rfl (lv_at hl 1 rfl) ?_
    refine g_iald F hX hP 1 rfl (j := (ix a1)) (rfl) (by omega) (by decide) dX3_status_15 ?_
    exact g_reti F hr hlk (vp_nar_int _) hS hP hD (fd) (rfl) (by unfold cn_status; (try simp only [k1, and_self, true_and, and_true, if_true, Bool.false_eq_true, false_and, and_false, if_false]); all_goals simp [k1]) dX3_status_16
set_option maxHeartbeats 4000000 in
set_option maxRecDepth 100000 in
theorem c_X4_status (l : Launch) (E : gE) (h : Nat) (fs : List Value) (qf : Nat) (fd : Nat → Int32) (a1 : Int32) (hf4 : fs[4]? = some (.ref qf)) : gI l yX4_status wsX4_status ({ frames := 1, cells := 0, slots := 0, locals := 23 }) E [(h, .inr (4, fs)), (qf, .inl (eI E, 7, .inl fd))] (fun u : (Nat → Int32) => [(h, .inr (4, fs)), (qf, .inl (eI E, 7, .inl u))]) [.ref h, .int a1] (fun (r : Int32) (u : (Nat → Int32)) => (r, u) = mn_status fd a1) := by
  have hin4 : ∀ w ∈ wsX40, w ∈ wsX4_status := (fun _ h => (List.mem_cons_of_mem _ (List.mem_append_right _ h)))
  refine gI.of (cc := cX4_status) (maxL := 4) (by decide) rfl (Nat.le_of_ble_eq_true rfl) ?_
  intro pG eG sG mG below meth cG A ls H locs F hr hlk hX hP hD hA hS hl
  have hl : lv_has ls 4 [(0, .ref h), (1, .int a1)] := hl
  refine lv_iload_n F.1 F.2.1 dX4_status_0 rfl (lv_at hl 1 rfl) ?_
  refine lv_i2l (v := (a1 : Int32).toInt64) F.1 F.2.1 dX4_status_1 rfl ?_
  refine lv_iconst (v := (-1)) F.1 F.2.1 dX4_status_2 (by decide) ?_
  refine lv_bipush (v := 6) F.1 F.2.1 dX4_status_3 (by decide) ?_
  refine g_goIr (g_runS (As := [.long ((a1 : Int32).toInt64), .int (-1), .int 6]) (rest := []) F hX hP hD hS hA (c_X4_in_i l E a1 (-1) 6 H.size) (va_cwS 3 F.2.2.2.2 gX4_status_X4_in rfl rfl rfl (by decide +kernel) ⟨Nat.le_of_ble_eq_true rfl, Nat.le_of_ble_eq_true rfl⟩) [] rfl rfl rfl hl.1 rfl (Nat.le_of_ble_eq_true rfl) dX4_status_5 ⟨Nat.le_refl _, Nat.le_refl _⟩) hP hD hS hA [] rfl (fun r _ H locs hq hP hS => ?_)
  subst hq
  refine g_bne (tgt := 18) F dX4_status_8 (by decide) (fun k1 => ?_) (fun k1 => ?_)
  · refine lv_iconst (v := 0) F.1 F.2.1 dX4_status_18 (by decide) ?_
    refine lv_istore_n (lv' := [(2, .int 0), (0, .ref h), (1, .int a1)]) F.1 F.2.1 dX4_status_19 rfl hl (by decide) rfl (fun ls hl => ?_)
    refine lv_iconst (v := 0) F.1 F.2.1 dX4_status_20 (by decide) ?_
    refine lv_istore_n (lv' := [(3, .int 0), (2, .int 0), (0, .ref h), (1, .int a1)]) F.1 F.2.1 dX4_status_21 rfl hl (by decide) rfl (fun ls hl => ?_)
    have lp22 : ∀ (fu i : Nat), i ≤ 7 → 7 + 1 ≤ i + fu → ∀ (H : Heap) (locs : List Loc) (ls : Array Slot), va_P (eD E) vwCl [(h, .inr (4, fs)), (qf, .inl (eI E, 7, .inl fd))] H → va_D A [(h, .inr (4, fs)), (qf, .inl (eI E, 7, .inl fd))] → va_S A sG.heap H locs → lv_has ls 4 [(3, .int (nI i)), (2, .int (sumF 0 (fun k => bif (decide (a1 < 0) || decide (a1 = nI k)) then fd k else 0) i)), (0, .ref h), (1, .int a1)] → W pG l eG { frames := 1, cells := 0, slots := 0, locals := 23 } sG mG [.ref h, .int a1].toArray below meth cG H locs 0 0 (MQ below (va_Qi (fun (r : Int32) (u : (Nat → Int32)) => (r, u) = mn_status fd a1) (gR E (fun u : (Nat → Int32) => [(h, .inr (4, fs)), (qf, .inl (eI E, 7, .inl u))]) A) A) [.ref h, .int a1].toArray sG 0 0 A) (F0 mG 22 ls []) := by
      intro fu
      induction fu with
      | zero => intro i h1 h2; exact absurd h2 (by omega)
      | succ fu ih =>
        intro i hi hin   H locs ls hP hD hS hl
        refine lv_iload_n F.1 F.2.1 dX4_status_22 rfl (lv_at hl 0 rfl) ?_
        refine lv_bipush (v := 7) F.1 F.2.1 dX4_status_23 (by decide) ?_
        refine lv_icmp_ge (tgt := 56) F.1 F.2.1 dX4_status_25 (by decide) (fun k2 => ?_) (fun k2 => ?_)
        · have hiN : 7 = i := Nat.le_antisymm ((nI_leI (by omega) (by omega)).mp k2) hi
          subst hiN
          refine lv_iload_n F.1 F.2.1 dX4_status_56 rfl (lv_at hl 1 rfl) ?_
          exact g_reti F hr hlk (vp_nar_int _) hS hP hD (fd) (rfl) (by unfold mn_status; rw [if_pos k1]) dX4_status_57
        · have hiN : i < 7 := Nat.lt_of_not_le (fun h => k2 (nI_le h (by omega)))
          refine lv_iload_n F.1 F.2.1 dX4_status_28 rfl (lv_at hl 1 rfl) ?_
          refine lv_iload_n F.1 F.2.1 dX4_status_29 rfl (lv_at hl 3 rfl) ?_
          have jn48 : ∀ (H : Heap) (locs : List Loc) (ls : Array Slot), va_P (eD E) vwCl [(h, .inr (4, fs)), (qf, .inl (eI E, 7, .inl fd))] H → va_D A [(h, .inr (4, fs)), (qf, .inl (eI E, 7, .inl fd))] → va_S A sG.heap H locs → lv_has ls 4 [(3, .int (nI i)), (2, .int (sumF 0 (fun k => bif (decide (a1 < 0) || decide (a1 = nI k)) then fd k else 0) i)), (0, .ref h), (1, .int a1)] → W pG l eG { frames := 1, cells := 0, slots := 0, locals := 23 } sG mG [.ref h, .int a1].toArray below meth cG H locs 0 0 (MQ below (va_Qi (fun (r : Int32) (u : (Nat → Int32)) => (r, u) = mn_status fd a1) (gR E (fun u : (Nat → Int32) => [(h, .inr (4, fs)), (qf, .inl (eI E, 7, .inl u))]) A) A) [.ref h, .int a1].toArray sG 0 0 A) (F0 mG 48 ls [.int (bif (decide (a1 < 0) || decide (a1 = nI i)) then fd i else 0), .int (sumF 0 (fun k => bif (decide (a1 < 0) || decide (a1 = nI k)) then fd k else 0) i)]) := by
            intro H locs ls hP hD hS hl
            refine lv_iadd F.1 F.2.1 dX4_status_48 ?_
            refine lv_istore_n (lv' := [(2, .int ((sumF 0 (fun k => bif (decide (a1 < 0) || decide (a1 = nI k)) then fd k else 0) i) + (bif (decide (a1 < 0) || decide (a1 = nI i)) then fd i else 0))), (3, .int (nI i)), (0, .ref h), (1, .int a1)]) F.1 F.2.1 dX4_status_49 rfl hl (by decide) rfl (fun ls hl => ?_)
            refine lv_iinc (v := nI (i + 1)) (lv' := [(3, .int (nI (i + 1))), (2, .int ((sumF 0 (fun k => bif (decide (a1 < 0) || decide (a1 = nI k)) then fd k else 0) i) + (bif (decide (a1 < 0) || decide (a1 = nI i)) then fd i else 0))), (0, .ref h), (1, .int a1)]) F.1 F.2.1 dX4_status_50 hl (k := 1) rfl (nI_1 _) (by decide) rfl (fun ls hl => ?_)
            refine lv_goto (tgt := 22) F.1 F.2.1 dX4_status_53 (by decide) ?_
            exact ih (i + 1) (by omega) (by omega)  _ _ _ hP hD hS (lv_sub hl [0, 1, 2, 3] rfl)
          refine lv_if_lt (tgt := 38) F.1 F.2.1 dX4_status_30 (by decide) (fun k3 => ?_) (fun k3 => ?_)
          · refine lv_aload_n F.1 F.2.1 dX4_status_38 rfl (lv_at hl 2 rfl) ?_
            refine g_get F hX hP hin4 0 rfl rfl 4 (by decide) (mm 2 rfl) hf4 dX4_status_39 ?_
            refine lv_iload_n F.1 F.2.1 dX4_status_42 rfl (lv_at hl 0 rfl) ?_
            refine g_iald F hX hP 1 rfl (j := i) (rfl) (by omega) (by decide) dX4_status_43 ?_
            refine lv_goto (tgt := 48) F.1 F.2.1 dX4_status_44 (by decide) ?_
            refine g_top (bif (decide (a1 < 0) || decide (a1 = nI i)) then fd i else 0) (by first | (rw [decide_eq_true k3]; rfl) | (rw [decide_eq_false k1, decide_eq_true k3]; rfl) | (rw [decide_eq_false k1, decide_eq_false k3]; rfl)) ?_
            exact jn48 _ _ _ hP hD hS (lv_sub hl [0, 1, 2, 3] rfl)
          · refine lv_iload_n F.1 F.2.1 dX4_status_33 rfl (lv_at hl 3 rfl) ?_
            refine lv_iload_n F.1 F.2.1 dX4_status_34 rfl (lv_at hl 0 rfl) ?_
            refine lv_icmp_ne (tgt := 47) F.1 F.2.1 dX4_status_35 (by decide) (fun k4 => ?_) (fun k4 => ?_)
            · refine lv_iconst (v := 0) F.1 F.2.1 dX4_status_47 (by decide) ?_
              refine g_top (bif (decide (a1 < 0) || decide (a1 = nI i)) then fd i else 0) (by first | (rw [decide_eq_true k4]; rfl) | (rw [decide_eq_false k3, decide_eq_true k4]; rfl) | (rw [decide_eq_false k3, decide_eq_false k4]; rfl)) ?_
              exact jn48 _ _ _ hP hD hS (lv_sub hl [0, 1, 2, 3] rfl)
            · refine lv_aload_n F.1 F.2.1 dX4_status_38 rfl (lv_at hl 2 rfl) ?_
              refine g_get F hX hP hin4 0 rfl rfl 4 (by decide) (mm 2 rfl) hf4 dX4_status_39 ?_
              refine lv_iload_n F.1 F.2.1 dX4_status_42 rfl (lv_at hl 0 rfl) ?_
              refine g_iald F hX hP 1 rfl (j := i) (rfl) (by omega) (by decide) dX4_status_43 ?_
              refine lv_goto (tgt := 48) F.1 F.2.1 dX4_status_44 (by decide) ?_
              refine g_top (bif (decide (a1 < 0) || decide (a1 = nI i)) then fd i else 0) (by first | (rw [decide_eq_true k4]; rfl) | (rw [decide_eq_false k3, decide_eq_true k4]; rfl) | (rw [decide_eq_false k3, decide_eq_false k4]; rfl)) ?_
              exact jn48 _ _ _ hP hD hS (lv_sub hl [0, 1, 2, 3] rfl)
    exact lp22 (7 + 1) 0 (by omega) (by omega)  _ _ _ hP hD hS (lv_sub hl [0, 1, 2, 3] rfl)
  · refine lv_aload_n F.1 F.2.1 dX4_status_11 rfl (lv_at hl 0 rfl) ?_
    refine lv_ldc (v := (-1000000001)) F.1 F.2.1 F.2.2.2.1 (F.2.2.2.2 _ (mm 1 rfl)) dX4_status_12 ?_
    refine g_goI (wr := []) (g_runV (As := [.int (-1000000001)]) (rest := []) F hX hP hD hS hA (c_X4_finds l E h fs qf fd (-1000000001) 0 (by first | assumption | rfl) (by decide +kernel) (by decide) H.size) (cwV 1 F.2.2.2.2 gX4_status_X4_finds rfl rfl rfl (by decide +kernel) ⟨Nat.le_of_ble_eq_true rfl, Nat.le_of_ble_eq_true rfl⟩) [0, 1] rfl rfl (q0 := 0) (ci := 4) rfl rfl rfl hl.1 rfl (Nat.le_of_ble_eq_true rfl) dX4_status_14 ⟨Nat.le_refl _, Nat.le_refl _⟩) hP hD hS hA [0, 1] [] rfl rfl rfl (by decide) (fun r _ H locs hq hP hD hS => ?_)
    have hP : va_P (eD E) vwCl [(h, .inr (4, fs)), (qf, .inl (eI E, 7, .inl (upd fd 0 (fd 0 + 1))))] H := hP.sub [0, 1] rfl
    have hD : va_D A [(h, .inr (4, fs)), (qf, .inl (eI E, 7, .inl (upd fd 0 (fd 0 + 1))))] := hD.sub [0, 1] (by decide) rfl
    subst hq
    exact g_reti F hr hlk (vp_nar_int _) hS hP hD (upd fd 0 (fd 0 + 1)) (rfl) (by unfold mn_status; (try simp only [k1, and_self, true_and, and_true, if_true, Bool.false_eq_true, false_and, and_false, if_false]); all_goals simp [fn, k1]) dX4_status_17
