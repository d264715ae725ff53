def sp_sheet (bt_ : Int32) (Z : Nat) (nu : Nat → Int64) (fd : Nat → Int32) (a1 a2 a3 : Int32) : Int32 × Int32 × Nat × (Nat → Int64) × (Nat → Int32) := if inR a1 0 3 = true ∧ isW a2 = true then (if 0 ≤ a3 then (if a3 ≤ 40 then (nI (if a2 = 0 then 0 else ix a3), a2, (if a2 = 0 then 0 else ix a3), (fun _ => 0), fd) else (-1000000001, bt_, Z, nu, fn fd 0)) else (-1000000007, bt_, Z, nu, fn fd 6)) else (-1000000001, bt_, Z, nu, fn fd 0)
theorem nI_ge0 {x : Int32} (h : 0 ≤ x) : x = nI (ix x) := nI_ix (Int32.le_iff_toInt_le.mp h)
set_option maxHeartbeats 4000000 in
set_option maxRecDepth 100000 in
theorem c_X3_sheet (l : Launch) (E : gE) (x : Nat) (fx : List Value) (qS : Nat) (qf : Nat) (sf : Nat → Option Nat) (sa : Nat) (bt_ : Int32) (Z : Nat) (nb : Nat) (nu : Nat → Int64) (fd : Nat → Int32) (a1 : Int32) (a2 : Int32) (a3 : Int32) (hx4 : fx[4]? = some (.ref qS)) (hx5 : fx[5]? = some (.ref qf)) (hZ : Z ≤ 40) (hsf : inR a1 0 3 = true → sf (ix a1) = some sa) : gI l yX3_sheet wsX3_sheet ({ frames := 2, cells := 0, slots := 0, locals := 44 }) E [(x, .inr (3, fx)), (qS, .inl (eS E, 4, .inr (.inr (.inr (.inr sf))))), (sa, .inr (0, [.int bt_, .int (nI Z), .ref nb])), (nb, .inl (eJ E, 40, .inr (.inl nu))), (qf, .inl (eI E, 7, .inl fd))] (fun u : Int32 × Nat × (Nat → Int64) × (Nat → Int32) => [(x, .inr (3, fx)), (qS, .inl (eS E, 4, .inr (.inr (.inr (.inr sf))))), (sa, .inr (0, [.int u.1, .int (nI u.2.1), .ref nb])), (nb, .inl (eJ E, 40, .inr (.inl u.2.2.1))), (qf, .inl (eI E, 7, .inl u.2.2.2))]) [.ref x, .int a1, .int a2, .int a3] (fun (r : Int32) (u : Int32 × Nat × (Nat → Int64) × (Nat → Int32)) => (r, u) = sp_sheet bt_ Z nu fd a1 a2 a3) := by
  have hin0 : ∀ w ∈ wsX00, w ∈ wsX3_sheet := (fun _ h => (List.mem_cons_of_mem _ (List.mem_append_right _ h)))
  have hin3 : ∀ w ∈ wsX30, w ∈ wsX3_sheet := (fun _ h => (List.mem_cons_of_mem _ (List.mem_append_left _ (List.mem_append_right _ h))))
  refine gI.of (cc := cX3_sheet) (maxL := 4) (by decide) rfl (Nat.le_of_ble_eq_true rfl) ?_
  intro pG eG sG mG below meth cG A ls H locs F hr hlk hX hP hD hA hS hl
  have hl : lv_has ls 4 [(0, .ref x), (1, .int a1), (2, .int a2), (3, .int a3)] := hl
  refine lv_iload_n F.1 F.2.1 dX3_sheet_0 rfl (lv_at hl 1 rfl) ?_
  refine g_goIr (g_runS (As := [.int a1]) (rest := []) F hX hP hD hS hA (c_X3_isSheet l E a1 H.size) (va_cwS 1 F.2.2.2.2 gX3_sheet_X3_isSheet rfl rfl rfl (by decide +kernel) ⟨Nat.le_of_ble_eq_true rfl, Nat.le_of_ble_eq_true rfl⟩) [] rfl rfl rfl hl.1 rfl (Nat.le_of_ble_eq_true rfl) dX3_sheet_1 ⟨Nat.le_refl _, Nat.le_refl _⟩) hP hD hS hA [] rfl (fun r _ H locs hq hP hS => ?_)
  subst hq
  refine g_beq (tgt := 14) F dX3_sheet_4 (by decide) (fun k1 => ?_) (fun k1 => ?_)
  · refine lv_aload_n F.1 F.2.1 dX3_sheet_14 rfl (lv_at hl 0 rfl) ?_
    refine lv_ldc (v := (-1000000001)) F.1 F.2.1 F.2.2.2.1 (F.2.2.2.2 _ (mm 1 rfl)) dX3_sheet_15 ?_
    refine g_goI (wr := [(qS, .inl (eS E, 4, .inr (.inr (.inr (.inr sf))))), (sa, .inr (0, [.int bt_, .int (nI Z), .ref nb])), (nb, .inl (eJ E, 40, .inr (.inl nu)))]) (g_runV (As := [.int (-1000000001)]) (rest := []) F hX hP hD hS hA (c_X3_found l E x fx qf fd (-1000000001) 0 (by first | assumption | rfl) (by decide +kernel) (by decide) H.size) (cwV 1 F.2.2.2.2 gX3_sheet_X3_found rfl rfl rfl (by decide +kernel) ⟨Nat.le_of_ble_eq_true rfl, Nat.le_of_ble_eq_true rfl⟩) [0, 4] rfl rfl (q0 := 0) (ci := 3) rfl rfl rfl hl.1 rfl (Nat.le_of_ble_eq_true rfl) dX3_sheet_17 ⟨Nat.le_refl _, Nat.le_refl _⟩) hP hD hS hA [0, 4] [1, 2, 3] rfl rfl rfl (by decide) (fun r _ H locs hq hP hD hS => ?_)
    have hP : va_P (eD E) vwCl [(x, .inr (3, fx)), (qS, .inl (eS E, 4, .inr (.inr (.inr (.inr sf))))), (sa, .inr (0, [.int bt_, .int (nI Z), .ref nb])), (nb, .inl (eJ E, 40, .inr (.inl nu))), (qf, .inl (eI E, 7, .inl (fn fd 0)))] H := hP.sub [3, 0, 1, 2, 4] rfl
    have hD : va_D A [(x, .inr (3, fx)), (qS, .inl (eS E, 4, .inr (.inr (.inr (.inr sf))))), (sa, .inr (0, [.int bt_, .int (nI Z), .ref nb])), (nb, .inl (eJ E, 40, .inr (.inl nu))), (qf, .inl (eI E, 7, .inl (fn fd 0)))] := hD.sub [3, 0, 1, 2, 4] (by decide) rfl
    subst hq
    exact g_reti F hr hlk (vp_nar_int _) hS hP hD ((bt_, Z, nu, fn fd 0)) (rfl) (by unfold sp_sheet; (try simp only [k1, and_self, true_and, and_true, if_true, Bool.false_eq_true, false_and, and_false, if_false]); all_goals simp [k1]) dX3_sheet_20
  · refine lv_iload_n F.1 F.2.1 dX3_sheet_7 rfl (lv_at hl 2 rfl) ?_
    refine g_goIr (g_runS (As := [.int a2]) (rest := []) F hX hP hD hS hA (c_X3_isWidthOfNumbers l E a2 H.size) (va_cwS 1 F.2.2.2.2 gX3_sheet_X3_isWidthOfNumbers rfl rfl rfl (by decide +kernel) ⟨Nat.le_of_ble_eq_true rfl, Nat.le_of_ble_eq_true rfl⟩) [] rfl rfl rfl hl.1 rfl (Nat.le_of_ble_eq_true rfl) dX3_sheet_8 ⟨Nat.le_refl _, Nat.le_refl _⟩) hP hD hS hA [] rfl (fun r _ H locs hq hP hS => ?_)
    subst hq
    refine g_bne (tgt := 21) F dX3_sheet_11 (by decide) (fun k2 => ?_) (fun k2 => ?_)
    · refine lv_iload_n F.1 F.2.1 dX3_sheet_21 rfl (lv_at hl 3 rfl) ?_
      refine lv_if_ge (tgt := 32) F.1 F.2.1 dX3_sheet_22 (by decide) (fun k3 => ?_) (fun k3 => ?_)
      · refine lv_iload_n F.1 F.2.1 dX3_sheet_32 rfl (lv_at hl 3 rfl) ?_
        refine lv_bipush (v := 40) F.1 F.2.1 dX3_sheet_33 (by decide) ?_
        refine lv_icmp_le (tgt := 45) F.1 F.2.1 dX3_sheet_35 (by decide) (fun k4 => ?_) (fun k4 => ?_)
        · obtain ⟨e_a1, b_a1⟩ := ix_of 3 k1 (by decide) (by decide)
          have hl : lv_has ls 4 [(0, .ref x), (1, .int (nI (ix a1))), (2, .int a2), (3, .int a3)] := by rw [← e_a1]; exact hl
          have e_a3 := nI_ge0 k3
          have hl : lv_has ls 4 [(0, .ref x), (1, .int (nI (ix a1))), (2, .int a2), (3, .int (nI (ix a3)))] := by rw [← e_a3]; exact hl
          refine lv_aload_n F.1 F.2.1 dX3_sheet_45 rfl (lv_at hl 0 rfl) ?_
          refine g_get F hX hP hin3 0 rfl rfl 4 (by decide) (mm 3 rfl) hx4 dX3_sheet_46 ?_
          refine lv_iload_n F.1 F.2.1 dX3_sheet_49 rfl (lv_at hl 1 rfl) ?_
          refine g_aald F hX hP 1 rfl (j := ix a1) (rfl) (by omega) (by decide) (v := sa) (hsf k1) dX3_sheet_50 ?_
          refine lv_iload_n F.1 F.2.1 dX3_sheet_51 rfl (lv_at hl 2 rfl) ?_
          refine lv_iload_n F.1 F.2.1 dX3_sheet_52 rfl (lv_at hl 2 rfl) ?_
          have jn61 : ∀ (H : Heap) (locs : List Loc) (ls : Array Slot), va_P (eD E) vwCl [(x, .inr (3, fx)), (qS, .inl (eS E, 4, .inr (.inr (.inr (.inr sf))))), (sa, .inr (0, [.int bt_, .int (nI Z), .ref nb])), (nb, .inl (eJ E, 40, .inr (.inl nu))), (qf, .inl (eI E, 7, .inl fd))] H → va_D A [(x, .inr (3, fx)), (qS, .inl (eS E, 4, .inr (.inr (.inr (.inr sf))))), (sa, .inr (0, [.int bt_, .int (nI Z), .ref nb])), (nb, .inl (eJ E, 40, .inr (.inl nu))), (qf, .inl (eI E, 7, .inl fd))] → va_S A sG.heap H locs → lv_has ls 4 [(0, .ref x), (1, .int (nI (ix a1))), (2, .int a2), (3, .int (nI (ix a3)))] → W pG l eG { frames := 2, cells := 0, slots := 0, locals := 44 } sG mG [.ref x, .int a1, .int a2, .int a3].toArray below meth cG H locs 0 0 (MQ below (va_Qi (fun (r : Int32) (u : Int32 × Nat × (Nat → Int64) × (Nat → Int32)) => (r, u) = sp_sheet bt_ Z nu fd a1 a2 a3) (gR E (fun u : Int32 × Nat × (Nat → Int64) × (Nat → Int32) => [(x, .inr (3, fx)), (qS, .inl (eS E, 4, .inr (.inr (.inr (.inr sf))))), (sa, .inr (0, [.int u.1, .int (nI u.2.1), .ref nb])), (nb, .inl (eJ E, 40, .inr (.inl u.2.2.1))), (qf, .inl (eI E, 7, .inl u.2.2.2))]) A) A) [.ref x, .int a1, .int a2, .int a3].toArray sG 0 0 A) (F0 mG 61 ls [.int (nI (if a2 = 0 then 0 else ix a3)), .int a2, .ref sa]) := by
            intro H locs ls hP hD hS hl
            refine g_goV (wr := [(x, .inr (3, fx)), (qS, .inl (eS E, 4, .inr (.inr (.inr (.inr sf))))), (qf, .inl (eI E, 7, .inl fd))]) (g_runV (As := [.int a2, .int (nI (if a2 = 0 then 0 else ix a3))]) (rest := []) F hX hP hD hS hA (c_X0_begin l E sa bt_ Z nb nu a2 (if a2 = 0 then 0 else ix a3) H.size) (cwV 2 F.2.2.2.2 gX3_sheet_X0_begin rfl rfl rfl (by decide +kernel) ⟨Nat.le_of_ble_eq_true rfl, Nat.le_of_ble_eq_true rfl⟩) [2, 3] rfl rfl (q0 := 2) (ci := 0) rfl rfl rfl hl.1 rfl (Nat.le_of_ble_eq_true rfl) dX3_sheet_61 ⟨Nat.le_refl _, Nat.le_refl _⟩) hP hD hS hA [2, 3] [0, 1, 4] rfl rfl rfl (by decide) (fun _ H locs hq hP hD hS => ?_)
            have hP : va_P (eD E) vwCl [(x, .inr (3, fx)), (qS, .inl (eS E, 4, .inr (.inr (.inr (.inr sf))))), (sa, .inr (0, [.int a2, .int (nI (if a2 = 0 then 0 else ix a3)), .ref nb])), (nb, .inl (eJ E, 40, .inr (.inl (fun _ => 0)))), (qf, .inl (eI E, 7, .inl fd))] H := hP.sub [0, 1, 3, 4, 2] rfl
            have hD : va_D A [(x, .inr (3, fx)), (qS, .inl (eS E, 4, .inr (.inr (.inr (.inr sf))))), (sa, .inr (0, [.int a2, .int (nI (if a2 = 0 then 0 else ix a3)), .ref nb])), (nb, .inl (eJ E, 40, .inr (.inl (fun _ => 0)))), (qf, .inl (eI E, 7, .inl fd))] := hD.sub [0, 1, 3, 4, 2] (by decide) rfl
            refine lv_aload_n F.1 F.2.1 dX3_sheet_64 rfl (lv_at hl 0 rfl) ?_
            refine g_get F hX hP hin3 0 rfl rfl 4 (by decide) (mm 3 rfl) hx4 dX3_sheet_65 ?_
            refine lv_iload_n F.1 F.2.1 dX3_sheet_68 rfl (lv_at hl 1 rfl) ?_
            refine g_aald F hX hP 1 rfl (j := ix a1) (rfl) (by omega) (by decide) (v := sa) (hsf k1) dX3_sheet_69 ?_
            refine g_get F hX hP hin0 2 rfl rfl 1 (by decide) (mm 4 rfl) rfl dX3_sheet_70 ?_
            exact g_reti F hr hlk (vp_nar_int _) hS hP hD ((a2, (if a2 = 0 then 0 else ix a3), (fun _ => 0), fd)) (rfl) (by unfold sp_sheet; rw [if_pos (And.intro k1 k2), if_pos k3, if_pos k4]) dX3_sheet_73
          refine lv_if_ne (tgt := 60) F.1 F.2.1 dX3_sheet_53 (by decide) (fun k5 => ?_) (fun k5 => ?_)
          · refine lv_iload_n F.1 F.2.1 dX3_sheet_60 rfl (lv_at hl 3 rfl) ?_
            refine g_top (nI (if a2 = 0 then 0 else ix a3)) (by first | (rw [if_pos k5]; rfl) | (rw [if_neg k5])) ?_
            exact jn61 _ _ _ hP hD hS (lv_sub hl [0, 1, 2, 3] rfl)
          · refine lv_iconst (v := 0) F.1 F.2.1 dX3_sheet_56 (by decide) ?_
            refine lv_goto (tgt := 61) F.1 F.2.1 dX3_sheet_57 (by decide) ?_
            refine g_top (nI (if a2 = 0 then 0 else ix a3)) (by first | (rw [if_pos k5]; rfl) | (rw [if_neg k5])) ?_
            exact jn61 _ _ _ hP hD hS (lv_sub hl [0, 1, 2, 3] rfl)
        · refine lv_aload_n F.1 F.2.1 dX3_sheet_38 rfl (lv_at hl 0 rfl) ?_
          refine lv_ldc (v := (-1000000001)) F.1 F.2.1 F.2.2.2.1 (F.2.2.2.2 _ (mm 1 rfl)) dX3_sheet_39 ?_
          refine g_goI (wr := [(qS, .inl (eS E, 4, .inr (.inr (.inr (.inr sf))))), (sa, .inr (0, [.int bt_, .int (nI Z), .ref nb])), (nb, .inl (eJ E, 40, .inr (.inl nu)))]) (g_runV (As := [.int (-1000000001)]) (rest := []) F hX hP hD hS hA (c_X3_found l E x fx qf fd (-1000000001) 0 (by first | assumption | rfl) (by decide +kernel) (by decide) H.size) (cwV 1 F.2.2.2.2 gX3_sheet_X3_found rfl rfl rfl (by decide +kernel) ⟨Nat.le_of_ble_eq_true rfl, Nat.le_of_ble_eq_true rfl⟩) [0, 4] rfl rfl (q0 := 0) (ci := 3) rfl rfl rfl hl.1 rfl (Nat.le_of_ble_eq_true rfl) dX3_sheet_41 ⟨Nat.le_refl _, Nat.le_refl _⟩) hP hD hS hA [0, 4] [1, 2, 3] rfl rfl rfl (by decide) (fun r _ H locs hq hP hD hS => ?_)
          have hP : va_P (eD E) vwCl [(x, .inr (3, fx)), (qS, .inl (eS E, 4, .inr (.inr (.inr (.inr sf))))), (sa, .inr (0, [.int bt_, .int (nI Z), .ref nb])), (nb, .inl (eJ E, 40, .inr (.inl nu))), (qf, .inl (eI E, 7, .inl (fn fd 0)))] H := hP.sub [3, 0, 1, 2, 4] rfl
          have hD : va_D A [(x, .inr (3, fx)), (qS, .inl (eS E, 4, .inr (.inr (.inr (.inr sf))))), (sa, .inr (0, [.int bt_, .int (nI Z), .ref nb])), (nb, .inl (eJ E, 40, .inr (.inl nu))), (qf, .inl (eI E, 7, .inl (fn fd 0)))] := hD.sub [3, 0, 1, 2, 4] (by decide) rfl
          subst hq
          exact g_reti F hr hlk (vp_nar_int _) hS hP hD ((bt_, Z, nu, fn fd 0)) (rfl) (by unfold sp_sheet; (try simp only [k1, k2, and_self, true_and, and_true, if_true, Bool.false_eq_true, false_and, and_false, if_false]); all_goals simp [k1, k2, k3, k4]) dX3_sheet_44
      · refine lv_aload_n F.1 F.2.1 dX3_sheet_25 rfl (lv_at hl 0 rfl) ?_
        refine lv_ldc (v := (-1000000007)) F.1 F.2.1 F.2.2.2.1 (F.2.2.2.2 _ (mm 2 rfl)) dX3_sheet_26 ?_
        refine g_goI (wr := [(qS, .inl (eS E, 4, .inr (.inr (.inr (.inr sf))))), (sa, .inr (0, [.int bt_, .int (nI Z), .ref nb])), (nb, .inl (eJ E, 40, .inr (.inl nu)))]) (g_runV (As := [.int (-1000000007)]) (rest := []) F hX hP hD hS hA (c_X3_found l E x fx qf fd (-1000000007) 6 (by first | assumption | rfl) (by decide +kernel) (by decide) H.size) (cwV 1 F.2.2.2.2 gX3_sheet_X3_found rfl rfl rfl (by decide +kernel) ⟨Nat.le_of_ble_eq_true rfl, Nat.le_of_ble_eq_true rfl⟩) [0, 4] rfl rfl (q0 := 0) (ci := 3) rfl rfl rfl hl.1 rfl (Nat.le_of_ble_eq_true rfl) dX3_sheet_28 ⟨Nat.le_refl _, Nat.le_refl _⟩) hP hD hS hA [0, 4] [1, 2, 3] rfl rfl rfl (by decide) (fun r _ H locs hq hP hD hS => ?_)
        have hP : va_P (eD E) vwCl [(x, .inr (3, fx)), (qS, .inl (eS E, 4, .inr (.inr (.inr (.inr sf))))), (sa, .inr (0, [.int bt_, .int (nI Z), .ref nb])), (nb, .inl (eJ E, 40, .inr (.inl nu))), (qf, .inl (eI E, 7, .inl (fn fd 6)))] H := hP.sub [3, 0, 1, 2, 4] rfl
        have hD : va_D A [(x, .inr (3, fx)), (qS, .inl (eS E, 4, .inr (.inr (.inr (.inr sf))))), (sa, .inr (0, [.int bt_, .int (nI Z), .ref nb])), (nb, .inl (eJ E, 40, .inr (.inl nu))), (qf, .inl (eI E, 7, .inl (fn fd 6)))] := hD.sub [3, 0, 1, 2, 4] (by decide) rfl
        subst hq
        exact g_reti F hr hlk (vp_nar_int _) hS hP hD ((bt_, Z, nu, fn fd 6)) (rfl) (by unfold sp_sheet; (try simp only [k1, k2, and_self, true_and, and_true, if_true, Bool.false_eq_true, false_and, and_false, if_false]); all_goals simp [k1, k2, k3]) dX3_sheet_31
    · refine lv_aload_n F.1 F.2.1 dX3_sheet_14 rfl (lv_at hl 0 rfl) ?_
      refine lv_ldc (v := (-1000000001)) F.1 F.2.1 F.2.2.2.1 (F.2.2.2.2 _ (mm 1 rfl)) dX3_sheet_15 ?_
      refine g_goI (wr := [(qS, .inl (eS E, 4, .inr (.inr (.inr (.inr sf))))), (sa, .inr (0, [.int bt_, .int (nI Z), .ref nb])), (nb, .inl (eJ E, 40, .inr (.inl nu)))]) (g_runV (As := [.int (-1000000001)]) (rest := []) F hX hP hD hS hA (c_X3_found l E x fx qf fd (-1000000001) 0 (by first | assumption | rfl) (by decide +kernel) (by decide) H.size) (cwV 1 F.2.2.2.2 gX3_sheet_X3_found rfl rfl rfl (by decide +kernel) ⟨Nat.le_of_ble_eq_true rfl, Nat.le_of_ble_eq_true rfl⟩) [0, 4] rfl rfl (q0 := 0) (ci := 3) rfl rfl rfl hl.1 rfl (Nat.le_of_ble_eq_true rfl) dX3_sheet_17 ⟨Nat.le_refl _, Nat.le_refl _⟩) hP hD hS hA [0, 4] [1, 2, 3] rfl rfl rfl (by decide) (fun r _ H locs hq hP hD hS => ?_)
      have hP : va_P (eD E) vwCl [(x, .inr (3, fx)), (qS, .inl (eS E, 4, .inr (.inr (.inr (.inr sf))))), (sa, .inr (0, [.int bt_, .int (nI Z), .ref nb])), (nb, .inl (eJ E, 40, .inr (.inl nu))), (qf, .inl (eI E, 7, .inl (fn fd 0)))] H := hP.sub [3, 0, 1, 2, 4] rfl
      have hD : va_D A [(x, .inr (3, fx)), (qS, .inl (eS E, 4, .inr (.inr (.inr (.inr sf))))), (sa, .inr (0, [.int bt_, .int (nI Z), .ref nb])), (nb, .inl (eJ E, 40, .inr (.inl nu))), (qf, .inl (eI E, 7, .inl (fn fd 0)))] := hD.sub [3, 0, 1, 2, 4] (by decide) rfl
      subst hq
      exact g_reti F hr hlk (vp_nar_int _) hS hP hD ((bt_, Z, nu, fn fd 0)) (rfl) (by unfold sp_sheet; (try simp only [k1, k2, and_self, true_and, and_true, if_true, Bool.false_eq_true, false_and, and_false, if_false]); all_goals simp [k1, k2]) dX3_sheet_20
