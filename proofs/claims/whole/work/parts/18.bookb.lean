set_option maxHeartbeats 4000000 in
set_option maxRecDepth 100000 in
theorem c_X3_copy_s (l : Launch) (E : gE) (x : Nat) (fx : List Value) (qS : Nat) (qf : Nat) (sf : Nat → Option Nat) (sa : Nat) (bt_ : Int32) (Z : Nat) (nb : Nat) (nu : Nat → Int64) (fd : Nat → Int32) (a1 : Int32) (a2 : Int32) (a3 : Int32) (a4 : Int32) (a5 : Int32) (hx4 : fx[4]? = some (.ref qS)) (hx5 : fx[5]? = some (.ref qf)) (hZ : Z ≤ 40) (hsf : inR a1 0 3 = true → sf (ix a1) = some sa) (hsg : inR a3 0 3 = true → sf (ix a3) = some sa) : gI l yX3_copy wsX3_copy ({ frames := 2, cells := 0, slots := 0, locals := 44 }) E [(x, .inr (3, fx)), (qS, .inl (eS E, 4, .inr (.inr (.inr (.inr sf))))), (sa, .inr (0, [.int bt_, .int (nI Z), .ref nb])), (nb, .inl (eJ E, 40, .inr (.inl nu))), (qf, .inl (eI E, 7, .inl fd))] (fun u : (Nat → Int64) × (Nat → Int32) => [(x, .inr (3, fx)), (qS, .inl (eS E, 4, .inr (.inr (.inr (.inr sf))))), (sa, .inr (0, [.int bt_, .int (nI Z), .ref nb])), (nb, .inl (eJ E, 40, .inr (.inl u.1))), (qf, .inl (eI E, 7, .inl u.2))]) [.ref x, .int a1, .int a2, .int a3, .int a4, .int a5] (fun (r : Int32) (u : (Nat → Int64) × (Nat → Int32)) => (r, u) = sp_copy bt_ Z nu bt_ Z nu fd a1 a2 a3 a4 a5) := by
  have hin0 : ∀ w ∈ wsX00, w ∈ wsX3_copy := (fun _ h => (List.mem_cons_of_mem _ (List.mem_append_right _ h)))
  have hin3 : ∀ w ∈ wsX30, w ∈ wsX3_copy := (fun _ h => (List.mem_cons_of_mem _ (List.mem_append_left _ (List.mem_append_right _ h))))
  refine gI.of (cc := cX3_copy) (maxL := 6) (by decide) rfl (Nat.le_of_ble_eq_true rfl) ?_
  intro pG eG sG mG below meth cG A ls H locs F hr hlk hX hP hD hA hS hl
  have hl : lv_has ls 6 [(0, .ref x), (1, .int a1), (2, .int a2), (3, .int a3), (4, .int a4), (5, .int a5)] := hl
  refine lv_iload_n F.1 F.2.1 dX3_copy_0 rfl (lv_at hl 1 rfl) ?_
  refine g_goIr (g_runS (As := [.int a1]) (rest := []) F hX hP hD hS hA (c_X3_isSheet l E a1 H.size) (va_cwS 1 F.2.2.2.2 gX3_copy_X3_isSheet rfl rfl rfl (by decide +kernel) ⟨Nat.le_of_ble_eq_true rfl, Nat.le_of_ble_eq_true rfl⟩) [] rfl rfl rfl hl.1 rfl (Nat.le_of_ble_eq_true rfl) dX3_copy_1 ⟨Nat.le_refl _, Nat.le_refl _⟩) hP hD hS hA [] rfl (fun r _ H locs hq hP hS => ?_)
  subst hq
  refine g_beq (tgt := 14) F dX3_copy_4 (by decide) (fun k1 => ?_) (fun k1 => ?_)
  · refine lv_aload_n F.1 F.2.1 dX3_copy_14 rfl (lv_at hl 0 rfl) ?_
    refine lv_ldc (v := (-1000000001)) F.1 F.2.1 F.2.2.2.1 (F.2.2.2.2 _ (mm 1 rfl)) dX3_copy_15 ?_
    refine g_goI (wr := [(qS, .inl (eS E, 4, .inr (.inr (.inr (.inr sf))))), (sa, .inr (0, [.int bt_, .int (nI Z), .ref nb])), (nb, .inl (eJ E, 40, .inr (.inl nu)))]) (g_runV (As := [.int (-1000000001)]) (rest := []) F hX hP hD hS hA (c_X3_found l E x fx qf fd (-1000000001) 0 (by first | assumption | rfl) (by decide +kernel) (by decide) H.size) (cwV 1 F.2.2.2.2 gX3_copy_X3_found rfl rfl rfl (by decide +kernel) ⟨Nat.le_of_ble_eq_true rfl, Nat.le_of_ble_eq_true rfl⟩) [0, 4] rfl rfl (q0 := 0) (ci := 3) rfl rfl rfl hl.1 rfl (Nat.le_of_ble_eq_true rfl) dX3_copy_17 ⟨Nat.le_refl _, Nat.le_refl _⟩) hP hD hS hA [0, 4] [1, 2, 3] rfl rfl rfl (by decide) (fun r _ H locs hq hP hD hS => ?_)
    have hP : va_P (eD E) vwCl [(x, .inr (3, fx)), (qS, .inl (eS E, 4, .inr (.inr (.inr (.inr sf))))), (sa, .inr (0, [.int bt_, .int (nI Z), .ref nb])), (nb, .inl (eJ E, 40, .inr (.inl nu))), (qf, .inl (eI E, 7, .inl (fn fd 0)))] H := hP.sub [3, 0, 1, 2, 4] rfl
    have hD : va_D A [(x, .inr (3, fx)), (qS, .inl (eS E, 4, .inr (.inr (.inr (.inr sf))))), (sa, .inr (0, [.int bt_, .int (nI Z), .ref nb])), (nb, .inl (eJ E, 40, .inr (.inl nu))), (qf, .inl (eI E, 7, .inl (fn fd 0)))] := hD.sub [3, 0, 1, 2, 4] (by decide) rfl
    subst hq
    exact g_reti F hr hlk (vp_nar_int _) hS hP hD ((nu, fn fd 0)) (rfl) (by first | exact absurd rfl k1 | exact absurd (k1.symm.trans k1) (by decide) | (unfold sp_copy; (try simp only [k1, and_self, true_and, and_true, if_true, Bool.false_eq_true, false_and, and_false, if_false, true_or, or_true, or_self, or_false, false_or]); all_goals simp [k1])) dX3_copy_20
  · refine lv_iload_n F.1 F.2.1 dX3_copy_7 rfl (lv_at hl 3 rfl) ?_
    refine g_goIr (g_runS (As := [.int a3]) (rest := []) F hX hP hD hS hA (c_X3_isSheet l E a3 H.size) (va_cwS 1 F.2.2.2.2 gX3_copy_X3_isSheet rfl rfl rfl (by decide +kernel) ⟨Nat.le_of_ble_eq_true rfl, Nat.le_of_ble_eq_true rfl⟩) [] rfl rfl rfl hl.1 rfl (Nat.le_of_ble_eq_true rfl) dX3_copy_8 ⟨Nat.le_refl _, Nat.le_refl _⟩) hP hD hS hA [] rfl (fun r _ H locs hq hP hS => ?_)
    subst hq
    refine g_bne (tgt := 21) F dX3_copy_11 (by decide) (fun k2 => ?_) (fun k2 => ?_)
    · obtain ⟨e_a1, b_a1⟩ := ix_of 3 k1 (by decide) (by decide)
      have hl : lv_has ls 6 [(0, .ref x), (1, .int (nI (ix a1))), (2, .int a2), (3, .int a3), (4, .int a4), (5, .int a5)] := by rw [← e_a1]; exact hl
      obtain ⟨e_a3, b_a3⟩ := ix_of 3 k2 (by decide) (by decide)
      have hl : lv_has ls 6 [(0, .ref x), (1, .int (nI (ix a1))), (2, .int a2), (3, .int (nI (ix a3))), (4, .int a4), (5, .int a5)] := by rw [← e_a3]; exact hl
      refine lv_aload_n F.1 F.2.1 dX3_copy_21 rfl (lv_at hl 0 rfl) ?_
      refine g_get F hX hP hin3 0 rfl rfl 4 (by decide) (mm 2 rfl) hx4 dX3_copy_22 ?_
      refine lv_iload_n F.1 F.2.1 dX3_copy_25 rfl (lv_at hl 1 rfl) ?_
      refine g_aald F hX hP 1 rfl (j := ix a1) (rfl) (by omega) (by decide) (v := sa) (hsf k1) dX3_copy_26 ?_
      refine g_goIr (g_runV (As := []) (rest := []) F hX hP hD hS hA (c_X0_isMissing l E sa bt_ Z nb H.size) (cwV 0 F.2.2.2.2 gX3_copy_X0_isMissing rfl rfl rfl (by decide +kernel) ⟨Nat.le_of_ble_eq_true rfl, Nat.le_of_ble_eq_true rfl⟩) [2] rfl rfl (q0 := 2) (ci := 0) rfl rfl rfl hl.1 rfl (Nat.le_of_ble_eq_true rfl) dX3_copy_27 ⟨Nat.le_refl _, Nat.le_refl _⟩) hP hD hS hA [2] rfl (fun r _ H locs hq hP hS => ?_)
      subst hq
      refine g_bne (tgt := 45) F dX3_copy_30 (by decide) (fun k3 => ?_) (fun k3 => ?_)
      · refine lv_aload_n F.1 F.2.1 dX3_copy_45 rfl (lv_at hl 0 rfl) ?_
        refine lv_ldc (v := (-1000000006)) F.1 F.2.1 F.2.2.2.1 (F.2.2.2.2 _ (mm 3 rfl)) dX3_copy_46 ?_
        refine g_goI (wr := [(qS, .inl (eS E, 4, .inr (.inr (.inr (.inr sf))))), (sa, .inr (0, [.int bt_, .int (nI Z), .ref nb])), (nb, .inl (eJ E, 40, .inr (.inl nu)))]) (g_runV (As := [.int (-1000000006)]) (rest := []) F hX hP hD hS hA (c_X3_found l E x fx qf fd (-1000000006) 5 (by first | assumption | rfl) (by decide +kernel) (by decide) H.size) (cwV 1 F.2.2.2.2 gX3_copy_X3_found rfl rfl rfl (by decide +kernel) ⟨Nat.le_of_ble_eq_true rfl, Nat.le_of_ble_eq_true rfl⟩) [0, 4] rfl rfl (q0 := 0) (ci := 3) rfl rfl rfl hl.1 rfl (Nat.le_of_ble_eq_true rfl) dX3_copy_48 ⟨Nat.le_refl _, Nat.le_refl _⟩) hP hD hS hA [0, 4] [1, 2, 3] rfl rfl rfl (by decide) (fun r _ H locs hq hP hD hS => ?_)
        have hP : va_P (eD E) vwCl [(x, .inr (3, fx)), (qS, .inl (eS E, 4, .inr (.inr (.inr (.inr sf))))), (sa, .inr (0, [.int bt_, .int (nI Z), .ref nb])), (nb, .inl (eJ E, 40, .inr (.inl nu))), (qf, .inl (eI E, 7, .inl (fn fd 5)))] H := hP.sub [3, 0, 1, 2, 4] rfl
        have hD : va_D A [(x, .inr (3, fx)), (qS, .inl (eS E, 4, .inr (.inr (.inr (.inr sf))))), (sa, .inr (0, [.int bt_, .int (nI Z), .ref nb])), (nb, .inl (eJ E, 40, .inr (.inl nu))), (qf, .inl (eI E, 7, .inl (fn fd 5)))] := hD.sub [3, 0, 1, 2, 4] (by decide) rfl
        subst hq
        exact g_reti F hr hlk (vp_nar_int _) hS hP hD ((nu, fn fd 5)) (rfl) (by first | exact absurd rfl k3 | exact absurd (k2.symm.trans k3) (by decide) | (unfold sp_copy; (try simp only [k1, k2, k3, and_self, true_and, and_true, if_true, Bool.false_eq_true, false_and, and_false, if_false, true_or, or_true, or_self, or_false, false_or]); all_goals simp [k1, k2, k3])) dX3_copy_51
      · refine lv_aload_n F.1 F.2.1 dX3_copy_33 rfl (lv_at hl 0 rfl) ?_
        refine g_get F hX hP hin3 0 rfl rfl 4 (by decide) (mm 2 rfl) hx4 dX3_copy_34 ?_
        refine lv_iload_n F.1 F.2.1 dX3_copy_37 rfl (lv_at hl 3 rfl) ?_
        refine g_aald F hX hP 1 rfl (j := ix a3) (rfl) (by omega) (by decide) (v := sa) (hsg k2) dX3_copy_38 ?_
        refine g_goIr (g_runV (As := []) (rest := []) F hX hP hD hS hA (c_X0_isMissing l E sa bt_ Z nb H.size) (cwV 0 F.2.2.2.2 gX3_copy_X0_isMissing rfl rfl rfl (by decide +kernel) ⟨Nat.le_of_ble_eq_true rfl, Nat.le_of_ble_eq_true rfl⟩) [2] rfl rfl (q0 := 2) (ci := 0) rfl rfl rfl hl.1 rfl (Nat.le_of_ble_eq_true rfl) dX3_copy_39 ⟨Nat.le_refl _, Nat.le_refl _⟩) hP hD hS hA [2] rfl (fun r _ H locs hq hP hS => ?_)
        subst hq
        refine g_beq (tgt := 52) F dX3_copy_42 (by decide) (fun k4 => ?_) (fun k4 => ?_)
        · refine lv_aload_n F.1 F.2.1 dX3_copy_52 rfl (lv_at hl 0 rfl) ?_
          refine g_get F hX hP hin3 0 rfl rfl 4 (by decide) (mm 2 rfl) hx4 dX3_copy_53 ?_
          refine lv_iload_n F.1 F.2.1 dX3_copy_56 rfl (lv_at hl 1 rfl) ?_
          refine g_aald F hX hP 1 rfl (j := ix a1) (rfl) (by omega) (by decide) (v := sa) (hsf k1) dX3_copy_57 ?_
          refine g_get F hX hP hin0 2 rfl rfl 0 (by decide) (mm 4 rfl) rfl dX3_copy_58 ?_
          refine lv_aload_n F.1 F.2.1 dX3_copy_61 rfl (lv_at hl 0 rfl) ?_
          refine g_get F hX hP hin3 0 rfl rfl 4 (by decide) (mm 2 rfl) hx4 dX3_copy_62 ?_
          refine lv_iload_n F.1 F.2.1 dX3_copy_65 rfl (lv_at hl 3 rfl) ?_
          refine g_aald F hX hP 1 rfl (j := ix a3) (rfl) (by omega) (by decide) (v := sa) (hsg k2) dX3_copy_66 ?_
          refine g_get F hX hP hin0 2 rfl rfl 0 (by decide) (mm 4 rfl) rfl dX3_copy_67 ?_
          refine lv_icmp_eq (tgt := 80) F.1 F.2.1 dX3_copy_70 (by decide) (fun k5 => ?_) (fun k5 => ?_)
          · refine lv_aload_n F.1 F.2.1 dX3_copy_80 rfl (lv_at hl 0 rfl) ?_
            refine g_get F hX hP hin3 0 rfl rfl 4 (by decide) (mm 2 rfl) hx4 dX3_copy_81 ?_
            refine lv_iload_n F.1 F.2.1 dX3_copy_84 rfl (lv_at hl 1 rfl) ?_
            refine g_aald F hX hP 1 rfl (j := ix a1) (rfl) (by omega) (by decide) (v := sa) (hsf k1) dX3_copy_85 ?_
            refine lv_iload_n F.1 F.2.1 dX3_copy_86 rfl (lv_at hl 2 rfl) ?_
            refine lv_iload F.1 F.2.1 dX3_copy_87 (lv_at hl 5 rfl) ?_
            refine g_goIr (g_runV (As := [.int a2, .int a5]) (rest := []) F hX hP hD hS hA (c_X0_hasRow l E sa bt_ Z nb a2 a5 H.size) (cwV 2 F.2.2.2.2 gX3_copy_X0_hasRow rfl rfl rfl (by decide +kernel) ⟨Nat.le_of_ble_eq_true rfl, Nat.le_of_ble_eq_true rfl⟩) [2] rfl rfl (q0 := 2) (ci := 0) rfl rfl rfl hl.1 rfl (Nat.le_of_ble_eq_true rfl) dX3_copy_89 ⟨Nat.le_refl _, Nat.le_refl _⟩) hP hD hS hA [2] rfl (fun r _ H locs hq hP hS => ?_)
            subst hq
            refine g_beq (tgt := 111) F dX3_copy_92 (by decide) (fun k6 => ?_) (fun k6 => ?_)
            · refine lv_aload_n F.1 F.2.1 dX3_copy_111 rfl (lv_at hl 0 rfl) ?_
              refine lv_ldc (v := (-1000000001)) F.1 F.2.1 F.2.2.2.1 (F.2.2.2.2 _ (mm 1 rfl)) dX3_copy_112 ?_
              refine g_goI (wr := [(qS, .inl (eS E, 4, .inr (.inr (.inr (.inr sf))))), (sa, .inr (0, [.int bt_, .int (nI Z), .ref nb])), (nb, .inl (eJ E, 40, .inr (.inl nu)))]) (g_runV (As := [.int (-1000000001)]) (rest := []) F hX hP hD hS hA (c_X3_found l E x fx qf fd (-1000000001) 0 (by first | assumption | rfl) (by decide +kernel) (by decide) H.size) (cwV 1 F.2.2.2.2 gX3_copy_X3_found rfl rfl rfl (by decide +kernel) ⟨Nat.le_of_ble_eq_true rfl, Nat.le_of_ble_eq_true rfl⟩) [0, 4] rfl rfl (q0 := 0) (ci := 3) rfl rfl rfl hl.1 rfl (Nat.le_of_ble_eq_true rfl) dX3_copy_114 ⟨Nat.le_refl _, Nat.le_refl _⟩) hP hD hS hA [0, 4] [1, 2, 3] rfl rfl rfl (by decide) (fun r _ H locs hq hP hD hS => ?_)
              have hP : va_P (eD E) vwCl [(x, .inr (3, fx)), (qS, .inl (eS E, 4, .inr (.inr (.inr (.inr sf))))), (sa, .inr (0, [.int bt_, .int (nI Z), .ref nb])), (nb, .inl (eJ E, 40, .inr (.inl nu))), (qf, .inl (eI E, 7, .inl (fn fd 0)))] H := hP.sub [3, 0, 1, 2, 4] rfl
              have hD : va_D A [(x, .inr (3, fx)), (qS, .inl (eS E, 4, .inr (.inr (.inr (.inr sf))))), (sa, .inr (0, [.int bt_, .int (nI Z), .ref nb])), (nb, .inl (eJ E, 40, .inr (.inl nu))), (qf, .inl (eI E, 7, .inl (fn fd 0)))] := hD.sub [3, 0, 1, 2, 4] (by decide) rfl
              subst hq
              exact g_reti F hr hlk (vp_nar_int _) hS hP hD ((nu, fn fd 0)) (rfl) (by first | exact absurd rfl k6 | exact absurd (k5.symm.trans k6) (by decide) | (unfold sp_copy; (try simp only [k1, k2, k3, k4, k6, and_self, true_and, and_true, if_true, Bool.false_eq_true, false_and, and_false, if_false, true_or, or_true, or_self, or_false, false_or]); all_goals simp [k1, k2, k3, k4, k5, k6])) dX3_copy_117
            · refine lv_aload_n F.1 F.2.1 dX3_copy_95 rfl (lv_at hl 0 rfl) ?_
              refine g_get F hX hP hin3 0 rfl rfl 4 (by decide) (mm 2 rfl) hx4 dX3_copy_96 ?_
              refine lv_iload_n F.1 F.2.1 dX3_copy_99 rfl (lv_at hl 3 rfl) ?_
              refine g_aald F hX hP 1 rfl (j := ix a3) (rfl) (by omega) (by decide) (v := sa) (hsg k2) dX3_copy_100 ?_
              refine lv_iload F.1 F.2.1 dX3_copy_101 (lv_at hl 4 rfl) ?_
              refine lv_iload F.1 F.2.1 dX3_copy_103 (lv_at hl 5 rfl) ?_
              refine g_goIr (g_runV (As := [.int a4, .int a5]) (rest := []) F hX hP hD hS hA (c_X0_hasRow l E sa bt_ Z nb a4 a5 H.size) (cwV 2 F.2.2.2.2 gX3_copy_X0_hasRow rfl rfl rfl (by decide +kernel) ⟨Nat.le_of_ble_eq_true rfl, Nat.le_of_ble_eq_true rfl⟩) [2] rfl rfl (q0 := 2) (ci := 0) rfl rfl rfl hl.1 rfl (Nat.le_of_ble_eq_true rfl) dX3_copy_105 ⟨Nat.le_refl _, Nat.le_refl _⟩) hP hD hS hA [2] rfl (fun r _ H locs hq hP hS => ?_)
              subst hq
              refine g_bne (tgt := 118) F dX3_copy_108 (by decide) (fun k7 => ?_) (fun k7 => ?_)
              · obtain ⟨x2, x5, x6⟩ := hr_of k6 hZ
                obtain ⟨x4, -, x7⟩ := hr_of k7 hZ
                refine lv_aload_n F.1 F.2.1 dX3_copy_118 rfl (lv_at hl 0 rfl) ?_
                refine g_get F hX hP hin3 0 rfl rfl 4 (by decide) (mm 2 rfl) hx4 dX3_copy_119 ?_
                refine lv_iload_n F.1 F.2.1 dX3_copy_122 rfl (lv_at hl 1 rfl) ?_
                refine g_aald F hX hP 1 rfl (j := ix a1) (rfl) (by omega) (by decide) (v := sa) (hsf k1) dX3_copy_123 ?_
                refine g_get F hX hP hin0 2 rfl rfl 2 (by decide) (mm 6 rfl) rfl dX3_copy_124 ?_
                refine lv_iload_n F.1 F.2.1 dX3_copy_127 rfl (lv_at hl 2 rfl) ?_
                refine lv_aload_n F.1 F.2.1 dX3_copy_128 rfl (lv_at hl 0 rfl) ?_
                refine g_get F hX hP hin3 0 rfl rfl 4 (by decide) (mm 2 rfl) hx4 dX3_copy_129 ?_
                refine lv_iload_n F.1 F.2.1 dX3_copy_132 rfl (lv_at hl 3 rfl) ?_
                refine g_aald F hX hP 1 rfl (j := ix a3) (rfl) (by omega) (by decide) (v := sa) (hsg k2) dX3_copy_133 ?_
                refine g_get F hX hP hin0 2 rfl rfl 2 (by decide) (mm 6 rfl) rfl dX3_copy_134 ?_
                refine lv_iload F.1 F.2.1 dX3_copy_137 (lv_at hl 4 rfl) ?_
                refine lv_iload F.1 F.2.1 dX3_copy_139 (lv_at hl 5 rfl) ?_
                refine g_copyl F hl hX (mm 7 rfl) (mm 8 rfl) (mm 9 rfl) (mm 10 rfl) hP hD hS 3 3 rfl rfl (sp := ix a2) (dp := ix a4) (n := ix a5) (x2) (x4) (x5) (⟨by omega, by decide⟩) (⟨by omega, by decide⟩) (Nat.le_of_ble_eq_true rfl) (Nat.le_of_ble_eq_true rfl) dX3_copy_141 (fun H locs hP hD hS => ?_)
                have hP : va_P (eD E) vwCl [(x, .inr (3, fx)), (qS, .inl (eS E, 4, .inr (.inr (.inr (.inr sf))))), (sa, .inr (0, [.int bt_, .int (nI Z), .ref nb])), (nb, .inl (eJ E, 40, .inr (.inl (va_cpy nu nu (ix a2) (ix a4) (ix a5))))), (qf, .inl (eI E, 7, .inl fd))] H := hP
                have hD : va_D A [(x, .inr (3, fx)), (qS, .inl (eS E, 4, .inr (.inr (.inr (.inr sf))))), (sa, .inr (0, [.int bt_, .int (nI Z), .ref nb])), (nb, .inl (eJ E, 40, .inr (.inl (va_cpy nu nu (ix a2) (ix a4) (ix a5))))), (qf, .inl (eI E, 7, .inl fd))] := hD
                refine lv_iload F.1 F.2.1 dX3_copy_144 (lv_at hl 5 rfl) ?_
                exact g_reti F hr hlk (vp_nar_int _) hS hP hD ((va_cpy nu nu (ix a2) (ix a4) (ix a5), fd)) (rfl) (by unfold sp_copy; rw [if_pos ⟨k1, k2⟩, if_neg (by rw [k3, Bool.false_eq_true, or_self]; decide), if_pos k5, if_pos ⟨k6, k7⟩]) dX3_copy_146
              · refine lv_aload_n F.1 F.2.1 dX3_copy_111 rfl (lv_at hl 0 rfl) ?_
                refine lv_ldc (v := (-1000000001)) F.1 F.2.1 F.2.2.2.1 (F.2.2.2.2 _ (mm 1 rfl)) dX3_copy_112 ?_
                refine g_goI (wr := [(qS, .inl (eS E, 4, .inr (.inr (.inr (.inr sf))))), (sa, .inr (0, [.int bt_, .int (nI Z), .ref nb])), (nb, .inl (eJ E, 40, .inr (.inl nu)))]) (g_runV (As := [.int (-1000000001)]) (rest := []) F hX hP hD hS hA (c_X3_found l E x fx qf fd (-1000000001) 0 (by first | assumption | rfl) (by decide +kernel) (by decide) H.size) (cwV 1 F.2.2.2.2 gX3_copy_X3_found rfl rfl rfl (by decide +kernel) ⟨Nat.le_of_ble_eq_true rfl, Nat.le_of_ble_eq_true rfl⟩) [0, 4] rfl rfl (q0 := 0) (ci := 3) rfl rfl rfl hl.1 rfl (Nat.le_of_ble_eq_true rfl) dX3_copy_114 ⟨Nat.le_refl _, Nat.le_refl _⟩) hP hD hS hA [0, 4] [1, 2, 3] rfl rfl rfl (by decide) (fun r _ H locs hq hP hD hS => ?_)
                have hP : va_P (eD E) vwCl [(x, .inr (3, fx)), (qS, .inl (eS E, 4, .inr (.inr (.inr (.inr sf))))), (sa, .inr (0, [.int bt_, .int (nI Z), .ref nb])), (nb, .inl (eJ E, 40, .inr (.inl nu))), (qf, .inl (eI E, 7, .inl (fn fd 0)))] H := hP.sub [3, 0, 1, 2, 4] rfl
                have hD : va_D A [(x, .inr (3, fx)), (qS, .inl (eS E, 4, .inr (.inr (.inr (.inr sf))))), (sa, .inr (0, [.int bt_, .int (nI Z), .ref nb])), (nb, .inl (eJ E, 40, .inr (.inl nu))), (qf, .inl (eI E, 7, .inl (fn fd 0)))] := hD.sub [3, 0, 1, 2, 4] (by decide) rfl
                subst hq
                exact g_reti F hr hlk (vp_nar_int _) hS hP hD ((nu, fn fd 0)) (rfl) (by first | exact absurd rfl k7 | exact absurd (k6.symm.trans k7) (by decide) | (unfold sp_copy; (try simp only [k1, k2, k3, k4, k6, k7, and_self, true_and, and_true, if_true, Bool.false_eq_true, false_and, and_false, if_false, true_or, or_true, or_self, or_false, false_or]); all_goals simp [k1, k2, k3, k4, k5, k6, k7])) dX3_copy_117
          · refine lv_aload_n F.1 F.2.1 dX3_copy_73 rfl (lv_at hl 0 rfl) ?_
            refine lv_ldc (v := (-1000000003)) F.1 F.2.1 F.2.2.2.1 (F.2.2.2.2 _ (mm 5 rfl)) dX3_copy_74 ?_
            refine g_goI (wr := [(qS, .inl (eS E, 4, .inr (.inr (.inr (.inr sf))))), (sa, .inr (0, [.int bt_, .int (nI Z), .ref nb])), (nb, .inl (eJ E, 40, .inr (.inl nu)))]) (g_runV (As := [.int (-1000000003)]) (rest := []) F hX hP hD hS hA (c_X3_found l E x fx qf fd (-1000000003) 2 (by first | assumption | rfl) (by decide +kernel) (by decide) H.size) (cwV 1 F.2.2.2.2 gX3_copy_X3_found rfl rfl rfl (by decide +kernel) ⟨Nat.le_of_ble_eq_true rfl, Nat.le_of_ble_eq_true rfl⟩) [0, 4] rfl rfl (q0 := 0) (ci := 3) rfl rfl rfl hl.1 rfl (Nat.le_of_ble_eq_true rfl) dX3_copy_76 ⟨Nat.le_refl _, Nat.le_refl _⟩) hP hD hS hA [0, 4] [1, 2, 3] rfl rfl rfl (by decide) (fun r _ H locs hq hP hD hS => ?_)
            have hP : va_P (eD E) vwCl [(x, .inr (3, fx)), (qS, .inl (eS E, 4, .inr (.inr (.inr (.inr sf))))), (sa, .inr (0, [.int bt_, .int (nI Z), .ref nb])), (nb, .inl (eJ E, 40, .inr (.inl nu))), (qf, .inl (eI E, 7, .inl (fn fd 2)))] H := hP.sub [3, 0, 1, 2, 4] rfl
            have hD : va_D A [(x, .inr (3, fx)), (qS, .inl (eS E, 4, .inr (.inr (.inr (.inr sf))))), (sa, .inr (0, [.int bt_, .int (nI Z), .ref nb])), (nb, .inl (eJ E, 40, .inr (.inl nu))), (qf, .inl (eI E, 7, .inl (fn fd 2)))] := hD.sub [3, 0, 1, 2, 4] (by decide) rfl
            subst hq
            exact g_reti F hr hlk (vp_nar_int _) hS hP hD ((nu, fn fd 2)) (rfl) (by first | exact absurd rfl k5 | exact absurd (k4.symm.trans k5) (by decide) | (unfold sp_copy; (try simp only [k1, k2, k3, k4, and_self, true_and, and_true, if_true, Bool.false_eq_true, false_and, and_false, if_false, true_or, or_true, or_self, or_false, false_or]); all_goals simp [k1, k2, k3, k4, k5])) dX3_copy_79
        · refine lv_aload_n F.1 F.2.1 dX3_copy_45 rfl (lv_at hl 0 rfl) ?_
          refine lv_ldc (v := (-1000000006)) F.1 F.2.1 F.2.2.2.1 (F.2.2.2.2 _ (mm 3 rfl)) dX3_copy_46 ?_
          refine g_goI (wr := [(qS, .inl (eS E, 4, .inr (.inr (.inr (.inr sf))))), (sa, .inr (0, [.int bt_, .int (nI Z), .ref nb])), (nb, .inl (eJ E, 40, .inr (.inl nu)))]) (g_runV (As := [.int (-1000000006)]) (rest := []) F hX hP hD hS hA (c_X3_found l E x fx qf fd (-1000000006) 5 (by first | assumption | rfl) (by decide +kernel) (by decide) H.size) (cwV 1 F.2.2.2.2 gX3_copy_X3_found rfl rfl rfl (by decide +kernel) ⟨Nat.le_of_ble_eq_true rfl, Nat.le_of_ble_eq_true rfl⟩) [0, 4] rfl rfl (q0 := 0) (ci := 3) rfl rfl rfl hl.1 rfl (Nat.le_of_ble_eq_true rfl) dX3_copy_48 ⟨Nat.le_refl _, Nat.le_refl _⟩) hP hD hS hA [0, 4] [1, 2, 3] rfl rfl rfl (by decide) (fun r _ H locs hq hP hD hS => ?_)
          have hP : va_P (eD E) vwCl [(x, .inr (3, fx)), (qS, .inl (eS E, 4, .inr (.inr (.inr (.inr sf))))), (sa, .inr (0, [.int bt_, .int (nI Z), .ref nb])), (nb, .inl (eJ E, 40, .inr (.inl nu))), (qf, .inl (eI E, 7, .inl (fn fd 5)))] H := hP.sub [3, 0, 1, 2, 4] rfl
          have hD : va_D A [(x, .inr (3, fx)), (qS, .inl (eS E, 4, .inr (.inr (.inr (.inr sf))))), (sa, .inr (0, [.int bt_, .int (nI Z), .ref nb])), (nb, .inl (eJ E, 40, .inr (.inl nu))), (qf, .inl (eI E, 7, .inl (fn fd 5)))] := hD.sub [3, 0, 1, 2, 4] (by decide) rfl
          subst hq
          exact g_reti F hr hlk (vp_nar_int _) hS hP hD ((nu, fn fd 5)) (rfl) (by first | exact absurd rfl k4 | exact absurd (k3.symm.trans k4) (by decide) | (unfold sp_copy; (try simp only [k1, k2, k3, k4, and_self, true_and, and_true, if_true, Bool.false_eq_true, false_and, and_false, if_false, true_or, or_true, or_self, or_false, false_or]); all_goals simp [k1, k2, k3, k4])) dX3_copy_51
    · refine lv_aload_n F.1 F.2.1 dX3_copy_14 rfl (lv_at hl 0 rfl) ?_
      refine lv_ldc (v := (-1000000001)) F.1 F.2.1 F.2.2.2.1 (F.2.2.2.2 _ (mm 1 rfl)) dX3_copy_15 ?_
      refine g_goI (wr := [(qS, .inl (eS E, 4, .inr (.inr (.inr (.inr sf))))), (sa, .inr (0, [.int bt_, .int (nI Z), .ref nb])), (nb, .inl (eJ E, 40, .inr (.inl nu)))]) (g_runV (As := [.int (-1000000001)]) (rest := []) F hX hP hD hS hA (c_X3_found l E x fx qf fd (-1000000001) 0 (by first | assumption | rfl) (by decide +kernel) (by decide) H.size) (cwV 1 F.2.2.2.2 gX3_copy_X3_found rfl rfl rfl (by decide +kernel) ⟨Nat.le_of_ble_eq_true rfl, Nat.le_of_ble_eq_true rfl⟩) [0, 4] rfl rfl (q0 := 0) (ci := 3) rfl rfl rfl hl.1 rfl (Nat.le_of_ble_eq_true rfl) dX3_copy_17 ⟨Nat.le_refl _, Nat.le_refl _⟩) hP hD hS hA [0, 4] [1, 2, 3] rfl rfl rfl (by decide) (fun r _ H locs hq hP hD hS => ?_)
      have hP : va_P (eD E) vwCl [(x, .inr (3, fx)), (qS, .inl (eS E, 4, .inr (.inr (.inr (.inr sf))))), (sa, .inr (0, [.int bt_, .int (nI Z), .ref nb])), (nb, .inl (eJ E, 40, .inr (.inl nu))), (qf, .inl (eI E, 7, .inl (fn fd 0)))] H := hP.sub [3, 0, 1, 2, 4] rfl
      have hD : va_D A [(x, .inr (3, fx)), (qS, .inl (eS E, 4, .inr (.inr (.inr (.inr sf))))), (sa, .inr (0, [.int bt_, .int (nI Z), .ref nb])), (nb, .inl (eJ E, 40, .inr (.inl nu))), (qf, .inl (eI E, 7, .inl (fn fd 0)))] := hD.sub [3, 0, 1, 2, 4] (by decide) rfl
      subst hq
      exact g_reti F hr hlk (vp_nar_int _) hS hP hD ((nu, fn fd 0)) (rfl) (by first | exact absurd rfl k2 | exact absurd (k1.symm.trans k2) (by decide) | (unfold sp_copy; (try simp only [k1, k2, and_self, true_and, and_true, if_true, Bool.false_eq_true, false_and, and_false, if_false, true_or, or_true, or_self, or_false, false_or]); all_goals simp [k1, k2])) dX3_copy_20
