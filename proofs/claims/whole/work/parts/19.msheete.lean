set_option maxHeartbeats 4000000 in
set_option maxRecDepth 100000 in
theorem c_X4_notCopied (l : Launch) (E : gE) (h : Nat) (fs : List Value) (qb : Nat) (qs : Nat) (bi4 : Nat → Int32) (si4 : Nat → Int32) (Z : Nat) (Z2 : Nat) (a1 : Int32) (a2 : Int32) (a3 : Int32) (a4 : Int32) (a5 : Int32) (hf12 : fs[12]? = some (.ref qb)) (hf13 : fs[13]? = some (.ref qs)) (hsz : inR a1 0 3 = true → si4 (ix a1) = nI Z) (hsz2 : inR a3 0 3 = true → si4 (ix a3) = nI Z2) : gI l yX4_notCopied wsX4_notCopied ({ frames := 2, cells := 0, slots := 0, locals := 43 }) E [(h, .inr (4, fs)), (qb, .inl (eI E, 4, .inl bi4)), (qs, .inl (eI E, 4, .inl si4))] (fun _ : Unit => [(h, .inr (4, fs)), (qb, .inl (eI E, 4, .inl bi4)), (qs, .inl (eI E, 4, .inl si4))]) [.ref h, .int a1, .int a2, .int a3, .int a4, .int a5] (fun (r : Int32) (_ : Unit) => r = ncM a1 (bi4 (ix a1)) a2 Z a3 (bi4 (ix a3)) a4 Z2 a5) := by
  have hin4 : ∀ w ∈ wsX40, w ∈ wsX4_notCopied := (fun _ h => (List.mem_cons_of_mem _ (List.mem_append_right _ h)))
  refine gI.of (cc := cX4_notCopied) (maxL := 7) (by decide) rfl (Nat.le_of_ble_eq_true rfl) ?_
  intro pG eG sG mG below meth cG A ls H locs F hr hlk hX hP hD hA hS hl
  have hl : lv_has ls 7 [(0, .ref h), (1, .int a1), (2, .int a2), (3, .int a3), (4, .int a4), (5, .int a5)] := hl
  refine lv_iload_n F.1 F.2.1 dX4_notCopied_0 rfl (lv_at hl 1 rfl) ?_
  refine g_goIr (g_runS (As := [.int a1]) (rest := []) F hX hP hD hS hA (c_X4_isSheet l E a1 H.size) (va_cwS 1 F.2.2.2.2 gX4_notCopied_X4_isSheet rfl rfl rfl (by decide +kernel) ⟨Nat.le_of_ble_eq_true rfl, Nat.le_of_ble_eq_true rfl⟩) [] rfl rfl rfl hl.1 rfl (Nat.le_of_ble_eq_true rfl) dX4_notCopied_1 ⟨Nat.le_refl _, Nat.le_refl _⟩) hP hD hS hA [] rfl (fun r _ H locs hq hP hS => ?_)
  subst hq
  refine g_beq (tgt := 14) F dX4_notCopied_4 (by decide) (fun k1 => ?_) (fun k1 => ?_)
  · refine lv_ldc (v := (-1000000001)) F.1 F.2.1 F.2.2.2.1 (F.2.2.2.2 _ (mm 1 rfl)) dX4_notCopied_14 ?_
    exact g_reti F hr hlk (vp_nar_int _) hS hP hD (()) (rfl) (by unfold ncM; (try simp only [k1, and_self, true_and, and_true, if_true, Bool.false_eq_true, false_and, and_false, if_false]); all_goals simp [k1]) dX4_notCopied_16
  · refine lv_iload_n F.1 F.2.1 dX4_notCopied_7 rfl (lv_at hl 3 rfl) ?_
    refine g_goIr (g_runS (As := [.int a3]) (rest := []) F hX hP hD hS hA (c_X4_isSheet l E a3 H.size) (va_cwS 1 F.2.2.2.2 gX4_notCopied_X4_isSheet rfl rfl rfl (by decide +kernel) ⟨Nat.le_of_ble_eq_true rfl, Nat.le_of_ble_eq_true rfl⟩) [] rfl rfl rfl hl.1 rfl (Nat.le_of_ble_eq_true rfl) dX4_notCopied_8 ⟨Nat.le_refl _, Nat.le_refl _⟩) hP hD hS hA [] rfl (fun r _ H locs hq hP hS => ?_)
    subst hq
    refine g_bne (tgt := 17) F dX4_notCopied_11 (by decide) (fun k2 => ?_) (fun k2 => ?_)
    · obtain ⟨e_a1, b_a1⟩ := ix_of 3 k1 (by decide) (by decide)
      have hl : lv_has ls 7 [(0, .ref h), (1, .int (nI (ix a1))), (2, .int a2), (3, .int a3), (4, .int a4), (5, .int a5)] := by rw [← e_a1]; exact hl
      obtain ⟨e_a3, b_a3⟩ := ix_of 3 k2 (by decide) (by decide)
      have hl : lv_has ls 7 [(0, .ref h), (1, .int (nI (ix a1))), (2, .int a2), (3, .int (nI (ix a3))), (4, .int a4), (5, .int a5)] := by rw [← e_a3]; exact hl
      refine lv_aload_n F.1 F.2.1 dX4_notCopied_17 rfl (lv_at hl 0 rfl) ?_
      refine g_get F hX hP hin4 0 rfl rfl 12 (by decide) (mm 2 rfl) hf12 dX4_notCopied_18 ?_
      refine lv_iload_n F.1 F.2.1 dX4_notCopied_21 rfl (lv_at hl 1 rfl) ?_
      refine g_iald F hX hP 1 rfl (j := (ix a1)) (rfl) (by omega) (by decide) dX4_notCopied_22 ?_
      refine lv_if_eq (tgt := 35) F.1 F.2.1 dX4_notCopied_23 (by decide) (fun k3 => ?_) (fun k3 => ?_)
      · refine lv_ldc (v := (-1000000006)) F.1 F.2.1 F.2.2.2.1 (F.2.2.2.2 _ (mm 3 rfl)) dX4_notCopied_35 ?_
        exact g_reti F hr hlk (vp_nar_int _) hS hP hD (()) (rfl) (by unfold ncM; (try simp only [k1, k2, and_self, true_and, and_true, if_true, Bool.false_eq_true, false_and, and_false, if_false]); all_goals simp [k1, k2, k3]) dX4_notCopied_37
      · refine lv_aload_n F.1 F.2.1 dX4_notCopied_26 rfl (lv_at hl 0 rfl) ?_
        refine g_get F hX hP hin4 0 rfl rfl 12 (by decide) (mm 2 rfl) hf12 dX4_notCopied_27 ?_
        refine lv_iload_n F.1 F.2.1 dX4_notCopied_30 rfl (lv_at hl 3 rfl) ?_
        refine g_iald F hX hP 1 rfl (j := (ix a3)) (rfl) (by omega) (by decide) dX4_notCopied_31 ?_
        refine lv_if_ne (tgt := 38) F.1 F.2.1 dX4_notCopied_32 (by decide) (fun k4 => ?_) (fun k4 => ?_)
        · refine lv_aload_n F.1 F.2.1 dX4_notCopied_38 rfl (lv_at hl 0 rfl) ?_
          refine g_get F hX hP hin4 0 rfl rfl 12 (by decide) (mm 2 rfl) hf12 dX4_notCopied_39 ?_
          refine lv_iload_n F.1 F.2.1 dX4_notCopied_42 rfl (lv_at hl 1 rfl) ?_
          refine g_iald F hX hP 1 rfl (j := (ix a1)) (rfl) (by omega) (by decide) dX4_notCopied_43 ?_
          refine lv_aload_n F.1 F.2.1 dX4_notCopied_44 rfl (lv_at hl 0 rfl) ?_
          refine g_get F hX hP hin4 0 rfl rfl 12 (by decide) (mm 2 rfl) hf12 dX4_notCopied_45 ?_
          refine lv_iload_n F.1 F.2.1 dX4_notCopied_48 rfl (lv_at hl 3 rfl) ?_
          refine g_iald F hX hP 1 rfl (j := (ix a3)) (rfl) (by omega) (by decide) dX4_notCopied_49 ?_
          refine lv_icmp_eq (tgt := 56) F.1 F.2.1 dX4_notCopied_50 (by decide) (fun k5 => ?_) (fun k5 => ?_)
          · refine lv_iload F.1 F.2.1 dX4_notCopied_56 (lv_at hl 5 rfl) ?_
            have jn102 : ∀ (H : Heap) (locs : List Loc) (ls : Array Slot), va_P (eD E) vwCl [(h, .inr (4, fs)), (qb, .inl (eI E, 4, .inl bi4)), (qs, .inl (eI E, 4, .inl si4))] H → va_D A [(h, .inr (4, fs)), (qb, .inl (eI E, 4, .inl bi4)), (qs, .inl (eI E, 4, .inl si4))] → va_S A sG.heap H locs → lv_has ls 7 [(0, .ref h), (1, .int (nI (ix a1))), (2, .int a2), (3, .int (nI (ix a3))), (4, .int a4), (5, .int a5)] → W pG l eG { frames := 2, cells := 0, slots := 0, locals := 43 } sG mG [.ref h, .int a1, .int a2, .int a3, .int a4, .int a5].toArray below meth cG H locs 0 0 (MQ below (va_Qi (fun (r : Int32) (_ : Unit) => r = ncM a1 (bi4 (ix a1)) a2 Z a3 (bi4 (ix a3)) a4 Z2 a5) (gR E (fun _ : Unit => [(h, .inr (4, fs)), (qb, .inl (eI E, 4, .inl bi4)), (qs, .inl (eI E, 4, .inl si4))]) A) A) [.ref h, .int a1, .int a2, .int a3, .int a4, .int a5].toArray sG 0 0 A) (F0 mG 102 ls [.int (bi (okM a2 a4 a5 Z Z2))]) := by
              intro H locs ls hP hD hS hl
              refine lv_istore (lv' := [(6, .int (bi (okM a2 a4 a5 Z Z2))), (0, .ref h), (1, .int (nI (ix a1))), (2, .int a2), (3, .int (nI (ix a3))), (4, .int a4), (5, .int a5)]) F.1 F.2.1 dX4_notCopied_102 hl (by decide) rfl (fun ls hl => ?_)
              refine lv_iload F.1 F.2.1 dX4_notCopied_104 (lv_at hl 0 rfl) ?_
              refine g_beq (tgt := 113) F dX4_notCopied_106 (by decide) (fun k6 => ?_) (fun k6 => ?_)
              · refine lv_ldc (v := (-1000000001)) F.1 F.2.1 F.2.2.2.1 (F.2.2.2.2 _ (mm 1 rfl)) dX4_notCopied_113 ?_
                exact g_reti F hr hlk (vp_nar_int _) hS hP hD (()) (rfl) (by unfold ncM; (try simp only [k1, k2, k6, and_self, true_and, and_true, if_true, Bool.false_eq_true, false_and, and_false, if_false]); all_goals simp [k1, k2, k3, k4, k5, k6]) dX4_notCopied_115
              · refine lv_iconst (v := 0) F.1 F.2.1 dX4_notCopied_109 (by decide) ?_
                refine lv_goto (tgt := 115) F.1 F.2.1 dX4_notCopied_110 (by decide) ?_
                exact g_reti F hr hlk (vp_nar_int _) hS hP hD (()) (rfl) (by unfold ncM; (try simp only [k1, k2, k6, and_self, true_and, and_true, if_true, Bool.false_eq_true, false_and, and_false, if_false]); all_goals simp [k1, k2, k3, k4, k5, k6]) dX4_notCopied_115
            refine lv_if_lt (tgt := 101) F.1 F.2.1 dX4_notCopied_58 (by decide) (fun k7 => ?_) (fun k7 => ?_)
            · refine lv_iconst (v := 0) F.1 F.2.1 dX4_notCopied_101 (by decide) ?_
              refine g_top (bi (okM a2 a4 a5 Z Z2)) (by simp [okM, bi, k1, k2, k3, k4, k5, k7]) ?_
              exact jn102 _ _ _ hP hD hS (lv_sub hl [0, 1, 2, 3, 4, 5] rfl)
            · refine lv_iload_n F.1 F.2.1 dX4_notCopied_61 rfl (lv_at hl 2 rfl) ?_
              refine lv_if_lt (tgt := 101) F.1 F.2.1 dX4_notCopied_62 (by decide) (fun k8 => ?_) (fun k8 => ?_)
              · refine lv_iconst (v := 0) F.1 F.2.1 dX4_notCopied_101 (by decide) ?_
                refine g_top (bi (okM a2 a4 a5 Z Z2)) (by simp [okM, bi, k1, k2, k3, k4, k5, k7, k8]) ?_
                exact jn102 _ _ _ hP hD hS (lv_sub hl [0, 1, 2, 3, 4, 5] rfl)
              · refine lv_iload F.1 F.2.1 dX4_notCopied_65 (lv_at hl 4 rfl) ?_
                refine lv_if_lt (tgt := 101) F.1 F.2.1 dX4_notCopied_67 (by decide) (fun k9 => ?_) (fun k9 => ?_)
                · refine lv_iconst (v := 0) F.1 F.2.1 dX4_notCopied_101 (by decide) ?_
                  refine g_top (bi (okM a2 a4 a5 Z Z2)) (by simp [okM, bi, k1, k2, k3, k4, k5, k7, k8, k9]) ?_
                  exact jn102 _ _ _ hP hD hS (lv_sub hl [0, 1, 2, 3, 4, 5] rfl)
                · refine lv_iload F.1 F.2.1 dX4_notCopied_70 (lv_at hl 5 rfl) ?_
                  refine lv_aload_n F.1 F.2.1 dX4_notCopied_72 rfl (lv_at hl 0 rfl) ?_
                  refine g_get F hX hP hin4 0 rfl rfl 13 (by decide) (mm 5 rfl) hf13 dX4_notCopied_73 ?_
                  refine lv_iload_n F.1 F.2.1 dX4_notCopied_76 rfl (lv_at hl 1 rfl) ?_
                  refine g_iald F hX hP 2 rfl (j := (ix a1)) (rfl) (by omega) (by decide) dX4_notCopied_77 ?_
                  refine g_top (nI Z) (hsz k1) ?_
                  refine lv_iload_n F.1 F.2.1 dX4_notCopied_78 rfl (lv_at hl 2 rfl) ?_
                  refine lv_isub F.1 F.2.1 dX4_notCopied_79 ?_
                  refine lv_icmp_gt (tgt := 101) F.1 F.2.1 dX4_notCopied_80 (by decide) (fun k10 => ?_) (fun k10 => ?_)
                  · refine lv_iconst (v := 0) F.1 F.2.1 dX4_notCopied_101 (by decide) ?_
                    refine g_top (bi (okM a2 a4 a5 Z Z2)) (by simp [okM, bi, k1, k2, k3, k4, k5, k7, k8, k9, k10]) ?_
                    exact jn102 _ _ _ hP hD hS (lv_sub hl [0, 1, 2, 3, 4, 5] rfl)
                  · refine lv_iload F.1 F.2.1 dX4_notCopied_83 (lv_at hl 5 rfl) ?_
                    refine lv_aload_n F.1 F.2.1 dX4_notCopied_85 rfl (lv_at hl 0 rfl) ?_
                    refine g_get F hX hP hin4 0 rfl rfl 13 (by decide) (mm 5 rfl) hf13 dX4_notCopied_86 ?_
                    refine lv_iload_n F.1 F.2.1 dX4_notCopied_89 rfl (lv_at hl 3 rfl) ?_
                    refine g_iald F hX hP 2 rfl (j := (ix a3)) (rfl) (by omega) (by decide) dX4_notCopied_90 ?_
                    refine g_top (nI Z2) (hsz2 k2) ?_
                    refine lv_iload F.1 F.2.1 dX4_notCopied_91 (lv_at hl 4 rfl) ?_
                    refine lv_isub F.1 F.2.1 dX4_notCopied_93 ?_
                    refine lv_icmp_gt (tgt := 101) F.1 F.2.1 dX4_notCopied_94 (by decide) (fun k11 => ?_) (fun k11 => ?_)
                    · refine lv_iconst (v := 0) F.1 F.2.1 dX4_notCopied_101 (by decide) ?_
                      refine g_top (bi (okM a2 a4 a5 Z Z2)) (by simp [okM, bi, k1, k2, k3, k4, k5, k7, k8, k9, k10, k11]) ?_
                      exact jn102 _ _ _ hP hD hS (lv_sub hl [0, 1, 2, 3, 4, 5] rfl)
                    · refine lv_iconst (v := 1) F.1 F.2.1 dX4_notCopied_97 (by decide) ?_
                      refine lv_goto (tgt := 102) F.1 F.2.1 dX4_notCopied_98 (by decide) ?_
                      refine g_top (bi (okM a2 a4 a5 Z Z2)) (by simp [okM, bi, k1, k2, k3, k4, k5, k7, k8, k9, k10, k11]) ?_
                      exact jn102 _ _ _ hP hD hS (lv_sub hl [0, 1, 2, 3, 4, 5] rfl)
          · refine lv_ldc (v := (-1000000003)) F.1 F.2.1 F.2.2.2.1 (F.2.2.2.2 _ (mm 4 rfl)) dX4_notCopied_53 ?_
            exact g_reti F hr hlk (vp_nar_int _) hS hP hD (()) (rfl) (by unfold ncM; (try simp only [k1, k2, and_self, true_and, and_true, if_true, Bool.false_eq_true, false_and, and_false, if_false]); all_goals simp [k1, k2, k3, k4, k5]) dX4_notCopied_55
        · refine lv_ldc (v := (-1000000006)) F.1 F.2.1 F.2.2.2.1 (F.2.2.2.2 _ (mm 3 rfl)) dX4_notCopied_35 ?_
          exact g_reti F hr hlk (vp_nar_int _) hS hP hD (()) (rfl) (by unfold ncM; (try simp only [k1, k2, and_self, true_and, and_true, if_true, Bool.false_eq_true, false_and, and_false, if_false]); all_goals simp [k1, k2, k3, k4]) dX4_notCopied_37
    · refine lv_ldc (v := (-1000000001)) F.1 F.2.1 F.2.2.2.1 (F.2.2.2.2 _ (mm 1 rfl)) dX4_notCopied_14 ?_
      exact g_reti F hr hlk (vp_nar_int _) hS hP hD (()) (rfl) (by unfold ncM; (try simp only [k1, k2, and_self, true_and, and_true, if_true, Bool.false_eq_true, false_and, and_false, if_false]); all_goals simp [k1, k2]) dX4_notCopied_16
set_option maxHeartbeats 4000000 in
set_option maxRecDepth 100000 in
theorem c_X4_copy (l : Launch) (E : gE) (h : Nat) (fs : List Value) (qf : Nat) (qb : Nat) (qs : Nat) (qc : Nat) (bi4 : Nat → Int32) (si4 : Nat → Int32) (ce : Nat → Int64) (fd : Nat → Int32) (Z : Nat) (Z2 : Nat) (a1 : Int32) (a2 : Int32) (a3 : Int32) (a4 : Int32) (a5 : Int32) (hf4 : fs[4]? = some (.ref qf)) (hf12 : fs[12]? = some (.ref qb)) (hf13 : fs[13]? = some (.ref qs)) (hf14 : fs[14]? = some (.ref qc)) (hZ : Z ≤ 40) (hZ2 : Z2 ≤ 40) (hsz : inR a1 0 3 = true → si4 (ix a1) = nI Z) (hsz2 : inR a3 0 3 = true → si4 (ix a3) = nI Z2) : gI l yX4_copy wsX4_copy ({ frames := 3, cells := 0, slots := 0, locals := 69 }) E [(h, .inr (4, fs)), (qb, .inl (eI E, 4, .inl bi4)), (qs, .inl (eI E, 4, .inl si4)), (qc, .inl (eJ E, 160, .inr (.inl ce))), (qf, .inl (eI E, 7, .inl fd))] (fun u : (Nat → Int64) × (Nat → Int32) => [(h, .inr (4, fs)), (qb, .inl (eI E, 4, .inl bi4)), (qs, .inl (eI E, 4, .inl si4)), (qc, .inl (eJ E, 160, .inr (.inl u.1))), (qf, .inl (eI E, 7, .inl u.2))]) [.ref h, .int a1, .int a2, .int a3, .int a4, .int a5] (fun (r : Int32) (u : (Nat → Int64) × (Nat → Int32)) => (r, u) = mn_copy (bi4 (ix a1)) Z (bi4 (ix a3)) Z2 ce fd a1 a2 a3 a4 a5) := by
  have hin4 : ∀ w ∈ wsX40, w ∈ wsX4_copy := (fun _ h => (List.mem_cons_of_mem _ (List.mem_append_right _ h)))
  refine gI.of (cc := cX4_copy) (maxL := 9) (by decide) rfl (Nat.le_of_ble_eq_true rfl) ?_
  intro pG eG sG mG below meth cG A ls H locs F hr hlk hX hP hD hA hS hl
  have hl : lv_has ls 9 [(0, .ref h), (1, .int a1), (2, .int a2), (3, .int a3), (4, .int a4), (5, .int a5)] := hl
  refine lv_aload_n F.1 F.2.1 dX4_copy_0 rfl (lv_at hl 0 rfl) ?_
  refine lv_iload_n F.1 F.2.1 dX4_copy_1 rfl (lv_at hl 1 rfl) ?_
  refine lv_iload_n F.1 F.2.1 dX4_copy_2 rfl (lv_at hl 2 rfl) ?_
  refine lv_iload_n F.1 F.2.1 dX4_copy_3 rfl (lv_at hl 3 rfl) ?_
  refine lv_iload F.1 F.2.1 dX4_copy_4 (lv_at hl 4 rfl) ?_
  refine lv_iload F.1 F.2.1 dX4_copy_6 (lv_at hl 5 rfl) ?_
  refine g_goIr (g_runV (As := [.int a1, .int a2, .int a3, .int a4, .int a5]) (rest := []) F hX hP hD hS hA (c_X4_notCopied l E h fs qb qs bi4 si4 Z Z2 a1 a2 a3 a4 a5 (by first | assumption | rfl) (by first | assumption | rfl) (by first | assumption | omega) (by first | assumption | omega) H.size) (cwV 5 F.2.2.2.2 gX4_copy_X4_notCopied rfl rfl rfl (by decide +kernel) ⟨Nat.le_of_ble_eq_true rfl, Nat.le_of_ble_eq_true rfl⟩) [0, 1, 2] rfl rfl (q0 := 0) (ci := 4) rfl rfl rfl hl.1 rfl (Nat.le_of_ble_eq_true rfl) dX4_copy_8 ⟨Nat.le_refl _, Nat.le_refl _⟩) hP hD hS hA [0, 1, 2] rfl (fun r _ H locs hq hP hS => ?_)
  subst hq
  refine lv_istore (lv' := [(6, .int (ncM a1 (bi4 (ix a1)) a2 Z a3 (bi4 (ix a3)) a4 Z2 a5)), (0, .ref h), (1, .int a1), (2, .int a2), (3, .int a3), (4, .int a4), (5, .int a5)]) F.1 F.2.1 dX4_copy_11 hl (by decide) rfl (fun ls hl => ?_)
  refine lv_iload F.1 F.2.1 dX4_copy_13 (lv_at hl 0 rfl) ?_
  refine lv_if_eq (tgt := 25) F.1 F.2.1 dX4_copy_15 (by decide) (fun k1 => ?_) (fun k1 => ?_)
  · obtain ⟨f1, f3, f4, f5, f6⟩ := nc_0 k1
    obtain ⟨e_a2, e_a4, e_a5, b_a2, b_a4⟩ := okM_of f6 hZ hZ2
    have hl : lv_has ls 9 [(6, .int (ncM a1 (bi4 (ix a1)) a2 Z a3 (bi4 (ix a3)) a4 Z2 a5)), (0, .ref h), (1, .int a1), (2, .int (nI (ix a2))), (3, .int a3), (4, .int a4), (5, .int a5)] := by rw [← e_a2]; exact hl
    have hl : lv_has ls 9 [(6, .int (ncM a1 (bi4 (ix a1)) a2 Z a3 (bi4 (ix a3)) a4 Z2 a5)), (0, .ref h), (1, .int a1), (2, .int (nI (ix a2))), (3, .int a3), (4, .int (nI (ix a4))), (5, .int a5)] := by rw [← e_a4]; exact hl
    have hl : lv_has ls 9 [(6, .int (ncM a1 (bi4 (ix a1)) a2 Z a3 (bi4 (ix a3)) a4 Z2 a5)), (0, .ref h), (1, .int a1), (2, .int (nI (ix a2))), (3, .int a3), (4, .int (nI (ix a4))), (5, .int (nI (ix a5)))] := by rw [← e_a5]; exact hl
    obtain ⟨e_a1, b_a1⟩ := ix_of 3 f1 (by decide) (by decide)
    have hl : lv_has ls 9 [(6, .int (ncM a1 (bi4 (ix a1)) a2 Z a3 (bi4 (ix a3)) a4 Z2 a5)), (0, .ref h), (1, .int (nI (ix a1))), (2, .int (nI (ix a2))), (3, .int a3), (4, .int (nI (ix a4))), (5, .int (nI (ix a5)))] := by rw [← e_a1]; exact hl
    obtain ⟨e_a3, b_a3⟩ := ix_of 3 f3 (by decide) (by decide)
    have hl : lv_has ls 9 [(6, .int (ncM a1 (bi4 (ix a1)) a2 Z a3 (bi4 (ix a3)) a4 Z2 a5)), (0, .ref h), (1, .int (nI (ix a1))), (2, .int (nI (ix a2))), (3, .int (nI (ix a3))), (4, .int (nI (ix a4))), (5, .int (nI (ix a5)))] := by rw [← e_a3]; exact hl
    refine lv_iconst (v := 0) F.1 F.2.1 dX4_copy_25 (by decide) ?_
    refine lv_istore (lv' := [(7, .int 0), (6, .int (ncM a1 (bi4 (ix a1)) a2 Z a3 (bi4 (ix a3)) a4 Z2 a5)), (0, .ref h), (1, .int (nI (ix a1))), (2, .int (nI (ix a2))), (3, .int (nI (ix a3))), (4, .int (nI (ix a4))), (5, .int (nI (ix a5)))]) F.1 F.2.1 dX4_copy_26 hl (by decide) rfl (fun ls hl => ?_)
    have lp28 : ∀ (fu i : Nat), i ≤ (ix a5) → (ix a5) + 1 ≤ i + fu → ∀ (H : Heap) (locs : List Loc) (ls : Array Slot), va_P (eD E) vwCl [(h, .inr (4, fs)), (qb, .inl (eI E, 4, .inl bi4)), (qs, .inl (eI E, 4, .inl si4)), (qc, .inl (eJ E, 160, .inr (.inl (cpM ce (ix a2) (ix a4) (40 * ix a1 + ix a2) (40 * ix a3 + ix a4) (ix a5) i)))), (qf, .inl (eI E, 7, .inl fd))] H → va_D A [(h, .inr (4, fs)), (qb, .inl (eI E, 4, .inl bi4)), (qs, .inl (eI E, 4, .inl si4)), (qc, .inl (eJ E, 160, .inr (.inl (cpM ce (ix a2) (ix a4) (40 * ix a1 + ix a2) (40 * ix a3 + ix a4) (ix a5) i)))), (qf, .inl (eI E, 7, .inl fd))] → va_S A sG.heap H locs → lv_has ls 9 [(7, .int (nI i)), (6, .int (ncM a1 (bi4 (ix a1)) a2 Z a3 (bi4 (ix a3)) a4 Z2 a5)), (0, .ref h), (1, .int (nI (ix a1))), (2, .int (nI (ix a2))), (3, .int (nI (ix a3))), (4, .int (nI (ix a4))), (5, .int (nI (ix a5)))] → W pG l eG { frames := 3, cells := 0, slots := 0, locals := 69 } sG mG [.ref h, .int a1, .int a2, .int a3, .int a4, .int a5].toArray below meth cG H locs 0 0 (MQ below (va_Qi (fun (r : Int32) (u : (Nat → Int64) × (Nat → Int32)) => (r, u) = mn_copy (bi4 (ix a1)) Z (bi4 (ix a3)) Z2 ce fd a1 a2 a3 a4 a5) (gR E (fun u : (Nat → Int64) × (Nat → Int32) => [(h, .inr (4, fs)), (qb, .inl (eI E, 4, .inl bi4)), (qs, .inl (eI E, 4, .inl si4)), (qc, .inl (eJ E, 160, .inr (.inl u.1))), (qf, .inl (eI E, 7, .inl u.2))]) A) A) [.ref h, .int a1, .int a2, .int a3, .int a4, .int a5].toArray sG 0 0 A) (F0 mG 28 ls []) := by
      intro fu
      induction fu with
      | zero => intro i h1 h2; exact absurd h2 (by omega)
      | succ fu ih =>
        intro i hi hin   H locs ls hP hD hS hl
        refine lv_iload F.1 F.2.1 dX4_copy_28 (lv_at hl 0 rfl) ?_
        refine lv_iload F.1 F.2.1 dX4_copy_30 (lv_at hl 7 rfl) ?_
        refine lv_icmp_ge (tgt := 90) F.1 F.2.1 dX4_copy_32 (by decide) (fun k2 => ?_) (fun k2 => ?_)
        · have hiN : (ix a5) = i := Nat.le_antisymm ((nI_leI (by omega) (by omega)).mp k2) hi
          subst hiN
          have ecell : (cpM ce (ix a2) (ix a4) (40 * ix a1 + ix a2) (40 * ix a3 + ix a4) (ix a5) (ix a5)) = va_cpy ce ce (40 * ix a1 + ix a2) (40 * ix a3 + ix a4) (ix a5) := cpM_n _ _ _ _ _ _
          rw [ecell] at hP hD
          clear ecell
          refine lv_iload F.1 F.2.1 dX4_copy_90 (lv_at hl 7 rfl) ?_
          exact g_reti F hr hlk (vp_nar_int _) hS hP hD ((va_cpy ce ce (40 * ix a1 + ix a2) (40 * ix a3 + ix a4) (ix a5), fd)) (rfl) (by unfold mn_copy; rw [if_pos k1, ← e_a5]) dX4_copy_92
        · have hiN : i < (ix a5) := Nat.lt_of_not_le (fun h => k2 (nI_le h (by omega)))
          refine lv_iload_n F.1 F.2.1 dX4_copy_35 rfl (lv_at hl 4 rfl) ?_
          refine lv_iload F.1 F.2.1 dX4_copy_36 (lv_at hl 6 rfl) ?_
          have jn53 : ∀ (H : Heap) (locs : List Loc) (ls : Array Slot), va_P (eD E) vwCl [(h, .inr (4, fs)), (qb, .inl (eI E, 4, .inl bi4)), (qs, .inl (eI E, 4, .inl si4)), (qc, .inl (eJ E, 160, .inr (.inl (cpM ce (ix a2) (ix a4) (40 * ix a1 + ix a2) (40 * ix a3 + ix a4) (ix a5) i)))), (qf, .inl (eI E, 7, .inl fd))] H → va_D A [(h, .inr (4, fs)), (qb, .inl (eI E, 4, .inl bi4)), (qs, .inl (eI E, 4, .inl si4)), (qc, .inl (eJ E, 160, .inr (.inl (cpM ce (ix a2) (ix a4) (40 * ix a1 + ix a2) (40 * ix a3 + ix a4) (ix a5) i)))), (qf, .inl (eI E, 7, .inl fd))] → va_S A sG.heap H locs → lv_has ls 9 [(7, .int (nI i)), (6, .int (ncM a1 (bi4 (ix a1)) a2 Z a3 (bi4 (ix a3)) a4 Z2 a5)), (0, .ref h), (1, .int (nI (ix a1))), (2, .int (nI (ix a2))), (3, .int (nI (ix a3))), (4, .int (nI (ix a4))), (5, .int (nI (ix a5)))] → W pG l eG { frames := 3, cells := 0, slots := 0, locals := 69 } sG mG [.ref h, .int a1, .int a2, .int a3, .int a4, .int a5].toArray below meth cG H locs 0 0 (MQ below (va_Qi (fun (r : Int32) (u : (Nat → Int64) × (Nat → Int32)) => (r, u) = mn_copy (bi4 (ix a1)) Z (bi4 (ix a3)) Z2 ce fd a1 a2 a3 a4 a5) (gR E (fun u : (Nat → Int64) × (Nat → Int32) => [(h, .inr (4, fs)), (qb, .inl (eI E, 4, .inl bi4)), (qs, .inl (eI E, 4, .inl si4)), (qc, .inl (eJ E, 160, .inr (.inl u.1))), (qf, .inl (eI E, 7, .inl u.2))]) A) A) [.ref h, .int a1, .int a2, .int a3, .int a4, .int a5].toArray sG 0 0 A) (F0 mG 53 ls [.int (nI (cpI (ix a2) (ix a4) (ix a5) i))]) := by
            intro H locs ls hP hD hS hl
            refine lv_istore (lv' := [(8, .int (nI (cpI (ix a2) (ix a4) (ix a5) i))), (7, .int (nI i)), (6, .int (ncM a1 (bi4 (ix a1)) a2 Z a3 (bi4 (ix a3)) a4 Z2 a5)), (0, .ref h), (1, .int (nI (ix a1))), (2, .int (nI (ix a2))), (3, .int (nI (ix a3))), (4, .int (nI (ix a4))), (5, .int (nI (ix a5)))]) F.1 F.2.1 dX4_copy_53 hl (by decide) rfl (fun ls hl => ?_)
            refine lv_aload_n F.1 F.2.1 dX4_copy_55 rfl (lv_at hl 3 rfl) ?_
            refine g_get F hX hP hin4 0 rfl rfl 14 (by decide) (mm 1 rfl) hf14 dX4_copy_56 ?_
            refine lv_bipush (v := 40) F.1 F.2.1 dX4_copy_59 (by decide) ?_
            refine lv_iload_n F.1 F.2.1 dX4_copy_61 rfl (lv_at hl 6 rfl) ?_
            refine lv_imul F.1 F.2.1 dX4_copy_62 ?_
            refine lv_iload F.1 F.2.1 dX4_copy_63 (lv_at hl 7 rfl) ?_
            refine lv_iadd F.1 F.2.1 dX4_copy_65 ?_
            refine lv_iload F.1 F.2.1 dX4_copy_66 (lv_at hl 0 rfl) ?_
            refine lv_iadd F.1 F.2.1 dX4_copy_68 ?_
            refine lv_aload_n F.1 F.2.1 dX4_copy_69 rfl (lv_at hl 3 rfl) ?_
            refine g_get F hX hP hin4 0 rfl rfl 14 (by decide) (mm 1 rfl) hf14 dX4_copy_70 ?_
            refine lv_bipush (v := 40) F.1 F.2.1 dX4_copy_73 (by decide) ?_
            refine lv_iload_n F.1 F.2.1 dX4_copy_75 rfl (lv_at hl 4 rfl) ?_
            refine lv_imul F.1 F.2.1 dX4_copy_76 ?_
            refine lv_iload_n F.1 F.2.1 dX4_copy_77 rfl (lv_at hl 5 rfl) ?_
            refine lv_iadd F.1 F.2.1 dX4_copy_78 ?_
            refine lv_iload F.1 F.2.1 dX4_copy_79 (lv_at hl 0 rfl) ?_
            refine lv_iadd F.1 F.2.1 dX4_copy_81 ?_
            refine g_lald F hX hP 3 rfl (j := 40 * ix a1 + ix a2 + cpI (ix a2) (ix a4) (ix a5) i) (i402 _ _ _) (by have := cpI_b (f := ix a2) (t := ix a4) hiN; omega) (by decide) dX4_copy_82 ?_
            refine g_last F hX hP hD hS 3 rfl (j := 40 * ix a3 + ix a4 + cpI (ix a2) (ix a4) (ix a5) i) (i402 _ _ _) (by have := cpI_b (f := ix a2) (t := ix a4) hiN; omega) (by decide) dX4_copy_83 (fun H locs hP hD hS => ?_)
            have hP : va_P (eD E) vwCl [(h, .inr (4, fs)), (qb, .inl (eI E, 4, .inl bi4)), (qs, .inl (eI E, 4, .inl si4)), (qc, .inl (eJ E, 160, .inr (.inl (vp_updL (cpM ce (ix a2) (ix a4) (40 * ix a1 + ix a2) (40 * ix a3 + ix a4) (ix a5) i) (40 * ix a3 + ix a4 + cpI (ix a2) (ix a4) (ix a5) i) ((cpM ce (ix a2) (ix a4) (40 * ix a1 + ix a2) (40 * ix a3 + ix a4) (ix a5) i) (40 * ix a1 + ix a2 + cpI (ix a2) (ix a4) (ix a5) i)))))), (qf, .inl (eI E, 7, .inl fd))] H := hP
            have hD : va_D A [(h, .inr (4, fs)), (qb, .inl (eI E, 4, .inl bi4)), (qs, .inl (eI E, 4, .inl si4)), (qc, .inl (eJ E, 160, .inr (.inl (vp_updL (cpM ce (ix a2) (ix a4) (40 * ix a1 + ix a2) (40 * ix a3 + ix a4) (ix a5) i) (40 * ix a3 + ix a4 + cpI (ix a2) (ix a4) (ix a5) i) ((cpM ce (ix a2) (ix a4) (40 * ix a1 + ix a2) (40 * ix a3 + ix a4) (ix a5) i) (40 * ix a1 + ix a2 + cpI (ix a2) (ix a4) (ix a5) i)))))), (qf, .inl (eI E, 7, .inl fd))] := hD
            refine lv_iinc (v := nI (i + 1)) (lv' := [(7, .int (nI (i + 1))), (8, .int (nI (cpI (ix a2) (ix a4) (ix a5) i))), (6, .int (ncM a1 (bi4 (ix a1)) a2 Z a3 (bi4 (ix a3)) a4 Z2 a5)), (0, .ref h), (1, .int (nI (ix a1))), (2, .int (nI (ix a2))), (3, .int (nI (ix a3))), (4, .int (nI (ix a4))), (5, .int (nI (ix a5)))]) F.1 F.2.1 dX4_copy_84 hl (k := 1) rfl (nI_1 _) (by decide) rfl (fun ls hl => ?_)
            refine lv_goto (tgt := 28) F.1 F.2.1 dX4_copy_87 (by decide) ?_
            have ecell : (vp_updL (cpM ce (ix a2) (ix a4) (40 * ix a1 + ix a2) (40 * ix a3 + ix a4) (ix a5) i) (40 * ix a3 + ix a4 + cpI (ix a2) (ix a4) (ix a5) i) ((cpM ce (ix a2) (ix a4) (40 * ix a1 + ix a2) (40 * ix a3 + ix a4) (ix a5) i) (40 * ix a1 + ix a2 + cpI (ix a2) (ix a4) (ix a5) i))) = (cpM ce (ix a2) (ix a4) (40 * ix a1 + ix a2) (40 * ix a3 + ix a4) (ix a5) (i + 1)) := cpM_s _ hiN (by omega) (by omega)
            rw [ecell] at hP hD
            clear ecell
            have hP : va_P (eD E) vwCl [(h, .inr (4, fs)), (qb, .inl (eI E, 4, .inl bi4)), (qs, .inl (eI E, 4, .inl si4)), (qc, .inl (eJ E, 160, .inr (.inl (cpM ce (ix a2) (ix a4) (40 * ix a1 + ix a2) (40 * ix a3 + ix a4) (ix a5) (i + 1))))), (qf, .inl (eI E, 7, .inl fd))] H := hP
            have hD : va_D A [(h, .inr (4, fs)), (qb, .inl (eI E, 4, .inl bi4)), (qs, .inl (eI E, 4, .inl si4)), (qc, .inl (eJ E, 160, .inr (.inl (cpM ce (ix a2) (ix a4) (40 * ix a1 + ix a2) (40 * ix a3 + ix a4) (ix a5) (i + 1))))), (qf, .inl (eI E, 7, .inl fd))] := hD
            exact ih (i + 1) (by omega) (by omega)  _ _ _ hP hD hS (lv_sub hl [0, 2, 3, 4, 5, 6, 7, 8] rfl)
          refine lv_icmp_ge (tgt := 51) F.1 F.2.1 dX4_copy_38 (by decide) (fun k3 => ?_) (fun k3 => ?_)
          · refine lv_iload F.1 F.2.1 dX4_copy_51 (lv_at hl 0 rfl) ?_
            refine g_top (nI (cpI (ix a2) (ix a4) (ix a5) i)) (by first | exact cpI_ge k3 (by omega) (by omega) | exact cpI_lt k3 (by omega) (by omega) hiN (by omega)) ?_
            exact jn53 _ _ _ hP hD hS (lv_sub hl [0, 1, 2, 3, 4, 5, 6, 7] rfl)
          · refine lv_iload F.1 F.2.1 dX4_copy_41 (lv_at hl 7 rfl) ?_
            refine lv_iconst (v := 1) F.1 F.2.1 dX4_copy_43 (by decide) ?_
            refine lv_isub F.1 F.2.1 dX4_copy_44 ?_
            refine lv_iload F.1 F.2.1 dX4_copy_45 (lv_at hl 0 rfl) ?_
            refine lv_isub F.1 F.2.1 dX4_copy_47 ?_
            refine lv_goto (tgt := 53) F.1 F.2.1 dX4_copy_48 (by decide) ?_
            refine g_top (nI (cpI (ix a2) (ix a4) (ix a5) i)) (by first | exact cpI_ge k3 (by omega) (by omega) | exact cpI_lt k3 (by omega) (by omega) hiN (by omega)) ?_
            exact jn53 _ _ _ hP hD hS (lv_sub hl [0, 1, 2, 3, 4, 5, 6, 7] rfl)
    have ecell : ce = (cpM ce (ix a2) (ix a4) (40 * ix a1 + ix a2) (40 * ix a3 + ix a4) (ix a5) 0) := cpM_0 _ _ _ _ _ _
    rw [ecell] at hP hD
    clear ecell
    have hP : va_P (eD E) vwCl [(h, .inr (4, fs)), (qb, .inl (eI E, 4, .inl bi4)), (qs, .inl (eI E, 4, .inl si4)), (qc, .inl (eJ E, 160, .inr (.inl (cpM ce (ix a2) (ix a4) (40 * ix a1 + ix a2) (40 * ix a3 + ix a4) (ix a5) 0)))), (qf, .inl (eI E, 7, .inl fd))] H := hP
    have hD : va_D A [(h, .inr (4, fs)), (qb, .inl (eI E, 4, .inl bi4)), (qs, .inl (eI E, 4, .inl si4)), (qc, .inl (eJ E, 160, .inr (.inl (cpM ce (ix a2) (ix a4) (40 * ix a1 + ix a2) (40 * ix a3 + ix a4) (ix a5) 0)))), (qf, .inl (eI E, 7, .inl fd))] := hD
    exact lp28 ((ix a5) + 1) 0 (by omega) (by omega)  _ _ _ hP hD hS (lv_sub hl [0, 1, 2, 3, 4, 5, 6, 7] rfl)
  · refine lv_aload_n F.1 F.2.1 dX4_copy_18 rfl (lv_at hl 1 rfl) ?_
    refine lv_iload F.1 F.2.1 dX4_copy_19 (lv_at hl 0 rfl) ?_
    refine g_goI (wr := [(qb, .inl (eI E, 4, .inl bi4)), (qs, .inl (eI E, 4, .inl si4)), (qc, .inl (eJ E, 160, .inr (.inl ce)))]) (g_runV (As := [.int (ncM a1 (bi4 (ix a1)) a2 Z a3 (bi4 (ix a3)) a4 Z2 a5)]) (rest := []) F hX hP hD hS hA (c_X4_finds l E h fs qf fd (ncM a1 (bi4 (ix a1)) a2 Z a3 (bi4 (ix a3)) a4 Z2 a5) (ncK a1 (bi4 (ix a1)) a3 (bi4 (ix a3))) (by first | assumption | rfl) ((nc_k k1).1) ((nc_k k1).2) H.size) (cwV 1 F.2.2.2.2 gX4_copy_X4_finds rfl rfl rfl (by decide +kernel) ⟨Nat.le_of_ble_eq_true rfl, Nat.le_of_ble_eq_true rfl⟩) [0, 4] rfl rfl (q0 := 0) (ci := 4) rfl rfl rfl hl.1 rfl (Nat.le_of_ble_eq_true rfl) dX4_copy_21 ⟨Nat.le_refl _, Nat.le_refl _⟩) hP hD hS hA [0, 4] [1, 2, 3] rfl rfl rfl (by decide) (fun r _ H locs hq hP hD hS => ?_)
    have hP : va_P (eD E) vwCl [(h, .inr (4, fs)), (qb, .inl (eI E, 4, .inl bi4)), (qs, .inl (eI E, 4, .inl si4)), (qc, .inl (eJ E, 160, .inr (.inl ce))), (qf, .inl (eI E, 7, .inl (upd fd (ncK a1 (bi4 (ix a1)) a3 (bi4 (ix a3))) (fd (ncK a1 (bi4 (ix a1)) a3 (bi4 (ix a3))) + 1))))] H := hP.sub [3, 0, 1, 2, 4] rfl
    have hD : va_D A [(h, .inr (4, fs)), (qb, .inl (eI E, 4, .inl bi4)), (qs, .inl (eI E, 4, .inl si4)), (qc, .inl (eJ E, 160, .inr (.inl ce))), (qf, .inl (eI E, 7, .inl (upd fd (ncK a1 (bi4 (ix a1)) a3 (bi4 (ix a3))) (fd (ncK a1 (bi4 (ix a1)) a3 (bi4 (ix a3))) + 1))))] := hD.sub [3, 0, 1, 2, 4] (by decide) rfl
    subst hq
    exact g_reti F hr hlk (vp_nar_int _) hS hP hD ((ce, upd fd (ncK a1 (bi4 (ix a1)) a3 (bi4 (ix a3))) (fd (ncK a1 (bi4 (ix a1)) a3 (bi4 (ix a3))) + 1))) (rfl) (by unfold mn_copy; rw [if_neg k1]; rfl) dX4_copy_24
