set_option maxHeartbeats 4000000 in
set_option maxRecDepth 100000 in
theorem c_X4_feed (l : Launch) (E : gE) (h : Nat) (qm : Nat) (qk : Nat) (qw : Nat) (kp : Bool) (qf : Nat) (qt : Nat) (L : Nat) (tok : Int32) (beg : Int32) (att : Int32) (val : Int32) (bad : Int32) (qbi : Nat) (qsi : Nat) (qce : Nat) (by1 : Nat → Int32) (fd : Nat → Int32) (a1 : Int32) (a2 : Int32) (hL : L ≤ 120) : gI l yX4_feed wsX4_feed ({ frames := 1, cells := 0, slots := 0, locals := 23 }) E [(h, .inr (4, [.ref qm, .ref qk, .ref qw, .int (bi kp), .ref qf, .ref qt, .int (nI L), .int tok, .int beg, .int att, .int val, .int bad, .ref qbi, .ref qsi, .ref qce])), (qt, .inl (eI E, 120, .inl by1)), (qf, .inl (eI E, 7, .inl fd))] (fun u : Nat × (Nat → Int32) × (Nat → Int32) => [(h, .inr (4, [.ref qm, .ref qk, .ref qw, .int (bi kp), .ref qf, .ref qt, .int (nI u.1), .int tok, .int beg, .int att, .int val, .int bad, .ref qbi, .ref qsi, .ref qce])), (qt, .inl (eI E, 120, .inl u.2.1)), (qf, .inl (eI E, 7, .inl u.2.2))]) [.ref h, .int a1, .int a2] (fun (r : Int32) (u : Nat × (Nat → Int32) × (Nat → Int32)) => (r, u) = sp_feed L by1 fd a1 a2) := by
  have hin4 : ∀ w ∈ wsX40, w ∈ wsX4_feed := (fun _ h => (List.mem_cons_of_mem _ (List.mem_append_right _ h)))
  refine gI.of (cc := cX4_feed) (maxL := 4) (by decide) rfl (Nat.le_of_ble_eq_true rfl) ?_
  intro pG eG sG mG below meth cG A ls H locs F hr hlk hX hP hD hA hS hl
  have hl : lv_has ls 4 [(0, .ref h), (1, .int a1), (2, .int a2)] := hl
  refine lv_iload_n F.1 F.2.1 dX4_feed_0 rfl (lv_at hl 2 rfl) ?_
  refine lv_i2l (v := (a2 : Int32).toInt64) F.1 F.2.1 dX4_feed_1 rfl ?_
  refine lv_iconst (v := 1) F.1 F.2.1 dX4_feed_2 (by decide) ?_
  refine lv_iconst (v := 4) F.1 F.2.1 dX4_feed_3 (by decide) ?_
  refine g_goIr (g_runS (As := [.long ((a2 : Int32).toInt64), .int 1, .int 4]) (rest := []) F hX hP hD hS hA (c_X4_in_i l E a2 1 4 H.size) (va_cwS 3 F.2.2.2.2 gX4_feed_X4_in rfl rfl rfl (by decide +kernel) ⟨Nat.le_of_ble_eq_true rfl, Nat.le_of_ble_eq_true rfl⟩) [] rfl rfl rfl hl.1 rfl (Nat.le_of_ble_eq_true rfl) dX4_feed_4 ⟨Nat.le_refl _, Nat.le_refl _⟩) hP hD hS hA [] rfl (fun r _ H locs hq hP hS => ?_)
  subst hq
  refine g_bne (tgt := 17) F dX4_feed_7 (by decide) (fun k1 => ?_) (fun k1 => ?_)
  · refine lv_aload_n F.1 F.2.1 dX4_feed_17 rfl (lv_at hl 0 rfl) ?_
    refine g_get F hX hP hin4 0 rfl rfl 6 (by decide) (mm 2 rfl) rfl dX4_feed_18 ?_
    refine lv_iload_n F.1 F.2.1 dX4_feed_21 rfl (lv_at hl 2 rfl) ?_
    refine lv_iadd F.1 F.2.1 dX4_feed_22 ?_
    refine lv_bipush (v := 120) F.1 F.2.1 dX4_feed_23 (by decide) ?_
    refine lv_icmp_le (tgt := 35) F.1 F.2.1 dX4_feed_25 (by decide) (fun k2 => ?_) (fun k2 => ?_)
    · have k0 := ix_pos k1
      obtain ⟨e_a2, b_a2⟩ := ix_of 4 k1 (by decide) (by decide)
      have hl : lv_has ls 4 [(0, .ref h), (1, .int a1), (2, .int (nI (ix a2)))] := by rw [← e_a2]; exact hl
      have hR := fd_room hL e_a2 b_a2 k2
      refine lv_iload_n F.1 F.2.1 dX4_feed_35 rfl (lv_at hl 2 rfl) ?_
      refine lv_iconst (v := 1) F.1 F.2.1 dX4_feed_36 (by decide) ?_
      refine lv_isub F.1 F.2.1 dX4_feed_37 ?_
      refine lv_istore_n (lv' := [(3, .int ((nI (ix a2)) - 1)), (0, .ref h), (1, .int a1), (2, .int (nI (ix a2)))]) F.1 F.2.1 dX4_feed_38 rfl hl (by decide) rfl (fun ls hl => ?_)
      have lp39 : ∀ (fu i : Nat), i ≤ (ix a2) → (ix a2) + 1 ≤ i + fu → ∀ (H : Heap) (locs : List Loc) (ls : Array Slot), va_P (eD E) vwCl [(h, .inr (4, [.ref qm, .ref qk, .ref qw, .int (bi kp), .ref qf, .ref qt, .int (nI (L + i)), .int tok, .int beg, .int att, .int val, .int bad, .ref qbi, .ref qsi, .ref qce])), (qt, .inl (eI E, 120, .inl (fdB by1 L a1 (ix a2) i))), (qf, .inl (eI E, 7, .inl fd))] H → va_D A [(h, .inr (4, [.ref qm, .ref qk, .ref qw, .int (bi kp), .ref qf, .ref qt, .int (nI (L + i)), .int tok, .int beg, .int att, .int val, .int bad, .ref qbi, .ref qsi, .ref qce])), (qt, .inl (eI E, 120, .inl (fdB by1 L a1 (ix a2) i))), (qf, .inl (eI E, 7, .inl fd))] → va_S A sG.heap H locs → lv_has ls 4 [(3, .int (fdv (ix a2) i)), (0, .ref h), (1, .int a1), (2, .int (nI (ix a2)))] → W pG l eG { frames := 1, cells := 0, slots := 0, locals := 23 } sG mG [.ref h, .int a1, .int a2].toArray below meth cG H locs 0 0 (MQ below (va_Qi (fun (r : Int32) (u : Nat × (Nat → Int32) × (Nat → Int32)) => (r, u) = sp_feed L by1 fd a1 a2) (gR E (fun u : Nat × (Nat → Int32) × (Nat → Int32) => [(h, .inr (4, [.ref qm, .ref qk, .ref qw, .int (bi kp), .ref qf, .ref qt, .int (nI u.1), .int tok, .int beg, .int att, .int val, .int bad, .ref qbi, .ref qsi, .ref qce])), (qt, .inl (eI E, 120, .inl u.2.1)), (qf, .inl (eI E, 7, .inl u.2.2))]) A) A) [.ref h, .int a1, .int a2].toArray sG 0 0 A) (F0 mG 39 ls []) := by
        intro fu
        induction fu with
        | zero => intro i h1 h2; exact absurd h2 (by omega)
        | succ fu ih =>
          intro i hi hin   H locs ls hP hD hS hl
          refine lv_iload_n F.1 F.2.1 dX4_feed_39 rfl (lv_at hl 0 rfl) ?_
          refine lv_if_lt (tgt := 78) F.1 F.2.1 dX4_feed_40 (by decide) (fun k3 => ?_) (fun k3 => ?_)
          · have hiN : (ix a2) = i := Nat.le_antisymm ((fdv_lt k0 b_a2 hi).mp k3) hi
            subst hiN
            refine lv_aload_n F.1 F.2.1 dX4_feed_78 rfl (lv_at hl 1 rfl) ?_
            refine g_get F hX hP hin4 0 rfl rfl 6 (by decide) (mm 2 rfl) rfl dX4_feed_79 ?_
            exact g_reti F hr hlk (vp_nar_int _) hS hP hD (((L + (ix a2)), fdB by1 L a1 (ix a2) (ix a2), fd)) (rfl) (by unfold sp_feed; rw [if_pos k1, if_pos k2]) dX4_feed_82
          · have hiN : i < (ix a2) := Nat.lt_of_not_le (fun h => k3 ((fdv_lt k0 b_a2 hi).mpr h))
            refine lv_aload_n F.1 F.2.1 dX4_feed_43 rfl (lv_at hl 1 rfl) ?_
            refine g_get F hX hP hin4 0 rfl rfl 5 (by decide) (mm 4 rfl) rfl dX4_feed_44 ?_
            refine lv_aload_n F.1 F.2.1 dX4_feed_47 rfl (lv_at hl 1 rfl) ?_
            refine g_get F hX hP hin4 0 rfl rfl 6 (by decide) (mm 2 rfl) rfl dX4_feed_48 ?_
            refine lv_iload_n F.1 F.2.1 dX4_feed_51 rfl (lv_at hl 2 rfl) ?_
            refine lv_bipush (v := 8) F.1 F.2.1 dX4_feed_52 (by decide) ?_
            refine lv_iload_n F.1 F.2.1 dX4_feed_54 rfl (lv_at hl 0 rfl) ?_
            refine lv_imul F.1 F.2.1 dX4_feed_55 ?_
            refine lv_ishr F.1 F.2.1 dX4_feed_56 ?_
            refine lv_sipush (v := 255) F.1 F.2.1 dX4_feed_57 (by decide) ?_
            refine lv_iand F.1 F.2.1 dX4_feed_60 ?_
            refine g_iast F hX hP hD hS 1 rfl (j := (L + i)) (rfl) (by omega) (by decide) dX4_feed_61 (fun H locs hP hD hS => ?_)
            have hP : va_P (eD E) vwCl [(h, .inr (4, [.ref qm, .ref qk, .ref qw, .int (bi kp), .ref qf, .ref qt, .int (nI (L + i)), .int tok, .int beg, .int att, .int val, .int bad, .ref qbi, .ref qsi, .ref qce])), (qt, .inl (eI E, 120, .inl (upd (fdB by1 L a1 (ix a2) i) (L + i) ((a1 >>> ((8 * (fdv (ix a2) i)) &&& 31)) &&& 255)))), (qf, .inl (eI E, 7, .inl fd))] H := hP
            have hD : va_D A [(h, .inr (4, [.ref qm, .ref qk, .ref qw, .int (bi kp), .ref qf, .ref qt, .int (nI (L + i)), .int tok, .int beg, .int att, .int val, .int bad, .ref qbi, .ref qsi, .ref qce])), (qt, .inl (eI E, 120, .inl (upd (fdB by1 L a1 (ix a2) i) (L + i) ((a1 >>> ((8 * (fdv (ix a2) i)) &&& 31)) &&& 255)))), (qf, .inl (eI E, 7, .inl fd))] := hD
            refine lv_aload_n F.1 F.2.1 dX4_feed_62 rfl (lv_at hl 1 rfl) ?_
            refine lv_dup F.1 F.2.1 dX4_feed_63 rfl ?_
            refine g_get F hX hP hin4 0 rfl rfl 6 (by decide) (mm 2 rfl) rfl dX4_feed_64 ?_
            refine lv_iconst (v := 1) F.1 F.2.1 dX4_feed_67 (by decide) ?_
            refine lv_iadd F.1 F.2.1 dX4_feed_68 ?_
            refine g_top (nI (L + (i + 1))) (nI_1 _) ?_
            refine g_put F hX hP hD hS hin4 tyX4 tyX4_ok nmX4 0 rfl rfl 6 (by decide) (mm 2 rfl) rfl (rfl) (rfl) (Nat.le_of_ble_eq_true rfl) dX4_feed_69 (fun H locs hP hD hS => ?_)
            have hP : va_P (eD E) vwCl [(h, .inr (4, [.ref qm, .ref qk, .ref qw, .int (bi kp), .ref qf, .ref qt, .int (nI (L + (i + 1))), .int tok, .int beg, .int att, .int val, .int bad, .ref qbi, .ref qsi, .ref qce])), (qt, .inl (eI E, 120, .inl (upd (fdB by1 L a1 (ix a2) i) (L + i) ((a1 >>> ((8 * (fdv (ix a2) i)) &&& 31)) &&& 255)))), (qf, .inl (eI E, 7, .inl fd))] H := hP
            have hD : va_D A [(h, .inr (4, [.ref qm, .ref qk, .ref qw, .int (bi kp), .ref qf, .ref qt, .int (nI (L + (i + 1))), .int tok, .int beg, .int att, .int val, .int bad, .ref qbi, .ref qsi, .ref qce])), (qt, .inl (eI E, 120, .inl (upd (fdB by1 L a1 (ix a2) i) (L + i) ((a1 >>> ((8 * (fdv (ix a2) i)) &&& 31)) &&& 255)))), (qf, .inl (eI E, 7, .inl fd))] := hD
            refine lv_iinc (v := fdv (ix a2) (i + 1)) (lv' := [(3, .int (fdv (ix a2) (i + 1))), (0, .ref h), (1, .int a1), (2, .int (nI (ix a2)))]) F.1 F.2.1 dX4_feed_72 hl (k := 0) rfl (fdv_s _ _) (by decide) rfl (fun ls hl => ?_)
            refine lv_goto (tgt := 39) F.1 F.2.1 dX4_feed_75 (by decide) ?_
            have hP : va_P (eD E) vwCl [(h, .inr (4, [.ref qm, .ref qk, .ref qw, .int (bi kp), .ref qf, .ref qt, .int (nI (L + (i + 1))), .int tok, .int beg, .int att, .int val, .int bad, .ref qbi, .ref qsi, .ref qce])), (qt, .inl (eI E, 120, .inl (fdB by1 L a1 (ix a2) (i + 1)))), (qf, .inl (eI E, 7, .inl fd))] H := hP
            have hD : va_D A [(h, .inr (4, [.ref qm, .ref qk, .ref qw, .int (bi kp), .ref qf, .ref qt, .int (nI (L + (i + 1))), .int tok, .int beg, .int att, .int val, .int bad, .ref qbi, .ref qsi, .ref qce])), (qt, .inl (eI E, 120, .inl (fdB by1 L a1 (ix a2) (i + 1)))), (qf, .inl (eI E, 7, .inl fd))] := hD
            exact ih (i + 1) (by omega) (by omega)  _ _ _ hP hD hS (lv_sub hl [0, 1, 2, 3] rfl)
      rw [show ((nI (ix a2)) - 1 : Int32) = fdv (ix a2) 0 from by unfold fdv; rw [nI_0, Int32.sub_zero]] at hl
      have hP : va_P (eD E) vwCl [(h, .inr (4, [.ref qm, .ref qk, .ref qw, .int (bi kp), .ref qf, .ref qt, .int (nI (L + 0)), .int tok, .int beg, .int att, .int val, .int bad, .ref qbi, .ref qsi, .ref qce])), (qt, .inl (eI E, 120, .inl (fdB by1 L a1 (ix a2) 0))), (qf, .inl (eI E, 7, .inl fd))] H := hP
      have hD : va_D A [(h, .inr (4, [.ref qm, .ref qk, .ref qw, .int (bi kp), .ref qf, .ref qt, .int (nI (L + 0)), .int tok, .int beg, .int att, .int val, .int bad, .ref qbi, .ref qsi, .ref qce])), (qt, .inl (eI E, 120, .inl (fdB by1 L a1 (ix a2) 0))), (qf, .inl (eI E, 7, .inl fd))] := hD
      exact lp39 ((ix a2) + 1) 0 (by omega) (by omega)  _ _ _ hP hD hS (lv_sub hl [0, 1, 2, 3] rfl)
    · refine lv_aload_n F.1 F.2.1 dX4_feed_28 rfl (lv_at hl 0 rfl) ?_
      refine lv_ldc (v := (-1000000002)) F.1 F.2.1 F.2.2.2.1 (F.2.2.2.2 _ (mm 3 rfl)) dX4_feed_29 ?_
      refine g_goI (wr := [(qt, .inl (eI E, 120, .inl by1))]) (g_runV (As := [.int (-1000000002)]) (rest := []) F hX hP hD hS hA (c_X4_finds l E h [.ref qm, .ref qk, .ref qw, .int (bi kp), .ref qf, .ref qt, .int (nI L), .int tok, .int beg, .int att, .int val, .int bad, .ref qbi, .ref qsi, .ref qce] qf fd (-1000000002) 1 (by first | assumption | rfl) (by decide +kernel) (by decide) H.size) (cwV 1 F.2.2.2.2 gX4_feed_X4_finds rfl rfl rfl (by decide +kernel) ⟨Nat.le_of_ble_eq_true rfl, Nat.le_of_ble_eq_true rfl⟩) [0, 2] rfl rfl (q0 := 0) (ci := 4) rfl rfl rfl hl.1 rfl (Nat.le_of_ble_eq_true rfl) dX4_feed_31 ⟨Nat.le_refl _, Nat.le_refl _⟩) hP hD hS hA [0, 2] [1] rfl rfl rfl (by decide) (fun r _ H locs hq hP hD hS => ?_)
      have hP : va_P (eD E) vwCl [(h, .inr (4, [.ref qm, .ref qk, .ref qw, .int (bi kp), .ref qf, .ref qt, .int (nI L), .int tok, .int beg, .int att, .int val, .int bad, .ref qbi, .ref qsi, .ref qce])), (qt, .inl (eI E, 120, .inl by1)), (qf, .inl (eI E, 7, .inl (upd fd 1 (fd 1 + 1))))] H := hP.sub [1, 0, 2] rfl
      have hD : va_D A [(h, .inr (4, [.ref qm, .ref qk, .ref qw, .int (bi kp), .ref qf, .ref qt, .int (nI L), .int tok, .int beg, .int att, .int val, .int bad, .ref qbi, .ref qsi, .ref qce])), (qt, .inl (eI E, 120, .inl by1)), (qf, .inl (eI E, 7, .inl (upd fd 1 (fd 1 + 1))))] := hD.sub [1, 0, 2] (by decide) rfl
      subst hq
      exact g_reti F hr hlk (vp_nar_int _) hS hP hD ((L, by1, upd fd 1 (fd 1 + 1))) (rfl) (by unfold sp_feed; (try simp only [k1, and_self, true_and, and_true, if_true, Bool.false_eq_true, false_and, and_false, if_false]); all_goals simp [fn, k1, k2]) dX4_feed_34
  · refine lv_aload_n F.1 F.2.1 dX4_feed_10 rfl (lv_at hl 0 rfl) ?_
    refine lv_ldc (v := (-1000000001)) F.1 F.2.1 F.2.2.2.1 (F.2.2.2.2 _ (mm 1 rfl)) dX4_feed_11 ?_
    refine g_goI (wr := [(qt, .inl (eI E, 120, .inl by1))]) (g_runV (As := [.int (-1000000001)]) (rest := []) F hX hP hD hS hA (c_X4_finds l E h [.ref qm, .ref qk, .ref qw, .int (bi kp), .ref qf, .ref qt, .int (nI L), .int tok, .int beg, .int att, .int val, .int bad, .ref qbi, .ref qsi, .ref qce] qf fd (-1000000001) 0 (by first | assumption | rfl) (by decide +kernel) (by decide) H.size) (cwV 1 F.2.2.2.2 gX4_feed_X4_finds rfl rfl rfl (by decide +kernel) ⟨Nat.le_of_ble_eq_true rfl, Nat.le_of_ble_eq_true rfl⟩) [0, 2] rfl rfl (q0 := 0) (ci := 4) rfl rfl rfl hl.1 rfl (Nat.le_of_ble_eq_true rfl) dX4_feed_13 ⟨Nat.le_refl _, Nat.le_refl _⟩) hP hD hS hA [0, 2] [1] rfl rfl rfl (by decide) (fun r _ H locs hq hP hD hS => ?_)
    have hP : va_P (eD E) vwCl [(h, .inr (4, [.ref qm, .ref qk, .ref qw, .int (bi kp), .ref qf, .ref qt, .int (nI L), .int tok, .int beg, .int att, .int val, .int bad, .ref qbi, .ref qsi, .ref qce])), (qt, .inl (eI E, 120, .inl by1)), (qf, .inl (eI E, 7, .inl (upd fd 0 (fd 0 + 1))))] H := hP.sub [1, 0, 2] rfl
    have hD : va_D A [(h, .inr (4, [.ref qm, .ref qk, .ref qw, .int (bi kp), .ref qf, .ref qt, .int (nI L), .int tok, .int beg, .int att, .int val, .int bad, .ref qbi, .ref qsi, .ref qce])), (qt, .inl (eI E, 120, .inl by1)), (qf, .inl (eI E, 7, .inl (upd fd 0 (fd 0 + 1))))] := hD.sub [1, 0, 2] (by decide) rfl
    subst hq
    exact g_reti F hr hlk (vp_nar_int _) hS hP hD ((L, by1, upd fd 0 (fd 0 + 1))) (rfl) (by unfold sp_feed; (try simp only [k1, and_self, true_and, and_true, if_true, Bool.false_eq_true, false_and, and_false, if_false]); all_goals simp [fn, k1]) dX4_feed_16
