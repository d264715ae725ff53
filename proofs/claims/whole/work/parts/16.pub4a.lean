/-! feed, wipe, count, status, image, undo, tear: both sides -/
def fdv (K i : Nat) : Int32 := nI K - 1 - nI i
theorem fdv_s (K i : Nat) : fdv K i + (-1) = fdv K (i + 1) := by
  unfold fdv
  rw [nI_succ]
  show (nI K - 1 - nI i : Int32) + -1 = nI K - 1 - (nI i + 1)
  rw [← Int32.sub_eq_add_neg, Int32.sub_sub]
theorem fdv_lt {K i : Nat} (hK : 0 < K) (hK4 : K ≤ 4) (h : i ≤ K) : fdv K i < 0 ↔ K ≤ i := by
  obtain ⟨k, rfl⟩ : ∃ k, K = k + 1 := ⟨K - 1, by omega⟩
  unfold fdv
  rw [nI_pred, Int32.lt_iff_toInt_lt, pk_sub_toInt (by omega) (by omega)]
  show (k : Int) - i < 0 ↔ _
  omega
def fdB (by1 : Nat → Int32) (L : Nat) (a1 : Int32) (K : Nat) : Nat → Nat → Int32
  | 0 => by1
  | i + 1 => upd (fdB by1 L a1 K i) (L + i) ((a1 >>> ((8 * fdv K i) &&& 31)) &&& 255)
theorem fd_room {L : Nat} {a2 : Int32} (hL : L ≤ 120) (e : a2 = nI (ix a2)) (b : ix a2 ≤ 4) (h : nI L + a2 ≤ 120) : L + ix a2 ≤ 120 := by
  rw [e, nI_add] at h
  exact (nI_leI (by omega) (by decide)).mp (show nI (L + ix a2) ≤ nI 120 from h)
theorem ix_pos {x : Int32} {b : Int32} (h : inR x 1 b = true) : 0 < ix x := by
  have h1 := (inR_iff.mp h).1
  have h2 : (1 : Int) ≤ x.toInt := h1
  have := ix_int (x := x) (by omega)
  omega
set_option maxHeartbeats 4000000 in
set_option maxRecDepth 100000 in
theorem c_X1_add (l : Launch) (E : gE) (tp : Nat) (qb : Nat) (L : Nat) (it1_ : Int32) (pc1 : Int32) (bh1 : Int32) (so1 : Int32) (va1 : Int32) (by1 : Nat → Int32) (v : Int32) (hL : L < 120) : gV l yX1_add wsX1_add ({ frames := 0, cells := 0, slots := 0, locals := 0 }) E [(tp, .inr (1, [.ref qb, .int (nI L), .int it1_, .int pc1, .int bh1, .int so1, .int va1])), (qb, .inl (eI E, 120, .inl by1))] (fun _ : Unit => [(tp, .inr (1, [.ref qb, .int (nI (L + 1)), .int it1_, .int pc1, .int bh1, .int so1, .int va1])), (qb, .inl (eI E, 120, .inl (upd by1 L v)))]) [.ref tp, .int v] (fun (_ : Unit) => True) := by
  have hin1 : ∀ w ∈ wsX10, w ∈ wsX1_add := (fun _ h => (List.mem_cons_of_mem _ (List.mem_append_right _ h)))
  refine gV.of (cc := cX1_add) (maxL := 2) (by decide) rfl (Nat.le_of_ble_eq_true rfl) ?_
  intro pG eG sG mG below meth cG A ls H locs F hr hlk hX hP hD hA hS hl
  have hl : lv_has ls 2 [(0, .ref tp), (1, .int v)] := hl
  refine lv_aload_n F.1 F.2.1 dX1_add_0 rfl (lv_at hl 0 rfl) ?_
  refine g_get F hX hP hin1 0 rfl rfl 1 (by decide) (mm 1 rfl) rfl dX1_add_1 ?_
  refine lv_bipush (v := 120) F.1 F.2.1 dX1_add_4 (by decide) ?_
  refine lv_icmp_ge (tgt := 29) F.1 F.2.1 dX1_add_6 (by decide) (fun k1 => ?_) (fun k1 => ?_)
  · exact absurd k1 (nI_ge hL (by decide))
  · refine lv_aload_n F.1 F.2.1 dX1_add_9 rfl (lv_at hl 0 rfl) ?_
    refine g_get F hX hP hin1 0 rfl rfl 0 (by decide) (mm 2 rfl) rfl dX1_add_10 ?_
    refine lv_aload_n F.1 F.2.1 dX1_add_13 rfl (lv_at hl 0 rfl) ?_
    refine g_get F hX hP hin1 0 rfl rfl 1 (by decide) (mm 1 rfl) rfl dX1_add_14 ?_
    refine lv_iload_n F.1 F.2.1 dX1_add_17 rfl (lv_at hl 1 rfl) ?_
    refine g_iast F hX hP hD hS 1 rfl (j := L) (rfl) (by omega) (by decide) dX1_add_18 (fun H locs hP hD hS => ?_)
    have hP : va_P (eD E) vwCl [(tp, .inr (1, [.ref qb, .int (nI L), .int it1_, .int pc1, .int bh1, .int so1, .int va1])), (qb, .inl (eI E, 120, .inl (upd by1 L v)))] H := hP
    have hD : va_D A [(tp, .inr (1, [.ref qb, .int (nI L), .int it1_, .int pc1, .int bh1, .int so1, .int va1])), (qb, .inl (eI E, 120, .inl (upd by1 L v)))] := hD
    refine lv_aload_n F.1 F.2.1 dX1_add_19 rfl (lv_at hl 0 rfl) ?_
    refine lv_dup F.1 F.2.1 dX1_add_20 rfl ?_
    refine g_get F hX hP hin1 0 rfl rfl 1 (by decide) (mm 1 rfl) rfl dX1_add_21 ?_
    refine lv_iconst (v := 1) F.1 F.2.1 dX1_add_24 (by decide) ?_
    refine lv_iadd F.1 F.2.1 dX1_add_25 ?_
    refine g_top (nI (L + 1)) (nI_1 _) ?_
    refine g_put F hX hP hD hS hin1 tyX1 tyX1_ok nmX1 0 rfl rfl 1 (by decide) (mm 1 rfl) rfl (rfl) (rfl) (Nat.le_of_ble_eq_true rfl) dX1_add_26 (fun H locs hP hD hS => ?_)
    have hP : va_P (eD E) vwCl [(tp, .inr (1, [.ref qb, .int (nI (L + 1)), .int it1_, .int pc1, .int bh1, .int so1, .int va1])), (qb, .inl (eI E, 120, .inl (upd by1 L v)))] H := hP
    have hD : va_D A [(tp, .inr (1, [.ref qb, .int (nI (L + 1)), .int it1_, .int pc1, .int bh1, .int so1, .int va1])), (qb, .inl (eI E, 120, .inl (upd by1 L v)))] := hD
    exact g_retv F hr hlk hS hP hD (()) (rfl) (trivial) dX1_add_29
def sp_feed (L : Nat) (by1 fd : Nat → Int32) (a1 a2 : Int32) : Int32 × Nat × (Nat → Int32) × (Nat → Int32) := if inR a2 1 4 = true then (if nI L + a2 ≤ 120 then (nI (L + ix a2), L + ix a2, fdB by1 L a1 (ix a2) (ix a2), fd) else (-1000000002, L, by1, fn fd 1)) else (-1000000001, L, by1, fn fd 0)
set_option maxHeartbeats 4000000 in
set_option maxRecDepth 100000 in
theorem c_X3_feed (l : Launch) (E : gE) (x : Nat) (fx : List Value) (tp : Nat) (qf : Nat) (qb : Nat) (L : Nat) (it1_ : Int32) (pc1 : Int32) (bh1 : Int32) (so1 : Int32) (va1 : Int32) (by1 : Nat → Int32) (fd : Nat → Int32) (a1 : Int32) (a2 : Int32) (hx3 : fx[3]? = some (.ref tp)) (hx5 : fx[5]? = some (.ref qf)) (hL : L ≤ 120) : gI l yX3_feed wsX3_feed ({ frames := 2, cells := 0, slots := 0, locals := 44 }) E [(x, .inr (3, fx)), (tp, .inr (1, [.ref qb, .int (nI L), .int it1_, .int pc1, .int bh1, .int so1, .int va1])), (qb, .inl (eI E, 120, .inl by1)), (qf, .inl (eI E, 7, .inl fd))] (fun u : Nat × (Nat → Int32) × (Nat → Int32) => [(x, .inr (3, fx)), (tp, .inr (1, [.ref qb, .int (nI u.1), .int it1_, .int pc1, .int bh1, .int so1, .int va1])), (qb, .inl (eI E, 120, .inl u.2.1)), (qf, .inl (eI E, 7, .inl u.2.2))]) [.ref x, .int a1, .int a2] (fun (r : Int32) (u : Nat × (Nat → Int32) × (Nat → Int32)) => (r, u) = sp_feed L by1 fd a1 a2) := by
  have hin1 : ∀ w ∈ wsX10, w ∈ wsX3_feed := (fun _ h => (List.mem_cons_of_mem _ (List.mem_append_right _ h)))
  have hin3 : ∀ w ∈ wsX30, w ∈ wsX3_feed := (fun _ h => (List.mem_cons_of_mem _ (List.mem_append_left _ (List.mem_append_right _ h))))
  refine gI.of (cc := cX3_feed) (maxL := 4) (by decide) rfl (Nat.le_of_ble_eq_true rfl) ?_
  intro pG eG sG mG below meth cG A ls H locs F hr hlk hX hP hD hA hS hl
  have hl : lv_has ls 4 [(0, .ref x), (1, .int a1), (2, .int a2)] := hl
  refine lv_iload_n F.1 F.2.1 dX3_feed_0 rfl (lv_at hl 2 rfl) ?_
  refine lv_iconst (v := 1) F.1 F.2.1 dX3_feed_1 (by decide) ?_
  refine lv_iconst (v := 4) F.1 F.2.1 dX3_feed_2 (by decide) ?_
  refine g_goIr (g_runS (As := [.int a2, .int 1, .int 4]) (rest := []) F hX hP hD hS hA (c_X3_isWithin l E a2 1 4 H.size) (va_cwS 3 F.2.2.2.2 gX3_feed_X3_isWithin rfl rfl rfl (by decide +kernel) ⟨Nat.le_of_ble_eq_true rfl, Nat.le_of_ble_eq_true rfl⟩) [] rfl rfl rfl hl.1 rfl (Nat.le_of_ble_eq_true rfl) dX3_feed_3 ⟨Nat.le_refl _, Nat.le_refl _⟩) hP hD hS hA [] rfl (fun r _ H locs hq hP hS => ?_)
  subst hq
  refine g_bne (tgt := 16) F dX3_feed_6 (by decide) (fun k1 => ?_) (fun k1 => ?_)
  · refine lv_aload_n F.1 F.2.1 dX3_feed_16 rfl (lv_at hl 0 rfl) ?_
    refine g_get F hX hP hin3 0 rfl rfl 3 (by decide) (mm 2 rfl) hx3 dX3_feed_17 ?_
    refine g_get F hX hP hin1 1 rfl rfl 1 (by decide) (mm 3 rfl) rfl dX3_feed_20 ?_
    refine lv_iload_n F.1 F.2.1 dX3_feed_23 rfl (lv_at hl 2 rfl) ?_
    refine lv_iadd F.1 F.2.1 dX3_feed_24 ?_
    refine lv_bipush (v := 120) F.1 F.2.1 dX3_feed_25 (by decide) ?_
    refine lv_icmp_le (tgt := 37) F.1 F.2.1 dX3_feed_27 (by decide) (fun k2 => ?_) (fun k2 => ?_)
    · have k0 := ix_pos k1
      obtain ⟨e_a2, b_a2⟩ := ix_of 4 k1 (by decide) (by decide)
      have hl : lv_has ls 4 [(0, .ref x), (1, .int a1), (2, .int (nI (ix a2)))] := by rw [← e_a2]; exact hl
      have hR := fd_room hL e_a2 b_a2 k2
      refine lv_iload_n F.1 F.2.1 dX3_feed_37 rfl (lv_at hl 2 rfl) ?_
      refine lv_iconst (v := 1) F.1 F.2.1 dX3_feed_38 (by decide) ?_
      refine lv_isub F.1 F.2.1 dX3_feed_39 ?_
      refine lv_istore_n (lv' := [(3, .int ((nI (ix a2)) - 1)), (0, .ref x), (1, .int a1), (2, .int (nI (ix a2)))]) F.1 F.2.1 dX3_feed_40 rfl hl (by decide) rfl (fun ls hl => ?_)
      have lp41 : ∀ (fu i : Nat), i ≤ (ix a2) → (ix a2) + 1 ≤ i + fu → ∀ (H : Heap) (locs : List Loc) (ls : Array Slot), va_P (eD E) vwCl [(x, .inr (3, fx)), (tp, .inr (1, [.ref qb, .int (nI (L + i)), .int it1_, .int pc1, .int bh1, .int so1, .int va1])), (qb, .inl (eI E, 120, .inl (fdB by1 L a1 (ix a2) i))), (qf, .inl (eI E, 7, .inl fd))] H → va_D A [(x, .inr (3, fx)), (tp, .inr (1, [.ref qb, .int (nI (L + i)), .int it1_, .int pc1, .int bh1, .int so1, .int va1])), (qb, .inl (eI E, 120, .inl (fdB by1 L a1 (ix a2) i))), (qf, .inl (eI E, 7, .inl fd))] → va_S A sG.heap H locs → lv_has ls 4 [(3, .int (fdv (ix a2) i)), (0, .ref x), (1, .int a1), (2, .int (nI (ix a2)))] → W pG l eG { frames := 2, cells := 0, slots := 0, locals := 44 } sG mG [.ref x, .int a1, .int a2].toArray below meth cG H locs 0 0 (MQ below (va_Qi (fun (r : Int32) (u : Nat × (Nat → Int32) × (Nat → Int32)) => (r, u) = sp_feed L by1 fd a1 a2) (gR E (fun u : Nat × (Nat → Int32) × (Nat → Int32) => [(x, .inr (3, fx)), (tp, .inr (1, [.ref qb, .int (nI u.1), .int it1_, .int pc1, .int bh1, .int so1, .int va1])), (qb, .inl (eI E, 120, .inl u.2.1)), (qf, .inl (eI E, 7, .inl u.2.2))]) A) A) [.ref x, .int a1, .int a2].toArray sG 0 0 A) (F0 mG 41 ls []) := by
        intro fu
        induction fu with
        | zero => intro i h1 h2; exact absurd h2 (by omega)
        | succ fu ih =>
          intro i hi hin   H locs ls hP hD hS hl
          refine lv_iload_n F.1 F.2.1 dX3_feed_41 rfl (lv_at hl 0 rfl) ?_
          refine lv_if_lt (tgt := 68) F.1 F.2.1 dX3_feed_42 (by decide) (fun k3 => ?_) (fun k3 => ?_)
          · have hiN : (ix a2) = i := Nat.le_antisymm ((fdv_lt k0 b_a2 hi).mp k3) hi
            subst hiN
            refine lv_aload_n F.1 F.2.1 dX3_feed_68 rfl (lv_at hl 1 rfl) ?_
            refine g_get F hX hP hin3 0 rfl rfl 3 (by decide) (mm 2 rfl) hx3 dX3_feed_69 ?_
            refine g_get F hX hP hin1 1 rfl rfl 1 (by decide) (mm 3 rfl) rfl dX3_feed_72 ?_
            exact g_reti F hr hlk (vp_nar_int _) hS hP hD (((L + (ix a2)), fdB by1 L a1 (ix a2) (ix a2), fd)) (rfl) (by unfold sp_feed; rw [if_pos k1, if_pos k2]) dX3_feed_75
          · have hiN : i < (ix a2) := Nat.lt_of_not_le (fun h => k3 ((fdv_lt k0 b_a2 hi).mpr h))
            refine lv_aload_n F.1 F.2.1 dX3_feed_45 rfl (lv_at hl 1 rfl) ?_
            refine g_get F hX hP hin3 0 rfl rfl 3 (by decide) (mm 2 rfl) hx3 dX3_feed_46 ?_
            refine lv_iload_n F.1 F.2.1 dX3_feed_49 rfl (lv_at hl 2 rfl) ?_
            refine lv_bipush (v := 8) F.1 F.2.1 dX3_feed_50 (by decide) ?_
            refine lv_iload_n F.1 F.2.1 dX3_feed_52 rfl (lv_at hl 0 rfl) ?_
            refine lv_imul F.1 F.2.1 dX3_feed_53 ?_
            refine lv_ishr F.1 F.2.1 dX3_feed_54 ?_
            refine lv_sipush (v := 255) F.1 F.2.1 dX3_feed_55 (by decide) ?_
            refine lv_iand F.1 F.2.1 dX3_feed_58 ?_
            refine g_goV (wr := [(x, .inr (3, fx)), (qf, .inl (eI E, 7, .inl fd))]) (g_runV (As := [.int ((a1 >>> ((8 * (fdv (ix a2) i)) &&& 31)) &&& 255)]) (rest := []) F hX hP hD hS hA (c_X1_add l E tp qb (L + i) it1_ pc1 bh1 so1 va1 (fdB by1 L a1 (ix a2) i) ((a1 >>> ((8 * (fdv (ix a2) i)) &&& 31)) &&& 255) (by first | assumption | omega) H.size) (cwV 1 F.2.2.2.2 gX3_feed_X1_add rfl rfl rfl (by decide +kernel) ⟨Nat.le_of_ble_eq_true rfl, Nat.le_of_ble_eq_true rfl⟩) [1, 2] rfl rfl (q0 := 1) (ci := 1) rfl rfl rfl hl.1 rfl (Nat.le_of_ble_eq_true rfl) dX3_feed_59 ⟨Nat.le_refl _, Nat.le_refl _⟩) hP hD hS hA [1, 2] [0, 3] rfl rfl rfl (by decide) (fun _ H locs hq hP hD hS => ?_)
            have hP : va_P (eD E) vwCl [(x, .inr (3, fx)), (tp, .inr (1, [.ref qb, .int (nI ((L + i) + 1)), .int it1_, .int pc1, .int bh1, .int so1, .int va1])), (qb, .inl (eI E, 120, .inl (upd (fdB by1 L a1 (ix a2) i) (L + i) ((a1 >>> ((8 * (fdv (ix a2) i)) &&& 31)) &&& 255)))), (qf, .inl (eI E, 7, .inl fd))] H := hP.sub [0, 2, 3, 1] rfl
            have hD : va_D A [(x, .inr (3, fx)), (tp, .inr (1, [.ref qb, .int (nI ((L + i) + 1)), .int it1_, .int pc1, .int bh1, .int so1, .int va1])), (qb, .inl (eI E, 120, .inl (upd (fdB by1 L a1 (ix a2) i) (L + i) ((a1 >>> ((8 * (fdv (ix a2) i)) &&& 31)) &&& 255)))), (qf, .inl (eI E, 7, .inl fd))] := hD.sub [0, 2, 3, 1] (by decide) rfl
            refine lv_iinc (v := fdv (ix a2) (i + 1)) (lv' := [(3, .int (fdv (ix a2) (i + 1))), (0, .ref x), (1, .int a1), (2, .int (nI (ix a2)))]) F.1 F.2.1 dX3_feed_62 hl (k := 0) rfl (fdv_s _ _) (by decide) rfl (fun ls hl => ?_)
            refine lv_goto (tgt := 41) F.1 F.2.1 dX3_feed_65 (by decide) ?_
            have hP : va_P (eD E) vwCl [(x, .inr (3, fx)), (tp, .inr (1, [.ref qb, .int (nI (L + (i + 1))), .int it1_, .int pc1, .int bh1, .int so1, .int va1])), (qb, .inl (eI E, 120, .inl (fdB by1 L a1 (ix a2) (i + 1)))), (qf, .inl (eI E, 7, .inl fd))] H := hP
            have hD : va_D A [(x, .inr (3, fx)), (tp, .inr (1, [.ref qb, .int (nI (L + (i + 1))), .int it1_, .int pc1, .int bh1, .int so1, .int va1])), (qb, .inl (eI E, 120, .inl (fdB by1 L a1 (ix a2) (i + 1)))), (qf, .inl (eI E, 7, .inl fd))] := hD
            exact ih (i + 1) (by omega) (by omega)  _ _ _ hP hD hS (lv_sub hl [0, 1, 2, 3] rfl)
      rw [show ((nI (ix a2)) - 1 : Int32) = fdv (ix a2) 0 from by unfold fdv; rw [nI_0, Int32.sub_zero]] at hl
      have hP : va_P (eD E) vwCl [(x, .inr (3, fx)), (tp, .inr (1, [.ref qb, .int (nI (L + 0)), .int it1_, .int pc1, .int bh1, .int so1, .int va1])), (qb, .inl (eI E, 120, .inl (fdB by1 L a1 (ix a2) 0))), (qf, .inl (eI E, 7, .inl fd))] H := hP
      have hD : va_D A [(x, .inr (3, fx)), (tp, .inr (1, [.ref qb, .int (nI (L + 0)), .int it1_, .int pc1, .int bh1, .int so1, .int va1])), (qb, .inl (eI E, 120, .inl (fdB by1 L a1 (ix a2) 0))), (qf, .inl (eI E, 7, .inl fd))] := hD
      exact lp41 ((ix a2) + 1) 0 (by omega) (by omega)  _ _ _ hP hD hS (lv_sub hl [0, 1, 2, 3] rfl)
    · refine lv_aload_n F.1 F.2.1 dX3_feed_30 rfl (lv_at hl 0 rfl) ?_
      refine lv_ldc (v := (-1000000002)) F.1 F.2.1 F.2.2.2.1 (F.2.2.2.2 _ (mm 4 rfl)) dX3_feed_31 ?_
      refine g_goI (wr := [(tp, .inr (1, [.ref qb, .int (nI L), .int it1_, .int pc1, .int bh1, .int so1, .int va1])), (qb, .inl (eI E, 120, .inl by1))]) (g_runV (As := [.int (-1000000002)]) (rest := []) F hX hP hD hS hA (c_X3_found l E x fx qf fd (-1000000002) 1 (by first | assumption | rfl) (by decide +kernel) (by decide) H.size) (cwV 1 F.2.2.2.2 gX3_feed_X3_found rfl rfl rfl (by decide +kernel) ⟨Nat.le_of_ble_eq_true rfl, Nat.le_of_ble_eq_true rfl⟩) [0, 3] rfl rfl (q0 := 0) (ci := 3) rfl rfl rfl hl.1 rfl (Nat.le_of_ble_eq_true rfl) dX3_feed_33 ⟨Nat.le_refl _, Nat.le_refl _⟩) hP hD hS hA [0, 3] [1, 2] rfl rfl rfl (by decide) (fun r _ H locs hq hP hD hS => ?_)
      have hP : va_P (eD E) vwCl [(x, .inr (3, fx)), (tp, .inr (1, [.ref qb, .int (nI L), .int it1_, .int pc1, .int bh1, .int so1, .int va1])), (qb, .inl (eI E, 120, .inl by1)), (qf, .inl (eI E, 7, .inl (fn fd 1)))] H := hP.sub [2, 0, 1, 3] rfl
      have hD : va_D A [(x, .inr (3, fx)), (tp, .inr (1, [.ref qb, .int (nI L), .int it1_, .int pc1, .int bh1, .int so1, .int va1])), (qb, .inl (eI E, 120, .inl by1)), (qf, .inl (eI E, 7, .inl (fn fd 1)))] := hD.sub [2, 0, 1, 3] (by decide) rfl
      subst hq
      exact g_reti F hr hlk (vp_nar_int _) hS hP hD ((L, by1, fn fd 1)) (rfl) (by unfold sp_feed; (try simp only [k1, and_self, true_and, and_true, if_true, Bool.false_eq_true, false_and, and_false, if_false]); all_goals simp [fn, k1, k2]) dX3_feed_36
  · refine lv_aload_n F.1 F.2.1 dX3_feed_9 rfl (lv_at hl 0 rfl) ?_
    refine lv_ldc (v := (-1000000001)) F.1 F.2.1 F.2.2.2.1 (F.2.2.2.2 _ (mm 1 rfl)) dX3_feed_10 ?_
    refine g_goI (wr := [(tp, .inr (1, [.ref qb, .int (nI L), .int it1_, .int pc1, .int bh1, .int so1, .int va1])), (qb, .inl (eI E, 120, .inl by1))]) (g_runV (As := [.int (-1000000001)]) (rest := []) F hX hP hD hS hA (c_X3_found l E x fx qf fd (-1000000001) 0 (by first | assumption | rfl) (by decide +kernel) (by decide) H.size) (cwV 1 F.2.2.2.2 gX3_feed_X3_found rfl rfl rfl (by decide +kernel) ⟨Nat.le_of_ble_eq_true rfl, Nat.le_of_ble_eq_true rfl⟩) [0, 3] rfl rfl (q0 := 0) (ci := 3) rfl rfl rfl hl.1 rfl (Nat.le_of_ble_eq_true rfl) dX3_feed_12 ⟨Nat.le_refl _, Nat.le_refl _⟩) hP hD hS hA [0, 3] [1, 2] rfl rfl rfl (by decide) (fun r _ H locs hq hP hD hS => ?_)
    have hP : va_P (eD E) vwCl [(x, .inr (3, fx)), (tp, .inr (1, [.ref qb, .int (nI L), .int it1_, .int pc1, .int bh1, .int so1, .int va1])), (qb, .inl (eI E, 120, .inl by1)), (qf, .inl (eI E, 7, .inl (fn fd 0)))] H := hP.sub [2, 0, 1, 3] rfl
    have hD : va_D A [(x, .inr (3, fx)), (tp, .inr (1, [.ref qb, .int (nI L), .int it1_, .int pc1, .int bh1, .int so1, .int va1])), (qb, .inl (eI E, 120, .inl by1)), (qf, .inl (eI E, 7, .inl (fn fd 0)))] := hD.sub [2, 0, 1, 3] (by decide) rfl
    subst hq
    exact g_reti F hr hlk (vp_nar_int _) hS hP hD ((L, by1, fn fd 0)) (rfl) (by unfold sp_feed; (try simp only [k1, and_self, true_and, and_true, if_true, Bool.false_eq_true, false_and, and_false, if_false]); all_goals simp [fn, k1]) dX3_feed_15
