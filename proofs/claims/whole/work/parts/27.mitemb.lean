set_option maxHeartbeats 4000000 in
set_option maxRecDepth 100000 in
theorem c_X4_passes (l : Launch) (E : gE) (h : Nat) (qm : Nat) (qk : Nat) (qw : Nat) (kp : Bool) (qf : Nat) (qt : Nat) (L : Nat) (qbi : Nat) (qsi : Nat) (qce : Nat) (by1 : Nat → Int32) (p : Nat) (bd : Bool) (w : Int32) (hL : L ≤ 120) (hpL : p ≤ L) : gI l yX4_passes wsX4_passes ({ frames := 3, cells := 0, slots := 0, locals := 66 }) E [(h, .inr (4, [.ref qm, .ref qk, .ref qw, .int (bi kp), .ref qf, .ref qt, .int (nI L), .int (tm by1 L p), .int (nI p), .int (nI (tq by1 L p)), .int (vm by1 L p), .int (bi bd), .ref qbi, .ref qsi, .ref qce])), (qt, .inl (eI E, 120, .inl by1))] (fun _ : Unit => [(h, .inr (4, [.ref qm, .ref qk, .ref qw, .int (bi kp), .ref qf, .ref qt, .int (nI L), .int (tm by1 L (ps by1 L p bd w)), .int (nI (ps by1 L p bd w)), .int (nI (tq by1 L (ps by1 L p bd w))), .int (vm by1 L (ps by1 L p bd w)), .int (bi bd), .ref qbi, .ref qsi, .ref qce])), (qt, .inl (eI E, 120, .inl by1))]) [.ref h, .int w] (fun (r : Int32) (_ : Unit) => r = bi (!bd && decide (tm by1 L p = w))) := by
  have hin4 : ∀ w ∈ wsX40, w ∈ wsX4_passes := (fun _ h => (List.mem_cons_of_mem _ (List.mem_append_right _ h)))
  refine gI.of (cc := cX4_passes) (maxL := 2) (by decide) rfl (Nat.le_of_ble_eq_true rfl) ?_
  intro pG eG sG mG below meth cG A ls H locs F hr hlk hX hP hD hA hS hl
  have hl : lv_has ls 2 [(0, .ref h), (1, .int w)] := hl
  refine lv_aload_n F.1 F.2.1 dX4_passes_0 rfl (lv_at hl 0 rfl) ?_
  refine g_get F hX hP hin4 0 rfl rfl 11 (by decide) (mm 1 rfl) rfl dX4_passes_1 ?_
  refine g_bne (tgt := 15) F dX4_passes_4 (by decide) (fun k1 => ?_) (fun k1 => ?_)
  · refine lv_iconst (v := 0) F.1 F.2.1 dX4_passes_15 (by decide) ?_
    have H : (!bd && decide (tm by1 L p = w)) = false := by first | (rw [k1]; rfl) | (rw [k1, decide_eq_false k1]; rfl)
    exact g_reti F hr hlk rfl hS hP hD (()) (by rw [ps_f H]) (by rw [H]; rfl) dX4_passes_16
  · refine lv_aload_n F.1 F.2.1 dX4_passes_7 rfl (lv_at hl 0 rfl) ?_
    refine g_get F hX hP hin4 0 rfl rfl 7 (by decide) (mm 2 rfl) rfl dX4_passes_8 ?_
    refine lv_iload_n F.1 F.2.1 dX4_passes_11 rfl (lv_at hl 1 rfl) ?_
    refine lv_icmp_eq (tgt := 17) F.1 F.2.1 dX4_passes_12 (by decide) (fun k2 => ?_) (fun k2 => ?_)
    · refine lv_aload_n F.1 F.2.1 dX4_passes_17 rfl (lv_at hl 0 rfl) ?_
      refine g_goV (wr := []) (g_runV (As := []) (rest := []) F hX hP hD hS hA (c_X4_reads_t l E h qm qk qw kp qf qt L qbi qsi qce by1 p bd (by first | assumption | omega) (by first | assumption | omega) H.size) (cwV 0 F.2.2.2.2 gX4_passes_X4_reads rfl rfl rfl (by decide +kernel) ⟨Nat.le_of_ble_eq_true rfl, Nat.le_of_ble_eq_true rfl⟩) [0, 1] rfl rfl (q0 := 0) (ci := 4) rfl rfl rfl hl.1 rfl (Nat.le_of_ble_eq_true rfl) dX4_passes_18 ⟨Nat.le_refl _, Nat.le_refl _⟩) hP hD hS hA [0, 1] [] rfl rfl rfl (by decide) (fun _ H locs hq hP hD hS => ?_)
      have hP : va_P (eD E) vwCl [(h, .inr (4, [.ref qm, .ref qk, .ref qw, .int (bi kp), .ref qf, .ref qt, .int (nI L), .int (tm by1 L (nxt by1 L p)), .int (nI (nxt by1 L p)), .int (nI (tq by1 L (nxt by1 L p))), .int (vm by1 L (nxt by1 L p)), .int (bi bd), .ref qbi, .ref qsi, .ref qce])), (qt, .inl (eI E, 120, .inl by1))] H := hP.sub [0, 1] rfl
      have hD : va_D A [(h, .inr (4, [.ref qm, .ref qk, .ref qw, .int (bi kp), .ref qf, .ref qt, .int (nI L), .int (tm by1 L (nxt by1 L p)), .int (nI (nxt by1 L p)), .int (nI (tq by1 L (nxt by1 L p))), .int (vm by1 L (nxt by1 L p)), .int (bi bd), .ref qbi, .ref qsi, .ref qce])), (qt, .inl (eI E, 120, .inl by1))] := hD.sub [0, 1] (by decide) rfl
      refine lv_iconst (v := 1) F.1 F.2.1 dX4_passes_21 (by decide) ?_
      have H : (!bd && decide (tm by1 L p = w)) = true := by rw [k1, decide_eq_true k2]; rfl
      exact g_reti F hr hlk rfl hS hP hD (()) (by rw [ps_t H]) (by rw [H]; rfl) dX4_passes_22
    · refine lv_iconst (v := 0) F.1 F.2.1 dX4_passes_15 (by decide) ?_
      have H : (!bd && decide (tm by1 L p = w)) = false := by first | (rw [k2]; rfl) | (rw [k1, decide_eq_false k2]; rfl)
      exact g_reti F hr hlk rfl hS hP hD (()) (by rw [ps_f H]) (by rw [H]; rfl) dX4_passes_16
set_option maxHeartbeats 4000000 in
set_option maxRecDepth 100000 in
theorem c_X4_number (l : Launch) (E : gE) (h : Nat) (qm : Nat) (qk : Nat) (qw : Nat) (kp : Bool) (qf : Nat) (qt : Nat) (L : Nat) (qbi : Nat) (qsi : Nat) (qce : Nat) (by1 : Nat → Int32) (p : Nat) (bd : Bool) (a : Int32) (b : Int32) (hL : L ≤ 120) (hpL : p ≤ L) : gI l yX4_number wsX4_number ({ frames := 3, cells := 0, slots := 0, locals := 66 }) E [(h, .inr (4, [.ref qm, .ref qk, .ref qw, .int (bi kp), .ref qf, .ref qt, .int (nI L), .int (tm by1 L p), .int (nI p), .int (nI (tq by1 L p)), .int (vm by1 L p), .int (bi bd), .ref qbi, .ref qsi, .ref qce])), (qt, .inl (eI E, 120, .inl by1))] (fun _ : Unit => [(h, .inr (4, [.ref qm, .ref qk, .ref qw, .int (bi kp), .ref qf, .ref qt, .int (nI L), .int (tm by1 L (pn by1 L p bd a b)), .int (nI (pn by1 L p bd a b)), .int (nI (tq by1 L (pn by1 L p bd a b))), .int (vm by1 L (pn by1 L p bd a b)), .int (bi (nmB by1 L p bd a b)), .ref qbi, .ref qsi, .ref qce])), (qt, .inl (eI E, 120, .inl by1))]) [.ref h, .int a, .int b] (fun (r : Int32) (_ : Unit) => r = vm by1 L p) := by
  have hin4 : ∀ w ∈ wsX40, w ∈ wsX4_number := (fun _ h => (List.mem_cons_of_mem _ (List.mem_append_right _ h)))
  refine gI.of (cc := cX4_number) (maxL := 4) (by decide) rfl (Nat.le_of_ble_eq_true rfl) ?_
  intro pG eG sG mG below meth cG A ls H locs F hr hlk hX hP hD hA hS hl
  have hl : lv_has ls 4 [(0, .ref h), (1, .int a), (2, .int b)] := hl
  refine lv_aload_n F.1 F.2.1 dX4_number_0 rfl (lv_at hl 0 rfl) ?_
  refine g_get F hX hP hin4 0 rfl rfl 10 (by decide) (mm 1 rfl) rfl dX4_number_1 ?_
  refine lv_istore_n (lv' := [(3, .int (vm by1 L p)), (0, .ref h), (1, .int a), (2, .int b)]) F.1 F.2.1 dX4_number_4 rfl hl (by decide) rfl (fun ls hl => ?_)
  refine lv_aload_n F.1 F.2.1 dX4_number_5 rfl (lv_at hl 1 rfl) ?_
  refine lv_aload_n F.1 F.2.1 dX4_number_6 rfl (lv_at hl 1 rfl) ?_
  refine g_get F hX hP hin4 0 rfl rfl 11 (by decide) (mm 2 rfl) rfl dX4_number_7 ?_
  have jn37 : ∀ (H : Heap) (locs : List Loc) (ls : Array Slot), va_P (eD E) vwCl [(h, .inr (4, [.ref qm, .ref qk, .ref qw, .int (bi kp), .ref qf, .ref qt, .int (nI L), .int (tm by1 L p), .int (nI p), .int (nI (tq by1 L p)), .int (vm by1 L p), .int (bi bd), .ref qbi, .ref qsi, .ref qce])), (qt, .inl (eI E, 120, .inl by1))] H → va_D A [(h, .inr (4, [.ref qm, .ref qk, .ref qw, .int (bi kp), .ref qf, .ref qt, .int (nI L), .int (tm by1 L p), .int (nI p), .int (nI (tq by1 L p)), .int (vm by1 L p), .int (bi bd), .ref qbi, .ref qsi, .ref qce])), (qt, .inl (eI E, 120, .inl by1))] → va_S A sG.heap H locs → lv_has ls 4 [(3, .int (vm by1 L p)), (0, .ref h), (1, .int a), (2, .int b)] → W pG l eG { frames := 3, cells := 0, slots := 0, locals := 66 } sG mG [.ref h, .int a, .int b].toArray below meth cG H locs 0 0 (MQ below (va_Qi (fun (r : Int32) (_ : Unit) => r = vm by1 L p) (gR E (fun _ : Unit => [(h, .inr (4, [.ref qm, .ref qk, .ref qw, .int (bi kp), .ref qf, .ref qt, .int (nI L), .int (tm by1 L (pn by1 L p bd a b)), .int (nI (pn by1 L p bd a b)), .int (nI (tq by1 L (pn by1 L p bd a b))), .int (vm by1 L (pn by1 L p bd a b)), .int (bi (nmB by1 L p bd a b)), .ref qbi, .ref qsi, .ref qce])), (qt, .inl (eI E, 120, .inl by1))]) A) A) [.ref h, .int a, .int b].toArray sG 0 0 A) (F0 mG 37 ls [.int (bi (nmB by1 L p bd a b)), .ref h]) := by
    intro H locs ls hP hD hS hl
    refine g_put F hX hP hD hS hin4 tyX4 tyX4_ok nmX4 0 rfl rfl 11 (by decide) (mm 2 rfl) rfl (bi_nar _) (bi_fit _) (Nat.le_of_ble_eq_true rfl) dX4_number_37 (fun H locs hP hD hS => ?_)
    have hP : va_P (eD E) vwCl [(h, .inr (4, [.ref qm, .ref qk, .ref qw, .int (bi kp), .ref qf, .ref qt, .int (nI L), .int (tm by1 L p), .int (nI p), .int (nI (tq by1 L p)), .int (vm by1 L p), .int (bi (nmB by1 L p bd a b)), .ref qbi, .ref qsi, .ref qce])), (qt, .inl (eI E, 120, .inl by1))] H := hP
    have hD : va_D A [(h, .inr (4, [.ref qm, .ref qk, .ref qw, .int (bi kp), .ref qf, .ref qt, .int (nI L), .int (tm by1 L p), .int (nI p), .int (nI (tq by1 L p)), .int (vm by1 L p), .int (bi (nmB by1 L p bd a b)), .ref qbi, .ref qsi, .ref qce])), (qt, .inl (eI E, 120, .inl by1))] := hD
    refine lv_aload_n F.1 F.2.1 dX4_number_40 rfl (lv_at hl 1 rfl) ?_
    refine g_get F hX hP hin4 0 rfl rfl 11 (by decide) (mm 2 rfl) rfl dX4_number_41 ?_
    refine g_bne (tgt := 51) F dX4_number_44 (by decide) (fun k1 => ?_) (fun k1 => ?_)
    · refine lv_iload_n F.1 F.2.1 dX4_number_51 rfl (lv_at hl 0 rfl) ?_
      exact g_reti F hr hlk (vp_nar_int _) hS hP hD (()) (by first | (rw [pn_t k1]; (try rfl); done) | (rw [pn_f k1]; (try rfl); done)) (rfl) dX4_number_52
    · refine lv_aload_n F.1 F.2.1 dX4_number_47 rfl (lv_at hl 1 rfl) ?_
      refine g_goV (wr := []) (g_runV (As := []) (rest := []) F hX hP hD hS hA (c_X4_reads_t l E h qm qk qw kp qf qt L qbi qsi qce by1 p (nmB by1 L p bd a b) (by first | assumption | omega) (by first | assumption | omega) H.size) (cwV 0 F.2.2.2.2 gX4_number_X4_reads rfl rfl rfl (by decide +kernel) ⟨Nat.le_of_ble_eq_true rfl, Nat.le_of_ble_eq_true rfl⟩) [0, 1] rfl rfl (q0 := 0) (ci := 4) rfl rfl rfl hl.1 rfl (Nat.le_of_ble_eq_true rfl) dX4_number_48 ⟨Nat.le_refl _, Nat.le_refl _⟩) hP hD hS hA [0, 1] [] rfl rfl rfl (by decide) (fun _ H locs hq hP hD hS => ?_)
      have hP : va_P (eD E) vwCl [(h, .inr (4, [.ref qm, .ref qk, .ref qw, .int (bi kp), .ref qf, .ref qt, .int (nI L), .int (tm by1 L (nxt by1 L p)), .int (nI (nxt by1 L p)), .int (nI (tq by1 L (nxt by1 L p))), .int (vm by1 L (nxt by1 L p)), .int (bi (nmB by1 L p bd a b)), .ref qbi, .ref qsi, .ref qce])), (qt, .inl (eI E, 120, .inl by1))] H := hP.sub [0, 1] rfl
      have hD : va_D A [(h, .inr (4, [.ref qm, .ref qk, .ref qw, .int (bi kp), .ref qf, .ref qt, .int (nI L), .int (tm by1 L (nxt by1 L p)), .int (nI (nxt by1 L p)), .int (nI (tq by1 L (nxt by1 L p))), .int (vm by1 L (nxt by1 L p)), .int (bi (nmB by1 L p bd a b)), .ref qbi, .ref qsi, .ref qce])), (qt, .inl (eI E, 120, .inl by1))] := hD.sub [0, 1] (by decide) rfl
      refine lv_iload_n F.1 F.2.1 dX4_number_51 rfl (lv_at hl 0 rfl) ?_
      exact g_reti F hr hlk (vp_nar_int _) hS hP hD (()) (by first | (rw [pn_t k1]; (try rfl); done) | (rw [pn_f k1]; (try rfl); done)) (rfl) dX4_number_52
  refine g_bne (tgt := 32) F dX4_number_10 (by decide) (fun k2 => ?_) (fun k2 => ?_)
  · refine lv_iconst (v := 1) F.1 F.2.1 dX4_number_32 (by decide) ?_
    refine lv_goto (tgt := 37) F.1 F.2.1 dX4_number_33 (by decide) ?_
    refine g_top (bi (nmB by1 L p bd a b)) (by unfold nmB nm; first | (rw [k2]; rfl) | (rw [k2, decide_eq_false k2]; rfl) | (rw [k2, decide_eq_true k2, k2]; rfl)) ?_
    exact jn37 _ _ _ hP hD hS (lv_sub hl [0, 1, 2, 3] rfl)
  · refine lv_aload_n F.1 F.2.1 dX4_number_13 rfl (lv_at hl 1 rfl) ?_
    refine g_get F hX hP hin4 0 rfl rfl 7 (by decide) (mm 3 rfl) rfl dX4_number_14 ?_
    refine lv_bipush (v := 20) F.1 F.2.1 dX4_number_17 (by decide) ?_
    refine lv_icmp_ne (tgt := 32) F.1 F.2.1 dX4_number_19 (by decide) (fun k3 => ?_) (fun k3 => ?_)
    · refine lv_iconst (v := 1) F.1 F.2.1 dX4_number_32 (by decide) ?_
      refine lv_goto (tgt := 37) F.1 F.2.1 dX4_number_33 (by decide) ?_
      refine g_top (bi (nmB by1 L p bd a b)) (by unfold nmB nm; first | (rw [k3]; rfl) | (rw [k2, decide_eq_false k3]; rfl) | (rw [k2, decide_eq_true k2, k3]; rfl)) ?_
      exact jn37 _ _ _ hP hD hS (lv_sub hl [0, 1, 2, 3] rfl)
    · refine lv_iload_n F.1 F.2.1 dX4_number_22 rfl (lv_at hl 0 rfl) ?_
      refine lv_i2l (v := (vm by1 L p : Int32).toInt64) F.1 F.2.1 dX4_number_23 rfl ?_
      refine lv_iload_n F.1 F.2.1 dX4_number_24 rfl (lv_at hl 2 rfl) ?_
      refine lv_iload_n F.1 F.2.1 dX4_number_25 rfl (lv_at hl 3 rfl) ?_
      refine g_goIr (g_runS (As := [.long ((vm by1 L p : Int32).toInt64), .int a, .int b]) (rest := [.ref h]) F hX hP hD hS hA (c_X4_in_i l E (vm by1 L p) a b H.size) (va_cwS 3 F.2.2.2.2 gX4_number_X4_in rfl rfl rfl (by decide +kernel) ⟨Nat.le_of_ble_eq_true rfl, Nat.le_of_ble_eq_true rfl⟩) [] rfl rfl rfl hl.1 rfl (Nat.le_of_ble_eq_true rfl) dX4_number_26 ⟨Nat.le_refl _, Nat.le_refl _⟩) hP hD hS hA [] rfl (fun r _ H locs hq hP hS => ?_)
      subst hq
      refine g_bne (tgt := 36) F dX4_number_29 (by decide) (fun k4 => ?_) (fun k4 => ?_)
      · refine lv_iconst (v := 0) F.1 F.2.1 dX4_number_36 (by decide) ?_
        refine g_top (bi (nmB by1 L p bd a b)) (by unfold nmB nm; first | (rw [k4]; rfl) | (rw [k3, decide_eq_false k4]; rfl) | (rw [k2, decide_eq_true k3, k4]; rfl)) ?_
        exact jn37 _ _ _ hP hD hS (lv_sub hl [0, 1, 2, 3] rfl)
      · refine lv_iconst (v := 1) F.1 F.2.1 dX4_number_32 (by decide) ?_
        refine lv_goto (tgt := 37) F.1 F.2.1 dX4_number_33 (by decide) ?_
        refine g_top (bi (nmB by1 L p bd a b)) (by unfold nmB nm; first | (rw [k4]; rfl) | (rw [k3, decide_eq_false k4]; rfl) | (rw [k2, decide_eq_true k3, k4]; rfl)) ?_
        exact jn37 _ _ _ hP hD hS (lv_sub hl [0, 1, 2, 3] rfl)
set_option maxHeartbeats 4000000 in
set_option maxRecDepth 100000 in
theorem c_X4_perhaps (l : Launch) (E : gE) (h : Nat) (qm : Nat) (qk : Nat) (qw : Nat) (kp : Bool) (qf : Nat) (qt : Nat) (L : Nat) (qbi : Nat) (qsi : Nat) (qce : Nat) (by1 : Nat → Int32) (p : Nat) (w : Int32) (a : Int32) (b : Int32) (so : Int32) (hL : L ≤ 120) (hpL : p ≤ L) : gI l yX4_perhaps wsX4_perhaps ({ frames := 4, cells := 0, slots := 0, locals := 89 }) E [(h, .inr (4, [.ref qm, .ref qk, .ref qw, .int (bi kp), .ref qf, .ref qt, .int (nI L), .int (tm by1 L p), .int (nI p), .int (nI (tq by1 L p)), .int (vm by1 L p), .int (bi false), .ref qbi, .ref qsi, .ref qce])), (qt, .inl (eI E, 120, .inl by1))] (fun _ : Unit => [(h, .inr (4, [.ref qm, .ref qk, .ref qw, .int (bi kp), .ref qf, .ref qt, .int (nI L), .int (tm by1 L (bif decide (tm by1 L p = w) then pn by1 L (nxt by1 L p) false a b else p)), .int (nI (bif decide (tm by1 L p = w) then pn by1 L (nxt by1 L p) false a b else p)), .int (nI (tq by1 L (bif decide (tm by1 L p = w) then pn by1 L (nxt by1 L p) false a b else p))), .int (vm by1 L (bif decide (tm by1 L p = w) then pn by1 L (nxt by1 L p) false a b else p)), .int (bi (decide (tm by1 L p = w) && nmB by1 L (nxt by1 L p) false a b)), .ref qbi, .ref qsi, .ref qce])), (qt, .inl (eI E, 120, .inl by1))]) [.ref h, .int w, .int a, .int b, .int so] (fun (r : Int32) (_ : Unit) => r = bif decide (tm by1 L p = w) then vm by1 L (nxt by1 L p) else so) := by
  have n1 := nxt_rng (by1 := by1) hpL
  have m1 := n1.2.1
  have n2 := nxt_rng (by1 := by1) m1
  have m2 := n2.2.1
  refine gI.of (cc := cX4_perhaps) (maxL := 5) (by decide) rfl (Nat.le_of_ble_eq_true rfl) ?_
  intro pG eG sG mG below meth cG A ls H locs F hr hlk hX hP hD hA hS hl
  have hl : lv_has ls 5 [(0, .ref h), (1, .int w), (2, .int a), (3, .int b), (4, .int so)] := hl
  refine lv_aload_n F.1 F.2.1 dX4_perhaps_0 rfl (lv_at hl 0 rfl) ?_
  refine lv_iload_n F.1 F.2.1 dX4_perhaps_1 rfl (lv_at hl 1 rfl) ?_
  refine g_goI (wr := []) (g_runV (As := [.int w]) (rest := []) F hX hP hD hS hA (c_X4_passes l E h qm qk qw kp qf qt L qbi qsi qce by1 p false w (by first | assumption | omega) (by first | assumption | omega) H.size) (cwV 1 F.2.2.2.2 gX4_perhaps_X4_passes rfl rfl rfl (by decide +kernel) ⟨Nat.le_of_ble_eq_true rfl, Nat.le_of_ble_eq_true rfl⟩) [0, 1] rfl rfl (q0 := 0) (ci := 4) rfl rfl rfl hl.1 rfl (Nat.le_of_ble_eq_true rfl) dX4_perhaps_2 ⟨Nat.le_refl _, Nat.le_refl _⟩) hP hD hS hA [0, 1] [] rfl rfl rfl (by decide) (fun r _ H locs hq hP hD hS => ?_)
  have hP : va_P (eD E) vwCl [(h, .inr (4, [.ref qm, .ref qk, .ref qw, .int (bi kp), .ref qf, .ref qt, .int (nI L), .int (tm by1 L (ps by1 L p false w)), .int (nI (ps by1 L p false w)), .int (nI (tq by1 L (ps by1 L p false w))), .int (vm by1 L (ps by1 L p false w)), .int (bi false), .ref qbi, .ref qsi, .ref qce])), (qt, .inl (eI E, 120, .inl by1))] H := hP.sub [0, 1] rfl
  have hD : va_D A [(h, .inr (4, [.ref qm, .ref qk, .ref qw, .int (bi kp), .ref qf, .ref qt, .int (nI L), .int (tm by1 L (ps by1 L p false w)), .int (nI (ps by1 L p false w)), .int (nI (tq by1 L (ps by1 L p false w))), .int (vm by1 L (ps by1 L p false w)), .int (bi false), .ref qbi, .ref qsi, .ref qce])), (qt, .inl (eI E, 120, .inl by1))] := hD.sub [0, 1] (by decide) rfl
  subst hq
  refine g_beq (tgt := 17) F dX4_perhaps_5 (by decide) (fun k1 => ?_) (fun k1 => ?_)
  · rw [ps_f k1] at hP hD
    have hP : va_P (eD E) vwCl [(h, .inr (4, [.ref qm, .ref qk, .ref qw, .int (bi kp), .ref qf, .ref qt, .int (nI L), .int (tm by1 L p), .int (nI p), .int (nI (tq by1 L p)), .int (vm by1 L p), .int (bi false), .ref qbi, .ref qsi, .ref qce])), (qt, .inl (eI E, 120, .inl by1))] H := hP
    have hD : va_D A [(h, .inr (4, [.ref qm, .ref qk, .ref qw, .int (bi kp), .ref qf, .ref qt, .int (nI L), .int (tm by1 L p), .int (nI p), .int (nI (tq by1 L p)), .int (vm by1 L p), .int (bi false), .ref qbi, .ref qsi, .ref qce])), (qt, .inl (eI E, 120, .inl by1))] := hD
    refine lv_iload F.1 F.2.1 dX4_perhaps_17 (lv_at hl 4 rfl) ?_
    exact g_reti F hr hlk (vp_nar_int _) hS hP hD (()) (by first | (rw [show decide (tm by1 L p = w) = true from k1]; rfl) | (rw [show decide (tm by1 L p = w) = false from k1]; rfl)) (by first | (rw [show decide (tm by1 L p = w) = true from k1]; rfl) | (rw [show decide (tm by1 L p = w) = false from k1]; rfl)) dX4_perhaps_19
  · rw [ps_t k1] at hP hD
    have hP : va_P (eD E) vwCl [(h, .inr (4, [.ref qm, .ref qk, .ref qw, .int (bi kp), .ref qf, .ref qt, .int (nI L), .int (tm by1 L (nxt by1 L p)), .int (nI (nxt by1 L p)), .int (nI (tq by1 L (nxt by1 L p))), .int (vm by1 L (nxt by1 L p)), .int (bi false), .ref qbi, .ref qsi, .ref qce])), (qt, .inl (eI E, 120, .inl by1))] H := hP
    have hD : va_D A [(h, .inr (4, [.ref qm, .ref qk, .ref qw, .int (bi kp), .ref qf, .ref qt, .int (nI L), .int (tm by1 L (nxt by1 L p)), .int (nI (nxt by1 L p)), .int (nI (tq by1 L (nxt by1 L p))), .int (vm by1 L (nxt by1 L p)), .int (bi false), .ref qbi, .ref qsi, .ref qce])), (qt, .inl (eI E, 120, .inl by1))] := hD
    refine lv_aload_n F.1 F.2.1 dX4_perhaps_8 rfl (lv_at hl 0 rfl) ?_
    refine lv_iload_n F.1 F.2.1 dX4_perhaps_9 rfl (lv_at hl 2 rfl) ?_
    refine lv_iload_n F.1 F.2.1 dX4_perhaps_10 rfl (lv_at hl 3 rfl) ?_
    refine g_goI (wr := []) (g_runV (As := [.int a, .int b]) (rest := []) F hX hP hD hS hA (c_X4_number l E h qm qk qw kp qf qt L qbi qsi qce by1 (nxt by1 L p) false a b (by first | assumption | omega) (by first | assumption | omega) H.size) (cwV 2 F.2.2.2.2 gX4_perhaps_X4_number rfl rfl rfl (by decide +kernel) ⟨Nat.le_of_ble_eq_true rfl, Nat.le_of_ble_eq_true rfl⟩) [0, 1] rfl rfl (q0 := 0) (ci := 4) rfl rfl rfl hl.1 rfl (Nat.le_of_ble_eq_true rfl) dX4_perhaps_11 ⟨Nat.le_refl _, Nat.le_refl _⟩) hP hD hS hA [0, 1] [] rfl rfl rfl (by decide) (fun r _ H locs hq hP hD hS => ?_)
    have hP : va_P (eD E) vwCl [(h, .inr (4, [.ref qm, .ref qk, .ref qw, .int (bi kp), .ref qf, .ref qt, .int (nI L), .int (tm by1 L (pn by1 L (nxt by1 L p) false a b)), .int (nI (pn by1 L (nxt by1 L p) false a b)), .int (nI (tq by1 L (pn by1 L (nxt by1 L p) false a b))), .int (vm by1 L (pn by1 L (nxt by1 L p) false a b)), .int (bi (nmB by1 L (nxt by1 L p) false a b)), .ref qbi, .ref qsi, .ref qce])), (qt, .inl (eI E, 120, .inl by1))] H := hP.sub [0, 1] rfl
    have hD : va_D A [(h, .inr (4, [.ref qm, .ref qk, .ref qw, .int (bi kp), .ref qf, .ref qt, .int (nI L), .int (tm by1 L (pn by1 L (nxt by1 L p) false a b)), .int (nI (pn by1 L (nxt by1 L p) false a b)), .int (nI (tq by1 L (pn by1 L (nxt by1 L p) false a b))), .int (vm by1 L (pn by1 L (nxt by1 L p) false a b)), .int (bi (nmB by1 L (nxt by1 L p) false a b)), .ref qbi, .ref qsi, .ref qce])), (qt, .inl (eI E, 120, .inl by1))] := hD.sub [0, 1] (by decide) rfl
    subst hq
    refine lv_goto (tgt := 19) F.1 F.2.1 dX4_perhaps_14 (by decide) ?_
    exact g_reti F hr hlk (vp_nar_int _) hS hP hD (()) (by first | (rw [show decide (tm by1 L p = w) = true from k1]; rfl) | (rw [show decide (tm by1 L p = w) = false from k1]; rfl)) (by first | (rw [show decide (tm by1 L p = w) = true from k1]; rfl) | (rw [show decide (tm by1 L p = w) = false from k1]; rfl)) dX4_perhaps_19
