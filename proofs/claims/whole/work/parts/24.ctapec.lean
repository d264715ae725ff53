set_option maxHeartbeats 4000000 in
set_option maxRecDepth 100000 in
theorem c_X1_isNumber (l : Launch) (E : gE) (tp : Nat) (qb : Nat) (L : Nat) (it1_ : Int32) (va1 : Int32) (by1 : Nat → Int32) (p : Nat) (a : Int32) (b : Int32) (hb9 : b.toInt ≤ 99) : gI l yX1_isNumber wsX1_isNumber ({ frames := 1, cells := 0, slots := 0, locals := 22 }) E [(tp, .inr (1, [.ref qb, .int (nI L), .int it1_, .int (nI p), .int (nI (tq by1 L p)), .int (ts by1 L p), .int (vn by1 L p va1)])), (qb, .inl (eI E, 120, .inl by1))] (fun _ : Unit => [(tp, .inr (1, [.ref qb, .int (nI L), .int it1_, .int (nI p), .int (nI (tq by1 L p)), .int (ts by1 L p), .int (vn by1 L p va1)])), (qb, .inl (eI E, 120, .inl by1))]) [.ref tp, .int a, .int b] (fun (r : Int32) (_ : Unit) => r = bi (nm by1 L p a b)) := by
  have hin1 : ∀ w ∈ wsX10, w ∈ wsX1_isNumber := (fun _ h => (List.mem_cons_of_mem _ (List.mem_append_right _ h)))
  refine gI.of (cc := cX1_isNumber) (maxL := 3) (by decide) rfl (Nat.le_of_ble_eq_true rfl) ?_
  intro pG eG sG mG below meth cG A ls H locs F hr hlk hX hP hD hA hS hl
  have hl : lv_has ls 3 [(0, .ref tp), (1, .int a), (2, .int b)] := hl
  refine lv_aload_n F.1 F.2.1 dX1_isNumber_0 rfl (lv_at hl 0 rfl) ?_
  refine g_get F hX hP hin1 0 rfl rfl 5 (by decide) (mm 1 rfl) rfl dX1_isNumber_1 ?_
  refine lv_iconst (v := 1) F.1 F.2.1 dX1_isNumber_4 (by decide) ?_
  refine lv_icmp_ne (tgt := 24) F.1 F.2.1 dX1_isNumber_5 (by decide) (fun k1 => ?_) (fun k1 => ?_)
  · refine lv_iconst (v := 0) F.1 F.2.1 dX1_isNumber_24 (by decide) ?_
    exact g_reti F hr hlk rfl hS hP hD (()) (rfl) (by rw [← num_eq (v := va1) hb9]; first | (rw [decide_eq_false k1]; rfl) | (rw [decide_eq_true k1, k1]; rfl)) dX1_isNumber_25
  · refine lv_aload_n F.1 F.2.1 dX1_isNumber_8 rfl (lv_at hl 0 rfl) ?_
    refine g_get F hX hP hin1 0 rfl rfl 6 (by decide) (mm 2 rfl) rfl dX1_isNumber_9 ?_
    refine lv_iload_n F.1 F.2.1 dX1_isNumber_12 rfl (lv_at hl 1 rfl) ?_
    refine lv_iload_n F.1 F.2.1 dX1_isNumber_13 rfl (lv_at hl 2 rfl) ?_
    refine g_goIr (g_runSN (As := [.int (vn by1 L p va1), .int a, .int b]) (rest := []) F hX hP hD hS hA (c_X3_isWithin l E (vn by1 L p va1) a b H.size) ⟨va_cnB 3 F.2.2.2.2 gX1_isNumber_X3_isWithin_n112 rfl rfl rfl hX.2.1.1 (F.2.2.2.2 _ (mm 4 rfl)) (by decide +kernel) ⟨Nat.le_of_ble_eq_true rfl, Nat.le_of_ble_eq_true rfl⟩, F.2.2.2.2 _ (mm 3 rfl), trivial⟩ [] rfl rfl rfl hl.1 rfl (Nat.le_of_ble_eq_true rfl) dX1_isNumber_14 ⟨Nat.le_refl _, Nat.le_refl _⟩) hP hD hS hA [] rfl (fun r _ H locs hq hP hS => ?_)
    subst hq
    refine g_beq (tgt := 24) F dX1_isNumber_17 (by decide) (fun k2 => ?_) (fun k2 => ?_)
    · refine lv_iconst (v := 0) F.1 F.2.1 dX1_isNumber_24 (by decide) ?_
      exact g_reti F hr hlk rfl hS hP hD (()) (rfl) (by rw [← num_eq (v := va1) hb9]; first | (rw [decide_eq_false k2]; rfl) | (rw [decide_eq_true k1, k2]; rfl)) dX1_isNumber_25
    · refine lv_iconst (v := 1) F.1 F.2.1 dX1_isNumber_20 (by decide) ?_
      refine lv_goto (tgt := 25) F.1 F.2.1 dX1_isNumber_21 (by decide) ?_
      exact g_reti F hr hlk rfl hS hP hD (()) (rfl) (by rw [← num_eq (v := va1) hb9]; first | (rw [decide_eq_false k2]; rfl) | (rw [decide_eq_true k1, k2]; rfl)) dX1_isNumber_25
theorem isw_b {by1 : Nat → Int32} {L p k : Nat} (hk : k < 11) (h : ts by1 L p = 0) (h2 : ¬ tq by1 L p - p = sLen.getD k 0) : decide (tm by1 L p = nI k) = false := by
  rw [tm_word hk h]; unfold mtc; rw [decide_eq_false h2]; rfl
theorem isw_c {by1 : Nat → Int32} {L p k : Nat} (hk : k < 11) (h : ts by1 L p = 0) (h2 : tq by1 L p - p = sLen.getD k 0) : decide (tm by1 L p = nI k) = (fs1 (fun i => !decide (by1 (p + i) = wch k i)) (sLen.getD k 0) 0).isNone := by
  rw [tm_word hk h]; unfold mtc; rw [decide_eq_true h2, h2]; rfl
set_option maxHeartbeats 4000000 in
set_option maxRecDepth 100000 in
theorem c_X1_isWord (l : Launch) (E : gE) (tp : Nat) (qb : Nat) (L : Nat) (it1_ : Int32) (va1 : Int32) (by1 : Nat → Int32) (p : Nat) (k : Nat) (hL : L ≤ 120) (hpL : p ≤ L) (hk : k < 11) : gI l yX1_isWord wsX1_isWord ({ frames := 4, cells := 0, slots := 0, locals := 85 }) E [(tp, .inr (1, [.ref qb, .int (nI L), .int it1_, .int (nI p), .int (nI (tq by1 L p)), .int (ts by1 L p), .int va1])), (qb, .inl (eI E, 120, .inl by1))] (fun _ : Unit => [(tp, .inr (1, [.ref qb, .int (nI L), .int it1_, .int (nI p), .int (nI (tq by1 L p)), .int (ts by1 L p), .int va1])), (qb, .inl (eI E, 120, .inl by1))]) [.ref tp, .ref (eK E k)] (fun (r : Int32) (_ : Unit) => r = bi (decide (tm by1 L p = nI k))) := by
  have h6 := sLen_6 k hk
  have htq := tq_rng (by1 := by1) hpL
  have hin1 : ∀ w ∈ wsX10, w ∈ wsX1_isWord := (fun _ h => (List.mem_cons_of_mem _ (List.mem_append_right _ h)))
  refine gI.of (cc := cX1_isWord) (maxL := 3) (by decide) rfl (Nat.le_of_ble_eq_true rfl) ?_
  intro pG eG sG mG below meth cG A ls H locs F hr hlk hX hP hD hA hS hl
  have hl : lv_has ls 3 [(0, .ref tp), (1, .ref (eK E k))] := hl
  refine lv_aload_n F.1 F.2.1 dX1_isWord_0 rfl (lv_at hl 0 rfl) ?_
  refine g_get F hX hP hin1 0 rfl rfl 5 (by decide) (mm 1 rfl) rfl dX1_isWord_1 ?_
  refine lv_if_ne (tgt := 23) F.1 F.2.1 dX1_isWord_4 (by decide) (fun k1 => ?_) (fun k1 => ?_)
  · refine lv_iconst (v := 0) F.1 F.2.1 dX1_isWord_23 (by decide) ?_
    exact g_reti F hr hlk rfl hS hP hD (()) (rfl) (by first | (rw [tm_nw hk k1]; rfl) | (rw [isw_b hk k1 (fun q => k1 (congrArg nI q))]; rfl)) dX1_isWord_24
  · refine lv_aload_n F.1 F.2.1 dX1_isWord_7 rfl (lv_at hl 0 rfl) ?_
    refine g_get F hX hP hin1 0 rfl rfl 4 (by decide) (mm 2 rfl) rfl dX1_isWord_8 ?_
    refine lv_aload_n F.1 F.2.1 dX1_isWord_11 rfl (lv_at hl 0 rfl) ?_
    refine g_get F hX hP hin1 0 rfl rfl 3 (by decide) (mm 3 rfl) rfl dX1_isWord_12 ?_
    refine lv_isub F.1 F.2.1 dX1_isWord_15 ?_
    refine g_top (nI (tq by1 L p - p)) (nI_subN htq.1 (by omega)) ?_
    refine lv_aload_n F.1 F.2.1 dX1_isWord_16 rfl (lv_at hl 1 rfl) ?_
    refine g_goIr (g_runVK (As := []) (rest := [.int (nI (tq by1 L p - p))]) F hX hP hD hS hA (c_J0_length_8abf5 l E k (by first | assumption | decide) H.size) (cwV 0 F.2.2.2.2 gX1_isWord_J0_length_8abf5 rfl rfl rfl (by decide +kernel) ⟨Nat.le_of_ble_eq_true rfl, Nat.le_of_ble_eq_true rfl⟩) [] rfl rfl hk rfl hl.1 rfl (Nat.le_of_ble_eq_true rfl) dX1_isWord_17 ⟨Nat.le_refl _, Nat.le_refl _⟩) hP hD hS hA [] rfl (fun r _ H locs hq hP hS => ?_)
    subst hq
    refine lv_icmp_eq (tgt := 25) F.1 F.2.1 dX1_isWord_20 (by decide) (fun k2 => ?_) (fun k2 => ?_)
    · have hln := (nI_eq (by omega) (by omega)).mp k2
      refine lv_iconst (v := 0) F.1 F.2.1 dX1_isWord_25 (by decide) ?_
      refine lv_istore_n (lv' := [(2, .int 0), (0, .ref tp), (1, .ref (eK E k))]) F.1 F.2.1 dX1_isWord_26 rfl hl (by decide) rfl (fun ls hl => ?_)
      have lp27 : ∀ (fu i : Nat), i ≤ (sLen.getD k 0) → (sLen.getD k 0) + 1 ≤ i + fu → fs1 (fun i => !decide (by1 (p + i) = wch k i)) (sLen.getD k 0) 0 = fs1 (fun i => !decide (by1 (p + i) = wch k i)) (sLen.getD k 0 - i) i → ∀ (H : Heap) (locs : List Loc) (ls : Array Slot), va_P (eD E) vwCl [(tp, .inr (1, [.ref qb, .int (nI L), .int it1_, .int (nI p), .int (nI (tq by1 L p)), .int (ts by1 L p), .int va1])), (qb, .inl (eI E, 120, .inl by1))] H → va_D A [(tp, .inr (1, [.ref qb, .int (nI L), .int it1_, .int (nI p), .int (nI (tq by1 L p)), .int (ts by1 L p), .int va1])), (qb, .inl (eI E, 120, .inl by1))] → va_S A sG.heap H locs → lv_has ls 3 [(2, .int (nI i)), (0, .ref tp), (1, .ref (eK E k))] → W pG l eG { frames := 4, cells := 0, slots := 0, locals := 85 } sG mG [.ref tp, .ref (eK E k)].toArray below meth cG H locs 0 0 (MQ below (va_Qi (fun (r : Int32) (_ : Unit) => r = bi (decide (tm by1 L p = nI k))) (gR E (fun _ : Unit => [(tp, .inr (1, [.ref qb, .int (nI L), .int it1_, .int (nI p), .int (nI (tq by1 L p)), .int (ts by1 L p), .int va1])), (qb, .inl (eI E, 120, .inl by1))]) A) A) [.ref tp, .ref (eK E k)].toArray sG 0 0 A) (F0 mG 27 ls []) := by
        intro fu
        induction fu with
        | zero => intro i h1 h2; exact absurd h2 (by omega)
        | succ fu ih =>
          intro i hi hin  hsr H locs ls hP hD hS hl
          refine lv_iload_n F.1 F.2.1 dX1_isWord_27 rfl (lv_at hl 0 rfl) ?_
          refine lv_aload_n F.1 F.2.1 dX1_isWord_28 rfl (lv_at hl 2 rfl) ?_
          refine g_goIr (g_runVK (As := []) (rest := [.int (nI i)]) F hX hP hD hS hA (c_J0_length_8abf5 l E k (by first | assumption | decide) H.size) (cwV 0 F.2.2.2.2 gX1_isWord_J0_length_8abf5 rfl rfl rfl (by decide +kernel) ⟨Nat.le_of_ble_eq_true rfl, Nat.le_of_ble_eq_true rfl⟩) [] rfl rfl hk rfl hl.1 rfl (Nat.le_of_ble_eq_true rfl) dX1_isWord_29 ⟨Nat.le_refl _, Nat.le_refl _⟩) hP hD hS hA [] rfl (fun r _ H locs hq hP hS => ?_)
          subst hq
          refine lv_icmp_ge (tgt := 66) F.1 F.2.1 dX1_isWord_32 (by decide) (fun k3 => ?_) (fun k3 => ?_)
          · have hiN : (sLen.getD k 0) = i := Nat.le_antisymm ((nI_leI (by omega) (by omega)).mp k3) hi
            subst hiN
            refine lv_iconst (v := 1) F.1 F.2.1 dX1_isWord_66 (by decide) ?_
            exact g_reti F hr hlk rfl hS hP hD (()) (rfl) (by rw [isw_c hk k1 hln, hsr, fs1_end]; rfl) dX1_isWord_67
          · have hiN : i < (sLen.getD k 0) := Nat.lt_of_not_le (fun h => k3 (nI_le h (by omega)))
            refine lv_aload_n F.1 F.2.1 dX1_isWord_35 rfl (lv_at hl 1 rfl) ?_
            refine lv_aload_n F.1 F.2.1 dX1_isWord_36 rfl (lv_at hl 1 rfl) ?_
            refine g_get F hX hP hin1 0 rfl rfl 3 (by decide) (mm 3 rfl) rfl dX1_isWord_37 ?_
            refine lv_iload_n F.1 F.2.1 dX1_isWord_40 rfl (lv_at hl 0 rfl) ?_
            refine lv_iadd F.1 F.2.1 dX1_isWord_41 ?_
            refine g_top (nI (p + i)) (nI_add _ _) ?_
            refine lv_aload_n F.1 F.2.1 dX1_isWord_42 rfl (lv_at hl 2 rfl) ?_
            refine lv_iload_n F.1 F.2.1 dX1_isWord_43 rfl (lv_at hl 0 rfl) ?_
            refine g_goIr (g_runVK (As := [.int (nI i)]) (rest := [.int (nI (p + i)), .ref tp]) F hX hP hD hS hA (c_J0_charAt_5068e l E k i (hk) (by first | assumption | omega) H.size) (cwV 1 F.2.2.2.2 gX1_isWord_J0_charAt_5068e rfl rfl rfl (by decide +kernel) ⟨Nat.le_of_ble_eq_true rfl, Nat.le_of_ble_eq_true rfl⟩) [] rfl rfl hk rfl hl.1 rfl (Nat.le_of_ble_eq_true rfl) dX1_isWord_44 ⟨Nat.le_refl _, Nat.le_refl _⟩) hP hD hS hA [] rfl (fun r _ H locs hq hP hS => ?_)
            subst hq
            refine g_top (wch k i) (wch_255 k hk i (by omega)) ?_
            refine lv_aload_n F.1 F.2.1 dX1_isWord_47 rfl (lv_at hl 2 rfl) ?_
            refine lv_iload_n F.1 F.2.1 dX1_isWord_48 rfl (lv_at hl 0 rfl) ?_
            refine g_goIr (g_runVK (As := [.int (nI i)]) (rest := [.int (wch k i), .int (nI (p + i)), .ref tp]) F hX hP hD hS hA (c_J0_charAt_5068e l E k i (hk) (by first | assumption | omega) H.size) (cwV 1 F.2.2.2.2 gX1_isWord_J0_charAt_5068e rfl rfl rfl (by decide +kernel) ⟨Nat.le_of_ble_eq_true rfl, Nat.le_of_ble_eq_true rfl⟩) [] rfl rfl hk rfl hl.1 rfl (Nat.le_of_ble_eq_true rfl) dX1_isWord_49 ⟨Nat.le_refl _, Nat.le_refl _⟩) hP hD hS hA [] rfl (fun r _ H locs hq hP hS => ?_)
            subst hq
            refine g_top (wch k i) (wch_255 k hk i (by omega)) ?_
            refine g_goIr (g_runV (As := [.int (nI (p + i)), .int (wch k i), .int (wch k i)]) (rest := []) F hX hP hD hS hA (c_X1_isByte l E tp qb L it1_ (nI p) (nI (tq by1 L p)) (ts by1 L p) va1 by1 (p + i) (wch k i) (wch k i) (by first | assumption | omega) (by first | assumption | omega) H.size) (cwV 3 F.2.2.2.2 gX1_isWord_X1_isByte rfl rfl rfl (by decide +kernel) ⟨Nat.le_of_ble_eq_true rfl, Nat.le_of_ble_eq_true rfl⟩) [0, 1] rfl rfl (q0 := 0) (ci := 1) rfl rfl rfl hl.1 rfl (Nat.le_of_ble_eq_true rfl) dX1_isWord_52 ⟨Nat.le_refl _, Nat.le_refl _⟩) hP hD hS hA [0, 1] rfl (fun r _ H locs hq hP hS => ?_)
            subst hq
            refine g_top (bi (decide (by1 (p + i) = wch k i))) (congrArg bi (inB_cc (by omega))) ?_
            refine g_bne (tgt := 60) F dX1_isWord_55 (by decide) (fun k4 => ?_) (fun k4 => ?_)
            · refine lv_iinc (v := nI (i + 1)) (lv' := [(2, .int (nI (i + 1))), (0, .ref tp), (1, .ref (eK E k))]) F.1 F.2.1 dX1_isWord_60 hl (k := 0) rfl (nI_1 _) (by decide) rfl (fun ls hl => ?_)
              refine lv_goto (tgt := 27) F.1 F.2.1 dX1_isWord_63 (by decide) ?_
              exact ih (i + 1) (by omega) (by omega)  (hsr.trans (fs1_no (p := (fun i => !decide (by1 (p + i) = wch k i))) (by show (!decide _) = false; rw [k4]; rfl) hiN)) _ _ _ hP hD hS (lv_sub hl [0, 1, 2] rfl)
            · refine lv_iconst (v := 0) F.1 F.2.1 dX1_isWord_58 (by decide) ?_
              exact g_reti F hr hlk rfl hS hP hD (()) (rfl) (by rw [isw_c hk k1 hln, hsr, fs1_yes (p := (fun i => !decide (by1 (p + i) = wch k i))) (by show (!decide _) = true; rw [k4]; rfl) (by omega)]; rfl) dX1_isWord_59
      exact lp27 ((sLen.getD k 0) + 1) 0 (by omega) (by omega)  (rfl) _ _ _ hP hD hS (lv_sub hl [0, 1, 2] rfl)
    · refine lv_iconst (v := 0) F.1 F.2.1 dX1_isWord_23 (by decide) ?_
      exact g_reti F hr hlk rfl hS hP hD (()) (rfl) (by first | (rw [tm_nw hk k2]; rfl) | (rw [isw_b hk k1 (fun q => k2 (congrArg nI q))]; rfl)) dX1_isWord_24
