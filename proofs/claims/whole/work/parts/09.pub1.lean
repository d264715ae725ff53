/-! the public methods: small ones -/
def ix (x : Int32) : Nat := x.toNatClampNeg
def fn (fd : Nat → Int32) (k : Nat) : Nat → Int32 := upd fd k (fd k + 1)
theorem t_neq (x : Int32) (k : Int) (h : ¬ x = Int32.ofInt k) : ¬ k = x.toInt := fun e => h (by rw [e]; exact (Int32.ofInt_toInt x).symm)
theorem inR_iff {x a b : Int32} : inR x a b = true ↔ a.toInt ≤ x.toInt ∧ x.toInt ≤ b.toInt := by
  unfold inR
  simp only [Bool.and_eq_true, Bool.not_eq_true', decide_eq_false_iff_not, Int32.lt_iff_toInt_lt, Int.not_lt]
theorem nI_ix {x : Int32} (h : 0 ≤ x.toInt) : x = nI (ix x) := by
  have h1 : ¬ x < 0 := by rw [Int32.lt_iff_toInt_lt]; exact Int.not_lt.mpr h
  obtain ⟨j, hj, e⟩ := nI_of h1
  have e2 : ix x = j := by unfold ix; rw [e, nI_clamp hj]
  rw [e2]; exact e
theorem ix_int {x : Int32} (h : 0 ≤ x.toInt) : (ix x : Int) = x.toInt := by
  have h1 : ¬ x < 0 := by rw [Int32.lt_iff_toInt_lt]; exact Int.not_lt.mpr h
  obtain ⟨j, hj, e⟩ := nI_of h1
  have e2 : ix x = j := by unfold ix; rw [e, nI_clamp hj]
  rw [e2, e, nI_toInt hj]
theorem ix_of {x a b : Int32} (n : Nat) (h : inR x a b = true) (ha : 0 ≤ a.toInt) (hb : b.toInt = n) : x = nI (ix x) ∧ ix x ≤ n := by
  have h1 := inR_iff.mp h
  have h0 : 0 ≤ x.toInt := Int.le_trans ha h1.1
  refine ⟨nI_ix h0, ?_⟩
  have := ix_int h0
  omega
theorem ix_person {x : Int32} {P : Nat} (h : inR x 0 (nI P - 1) = true) (hP : P ≤ 8) : x = nI (ix x) ∧ ix x < P := by
  have h1 := inR_iff.mp h
  have e : (nI P - 1).toInt = (P : Int) - 1 := pk_sub_toInt (b := 1) (by omega) (by decide)
  have h0 : 0 ≤ x.toInt := h1.1
  refine ⟨nI_ix h0, ?_⟩
  have := ix_int h0
  rw [e] at h1
  omega
theorem inR_nI {k n : Nat} (h : k ≤ n) (hn : n < 2 ^ 31) : inR (nI k) 0 (nI n) = true := by
  rw [inR_iff, nI_toInt (Nat.lt_of_le_of_lt h hn), nI_toInt hn]
  exact ⟨Int.natCast_nonneg k, Int.ofNat_le.mpr h⟩
def ofK (k a : Int32) : Bool := if k = 4 then (decide (a = 4) || decide (a = 1) || decide (a = 0)) else if k = 5 then (decide (a = 5) || decide (a = 2) || decide (a = 0)) else (decide (a = k) || decide (a = 0))
set_option maxHeartbeats 4000000 in
set_option maxRecDepth 100000 in
theorem c_X3_found (l : Launch) (E : gE) (x : Nat) (fx : List Value) (qf : Nat) (fd : Nat → Int32) (f : Int32) (k : Nat) (hx5 : fx[5]? = some (.ref qf)) (hk : (-1000000001) - f = nI k) (hk7 : k < 7) : gI l yX3_found wsX3_found ({ frames := 1, cells := 0, slots := 0, locals := 22 }) E [(x, .inr (3, fx)), (qf, .inl (eI E, 7, .inl fd))] (fun _ : Unit => [(x, .inr (3, fx)), (qf, .inl (eI E, 7, .inl (fn fd k)))]) [.ref x, .int f] (fun (r : Int32) (_ : Unit) => r = f) := by
  have hin3 : ∀ w ∈ wsX30, w ∈ wsX3_found := (fun _ h => (List.mem_cons_of_mem _ (List.mem_append_right _ h)))
  refine gI.of (cc := cX3_found) (maxL := 3) (by decide) rfl (Nat.le_of_ble_eq_true rfl) ?_
  intro pG eG sG mG below meth cG A ls H locs F hr hlk hX hP hD hA hS hl
  have hl : lv_has ls 3 [(0, .ref x), (1, .int f)] := hl
  refine lv_ldc (v := (-1000000001)) F.1 F.2.1 F.2.2.2.1 (F.2.2.2.2 _ (mm 1 rfl)) dX3_found_0 ?_
  refine lv_iload_n F.1 F.2.1 dX3_found_2 rfl (lv_at hl 1 rfl) ?_
  refine lv_isub F.1 F.2.1 dX3_found_3 ?_
  refine g_top (nI k) (hk) ?_
  refine lv_istore_n (lv' := [(2, .int (nI k)), (0, .ref x), (1, .int f)]) F.1 F.2.1 dX3_found_4 rfl hl (by decide) rfl (fun ls hl => ?_)
  refine lv_iload_n F.1 F.2.1 dX3_found_5 rfl (lv_at hl 0 rfl) ?_
  refine lv_iconst (v := 0) F.1 F.2.1 dX3_found_6 (by decide) ?_
  refine lv_bipush (v := 6) F.1 F.2.1 dX3_found_7 (by decide) ?_
  refine g_goIr (g_runS (As := [.int (nI k), .int 0, .int 6]) (rest := []) F hX hP hD hS hA (c_X3_isWithin l E (nI k) 0 6 H.size) (va_cwS 3 F.2.2.2.2 gX3_found_X3_isWithin rfl rfl rfl (by decide +kernel) ⟨Nat.le_of_ble_eq_true rfl, Nat.le_of_ble_eq_true rfl⟩) [] rfl rfl rfl hl.1 rfl (Nat.le_of_ble_eq_true rfl) dX3_found_9 ⟨Nat.le_refl _, Nat.le_refl _⟩) hP hD hS hA [] rfl (fun r _ H locs hq hP hS => ?_)
  subst hq
  refine g_beq (tgt := 25) F dX3_found_12 (by decide) (fun k1 => ?_) (fun k1 => ?_)
  · exact absurd k1 (fun h => absurd ((inR_nI (k := k) (n := 6) (by omega) (by decide)).symm.trans h) (by decide))
  · refine lv_aload_n F.1 F.2.1 dX3_found_15 rfl (lv_at hl 1 rfl) ?_
    refine g_get F hX hP hin3 0 rfl rfl 5 (by decide) (mm 2 rfl) hx5 dX3_found_16 ?_
    refine lv_iload_n F.1 F.2.1 dX3_found_19 rfl (lv_at hl 0 rfl) ?_
    refine lv_dup2_11 F.1 F.2.1 dX3_found_20 rfl rfl ?_
    refine g_iald F hX hP 1 rfl (j := k) (rfl) (by omega) (by decide) dX3_found_21 ?_
    refine lv_iconst (v := 1) F.1 F.2.1 dX3_found_22 (by decide) ?_
    refine lv_iadd F.1 F.2.1 dX3_found_23 ?_
    refine g_iast F hX hP hD hS 1 rfl (j := k) (rfl) (by omega) (by decide) dX3_found_24 (fun H locs hP hD hS => ?_)
    have hP : va_P (eD E) vwCl [(x, .inr (3, fx)), (qf, .inl (eI E, 7, .inl (upd fd k ((fd k) + 1))))] H := hP
    have hD : va_D A [(x, .inr (3, fx)), (qf, .inl (eI E, 7, .inl (upd fd k ((fd k) + 1))))] := hD
    refine lv_iload_n F.1 F.2.1 dX3_found_25 rfl (lv_at hl 2 rfl) ?_
    exact g_reti F hr hlk (vp_nar_int _) hS hP hD (()) (rfl) (rfl) dX3_found_26
set_option maxHeartbeats 4000000 in
set_option maxRecDepth 100000 in
theorem c_X3_isPerson (l : Launch) (E : gE) (x : Nat) (fx : List Value) (h : Nat) (mi : Int32) (fo : Int32) (wi : Int32) (sp : Int32) (P : Nat) (wa : Int32) (qn : Nat) (qk : Nat) (qp : Nat) (qq : Nat) (qc : Nat) (a1 : Int32) (hx0 : fx[0]? = some (.ref h)) : gI l yX3_isPerson wsX3_isPerson ({ frames := 1, cells := 0, slots := 0, locals := 22 }) E [(x, .inr (3, fx)), (h, .inr (2, [.int mi, .int fo, .int wi, .int sp, .ref qn, .int (nI P), .ref qk, .ref qp, .ref qq, .ref qc, .int wa]))] (fun _ : Unit => [(x, .inr (3, fx)), (h, .inr (2, [.int mi, .int fo, .int wi, .int sp, .ref qn, .int (nI P), .ref qk, .ref qp, .ref qq, .ref qc, .int wa]))]) [.ref x, .int a1] (fun (r : Int32) (_ : Unit) => r = bi (inR a1 0 (nI P - 1))) := by
  have hin2 : ∀ w ∈ wsX20, w ∈ wsX3_isPerson := (fun _ h => (List.mem_cons_of_mem _ (List.mem_append_right _ h)))
  have hin3 : ∀ w ∈ wsX30, w ∈ wsX3_isPerson := (fun _ h => (List.mem_cons_of_mem _ (List.mem_append_left _ (List.mem_append_right _ h))))
  refine gI.of (cc := cX3_isPerson) (maxL := 2) (by decide) rfl (Nat.le_of_ble_eq_true rfl) ?_
  intro pG eG sG mG below meth cG A ls H locs F hr hlk hX hP hD hA hS hl
  have hl : lv_has ls 2 [(0, .ref x), (1, .int a1)] := hl
  refine lv_iload_n F.1 F.2.1 dX3_isPerson_0 rfl (lv_at hl 1 rfl) ?_
  refine lv_iconst (v := 0) F.1 F.2.1 dX3_isPerson_1 (by decide) ?_
  refine lv_aload_n F.1 F.2.1 dX3_isPerson_2 rfl (lv_at hl 0 rfl) ?_
  refine g_get F hX hP hin3 0 rfl rfl 0 (by decide) (mm 1 rfl) hx0 dX3_isPerson_3 ?_
  refine g_get F hX hP hin2 1 rfl rfl 5 (by decide) (mm 2 rfl) rfl dX3_isPerson_6 ?_
  refine lv_iconst (v := 1) F.1 F.2.1 dX3_isPerson_9 (by decide) ?_
  refine lv_isub F.1 F.2.1 dX3_isPerson_10 ?_
  refine g_goIr (g_runS (As := [.int a1, .int 0, .int ((nI P) - 1)]) (rest := []) F hX hP hD hS hA (c_X3_isWithin l E a1 0 ((nI P) - 1) H.size) (va_cwS 3 F.2.2.2.2 gX3_isPerson_X3_isWithin rfl rfl rfl (by decide +kernel) ⟨Nat.le_of_ble_eq_true rfl, Nat.le_of_ble_eq_true rfl⟩) [] rfl rfl rfl hl.1 rfl (Nat.le_of_ble_eq_true rfl) dX3_isPerson_11 ⟨Nat.le_refl _, Nat.le_refl _⟩) hP hD hS hA [] rfl (fun r _ H locs hq hP hS => ?_)
  subst hq
  exact g_reti F hr hlk (bi_nar _) hS hP hD (()) (rfl) (rfl) dX3_isPerson_14
set_option maxHeartbeats 4000000 in
set_option maxRecDepth 100000 in
theorem c_X3_replace (l : Launch) (E : gE) (a : Nat) (j : Nat) (v : Int32) (z : Nat) (f : Nat → Int32) (hj : j < z ∧ z < 2 ^ 31) : gI l yX3_replace wsX3_replace ({ frames := 0, cells := 0, slots := 0, locals := 0 }) E [(a, .inl (eI E, z, .inl f))] (fun _ : Unit => [(a, .inl (eI E, z, .inl (upd f j v)))]) [.ref a, .int (nI j), .int v] (fun (r : Int32) (_ : Unit) => r = f j) := by
  refine gI.of (cc := cX3_replace) (maxL := 4) (by decide) rfl (Nat.le_of_ble_eq_true rfl) ?_
  intro pG eG sG mG below meth cG A ls H locs F hr hlk hX hP hD hA hS hl
  have hl : lv_has ls 4 [(0, .ref a), (1, .int (nI j)), (2, .int v)] := hl
  refine lv_aload_n F.1 F.2.1 dX3_replace_0 rfl (lv_at hl 0 rfl) ?_
  refine lv_iload_n F.1 F.2.1 dX3_replace_1 rfl (lv_at hl 1 rfl) ?_
  refine g_iald F hX hP 0 rfl (j := j) (rfl) (by omega) (by omega) dX3_replace_2 ?_
  refine lv_istore_n (lv' := [(3, .int (f j)), (0, .ref a), (1, .int (nI j)), (2, .int v)]) F.1 F.2.1 dX3_replace_3 rfl hl (by decide) rfl (fun ls hl => ?_)
  refine lv_aload_n F.1 F.2.1 dX3_replace_4 rfl (lv_at hl 1 rfl) ?_
  refine lv_iload_n F.1 F.2.1 dX3_replace_5 rfl (lv_at hl 2 rfl) ?_
  refine lv_iload_n F.1 F.2.1 dX3_replace_6 rfl (lv_at hl 3 rfl) ?_
  refine g_iast F hX hP hD hS 0 rfl (j := j) (rfl) (by omega) (by omega) dX3_replace_7 (fun H locs hP hD hS => ?_)
  have hP : va_P (eD E) vwCl [(a, .inl (eI E, z, .inl (upd f j v)))] H := hP
  have hD : va_D A [(a, .inl (eI E, z, .inl (upd f j v)))] := hD
  refine lv_iload_n F.1 F.2.1 dX3_replace_8 rfl (lv_at hl 0 rfl) ?_
  exact g_reti F hr hlk (vp_nar_int _) hS hP hD (()) (rfl) (rfl) dX3_replace_9
set_option maxHeartbeats 4000000 in
set_option maxRecDepth 100000 in
theorem c_X3_isOfKind (l : Launch) (E : gE) (k : Int32) (a : Int32) : gI l yX3_isOfKind wsX3_isOfKind ({ frames := 0, cells := 0, slots := 0, locals := 0 }) E [] (fun _ : Unit => []) [.int k, .int a] (fun (r : Int32) (_ : Unit) => r = bi (ofK k a)) := by
  refine gI.of (cc := cX3_isOfKind) (maxL := 2) (by decide) rfl (Nat.le_of_ble_eq_true rfl) ?_
  intro pG eG sG mG below meth cG A ls H locs F hr hlk hX hP hD hA hS hl
  have hl : lv_has ls 2 [(0, .int k), (1, .int a)] := hl
  refine lv_iload_n F.1 F.2.1 dX3_isOfKind_0 rfl (lv_at hl 0 rfl) ?_
  by_cases k1 : k = 4
  · refine g_top 4 k1 ?_
    refine lv_lookup (off := 27) (tgt := 28) F.1 F.2.1 dX3_isOfKind_1 (by decide) (by decide) (by decide) ?_
    refine lv_iload_n F.1 F.2.1 dX3_isOfKind_28 rfl (lv_at hl 1 rfl) ?_
    refine lv_iconst (v := 4) F.1 F.2.1 dX3_isOfKind_29 (by decide) ?_
    refine lv_icmp_eq (tgt := 42) F.1 F.2.1 dX3_isOfKind_30 (by decide) (fun k2 => ?_) (fun k2 => ?_)
    · refine lv_iconst (v := 1) F.1 F.2.1 dX3_isOfKind_42 (by decide) ?_
      refine lv_goto (tgt := 47) F.1 F.2.1 dX3_isOfKind_43 (by decide) ?_
      exact g_reti F hr hlk rfl hS hP hD (()) (rfl) (by simp [ofK, bi, k1, k2]) dX3_isOfKind_47
    · refine lv_iload_n F.1 F.2.1 dX3_isOfKind_33 rfl (lv_at hl 1 rfl) ?_
      refine lv_iconst (v := 1) F.1 F.2.1 dX3_isOfKind_34 (by decide) ?_
      refine lv_icmp_eq (tgt := 42) F.1 F.2.1 dX3_isOfKind_35 (by decide) (fun k3 => ?_) (fun k3 => ?_)
      · refine lv_iconst (v := 1) F.1 F.2.1 dX3_isOfKind_42 (by decide) ?_
        refine lv_goto (tgt := 47) F.1 F.2.1 dX3_isOfKind_43 (by decide) ?_
        exact g_reti F hr hlk rfl hS hP hD (()) (rfl) (by simp [ofK, bi, k1, k2, k3]) dX3_isOfKind_47
      · refine lv_iload_n F.1 F.2.1 dX3_isOfKind_38 rfl (lv_at hl 1 rfl) ?_
        refine lv_if_ne (tgt := 46) F.1 F.2.1 dX3_isOfKind_39 (by decide) (fun k4 => ?_) (fun k4 => ?_)
        · refine lv_iconst (v := 0) F.1 F.2.1 dX3_isOfKind_46 (by decide) ?_
          exact g_reti F hr hlk rfl hS hP hD (()) (rfl) (by simp [ofK, bi, k1, k2, k3, k4]) dX3_isOfKind_47
        · refine lv_iconst (v := 1) F.1 F.2.1 dX3_isOfKind_42 (by decide) ?_
          refine lv_goto (tgt := 47) F.1 F.2.1 dX3_isOfKind_43 (by decide) ?_
          exact g_reti F hr hlk rfl hS hP hD (()) (rfl) (by simp [ofK, bi, k1, k2, k3, k4]) dX3_isOfKind_47
  by_cases k5 : k = 5
  · refine g_top 5 k5 ?_
    refine lv_lookup (off := 47) (tgt := 48) F.1 F.2.1 dX3_isOfKind_1 (by decide) (by decide) (by decide) ?_
    refine lv_iload_n F.1 F.2.1 dX3_isOfKind_48 rfl (lv_at hl 1 rfl) ?_
    refine lv_iconst (v := 5) F.1 F.2.1 dX3_isOfKind_49 (by decide) ?_
    refine lv_icmp_eq (tgt := 62) F.1 F.2.1 dX3_isOfKind_50 (by decide) (fun k6 => ?_) (fun k6 => ?_)
    · refine lv_iconst (v := 1) F.1 F.2.1 dX3_isOfKind_62 (by decide) ?_
      refine lv_goto (tgt := 67) F.1 F.2.1 dX3_isOfKind_63 (by decide) ?_
      exact g_reti F hr hlk rfl hS hP hD (()) (rfl) (by simp [ofK, bi, k1, k5, k6]) dX3_isOfKind_67
    · refine lv_iload_n F.1 F.2.1 dX3_isOfKind_53 rfl (lv_at hl 1 rfl) ?_
      refine lv_iconst (v := 2) F.1 F.2.1 dX3_isOfKind_54 (by decide) ?_
      refine lv_icmp_eq (tgt := 62) F.1 F.2.1 dX3_isOfKind_55 (by decide) (fun k7 => ?_) (fun k7 => ?_)
      · refine lv_iconst (v := 1) F.1 F.2.1 dX3_isOfKind_62 (by decide) ?_
        refine lv_goto (tgt := 67) F.1 F.2.1 dX3_isOfKind_63 (by decide) ?_
        exact g_reti F hr hlk rfl hS hP hD (()) (rfl) (by simp [ofK, bi, k1, k5, k6, k7]) dX3_isOfKind_67
      · refine lv_iload_n F.1 F.2.1 dX3_isOfKind_58 rfl (lv_at hl 1 rfl) ?_
        refine lv_if_ne (tgt := 66) F.1 F.2.1 dX3_isOfKind_59 (by decide) (fun k8 => ?_) (fun k8 => ?_)
        · refine lv_iconst (v := 0) F.1 F.2.1 dX3_isOfKind_66 (by decide) ?_
          exact g_reti F hr hlk rfl hS hP hD (()) (rfl) (by simp [ofK, bi, k1, k5, k6, k7, k8]) dX3_isOfKind_67
        · refine lv_iconst (v := 1) F.1 F.2.1 dX3_isOfKind_62 (by decide) ?_
          refine lv_goto (tgt := 67) F.1 F.2.1 dX3_isOfKind_63 (by decide) ?_
          exact g_reti F hr hlk rfl hS hP hD (()) (rfl) (by simp [ofK, bi, k1, k5, k6, k7, k8]) dX3_isOfKind_67
  refine lv_lookup (off := 67) (tgt := 68) F.1 F.2.1 dX3_isOfKind_1 (by decide) ((if_neg (t_neq k 4 k1)).trans ((if_neg (t_neq k 5 k5)).trans (rfl))) (by decide) ?_
  refine lv_iload_n F.1 F.2.1 dX3_isOfKind_68 rfl (lv_at hl 1 rfl) ?_
  refine lv_iload_n F.1 F.2.1 dX3_isOfKind_69 rfl (lv_at hl 0 rfl) ?_
  refine lv_icmp_eq (tgt := 77) F.1 F.2.1 dX3_isOfKind_70 (by decide) (fun k9 => ?_) (fun k9 => ?_)
  · refine lv_iconst (v := 1) F.1 F.2.1 dX3_isOfKind_77 (by decide) ?_
    refine lv_goto (tgt := 82) F.1 F.2.1 dX3_isOfKind_78 (by decide) ?_
    exact g_reti F hr hlk rfl hS hP hD (()) (rfl) (by simp [ofK, bi, k1, k5, k9]) dX3_isOfKind_82
  · refine lv_iload_n F.1 F.2.1 dX3_isOfKind_73 rfl (lv_at hl 1 rfl) ?_
    refine lv_if_ne (tgt := 81) F.1 F.2.1 dX3_isOfKind_74 (by decide) (fun k10 => ?_) (fun k10 => ?_)
    · refine lv_iconst (v := 0) F.1 F.2.1 dX3_isOfKind_81 (by decide) ?_
      exact g_reti F hr hlk rfl hS hP hD (()) (rfl) (by simp [ofK, bi, k1, k5, k9, k10]) dX3_isOfKind_82
    · refine lv_iconst (v := 1) F.1 F.2.1 dX3_isOfKind_77 (by decide) ?_
      refine lv_goto (tgt := 82) F.1 F.2.1 dX3_isOfKind_78 (by decide) ?_
      exact g_reti F hr hlk rfl hS hP hD (()) (rfl) (by simp [ofK, bi, k1, k5, k9, k10]) dX3_isOfKind_82
def cn_noise (no fd : Nat → Int32) (a1 a2 : Int32) : Int32 × (Nat → Int32) × (Nat → Int32) := if inR a1 0 29 = true ∧ inR a2 0 20 = true then (no (ix a1), upd no (ix a1) a2, fd) else (-1000000001, no, fn fd 0)
set_option maxHeartbeats 4000000 in
set_option maxRecDepth 100000 in
theorem c_X3_noise (l : Launch) (E : gE) (x : Nat) (fx : List Value) (qf : Nat) (h : Nat) (mi : Int32) (fo : Int32) (wi : Int32) (sp : Int32) (P : Nat) (wa : Int32) (qn : Nat) (qk : Nat) (qp : Nat) (qq : Nat) (qc : Nat) (no : Nat → Int32) (fd : Nat → Int32) (a1 : Int32) (a2 : Int32) (hx0 : fx[0]? = some (.ref h)) (hx5 : fx[5]? = some (.ref qf)) : gI l yX3_noise wsX3_noise ({ frames := 2, cells := 0, slots := 0, locals := 44 }) E [(x, .inr (3, fx)), (h, .inr (2, [.int mi, .int fo, .int wi, .int sp, .ref qn, .int (nI P), .ref qk, .ref qp, .ref qq, .ref qc, .int wa])), (qn, .inl (eI E, 30, .inl no)), (qf, .inl (eI E, 7, .inl fd))] (fun u : (Nat → Int32) × (Nat → Int32) => [(x, .inr (3, fx)), (h, .inr (2, [.int mi, .int fo, .int wi, .int sp, .ref qn, .int (nI P), .ref qk, .ref qp, .ref qq, .ref qc, .int wa])), (qn, .inl (eI E, 30, .inl u.1)), (qf, .inl (eI E, 7, .inl u.2))]) [.ref x, .int a1, .int a2] (fun (r : Int32) (u : (Nat → Int32) × (Nat → Int32)) => (r, u) = cn_noise no fd a1 a2) := by
  have hin2 : ∀ w ∈ wsX20, w ∈ wsX3_noise := (fun _ h => (List.mem_cons_of_mem _ (List.mem_append_right _ h)))
  have hin3 : ∀ w ∈ wsX30, w ∈ wsX3_noise := (fun _ h => (List.mem_cons_of_mem _ (List.mem_append_left _ (List.mem_append_right _ h))))
  refine gI.of (cc := cX3_noise) (maxL := 4) (by decide) rfl (Nat.le_of_ble_eq_true rfl) ?_
  intro pG eG sG mG below meth cG A ls H locs F hr hlk hX hP hD hA hS hl
  have hl : lv_has ls 4 [(0, .ref x), (1, .int a1), (2, .int a2)] := hl
  refine lv_iload_n F.1 F.2.1 dX3_noise_0 rfl (lv_at hl 1 rfl) ?_
  refine g_goIr (g_runS (As := [.int a1]) (rest := []) F hX hP hD hS hA (c_X3_isHouse l E a1 H.size) (va_cwS 1 F.2.2.2.2 gX3_noise_X3_isHouse rfl rfl rfl (by decide +kernel) ⟨Nat.le_of_ble_eq_true rfl, Nat.le_of_ble_eq_true rfl⟩) [] rfl rfl rfl hl.1 rfl (Nat.le_of_ble_eq_true rfl) dX3_noise_1 ⟨Nat.le_refl _, Nat.le_refl _⟩) hP hD hS hA [] rfl (fun r _ H locs hq hP hS => ?_)
  subst hq
  refine g_beq (tgt := 17) F dX3_noise_4 (by decide) (fun k1 => ?_) (fun k1 => ?_)
  · refine lv_aload_n F.1 F.2.1 dX3_noise_17 rfl (lv_at hl 0 rfl) ?_
    refine lv_ldc (v := (-1000000001)) F.1 F.2.1 F.2.2.2.1 (F.2.2.2.2 _ (mm 1 rfl)) dX3_noise_18 ?_
    refine g_goI (wr := [(h, .inr (2, [.int mi, .int fo, .int wi, .int sp, .ref qn, .int (nI P), .ref qk, .ref qp, .ref qq, .ref qc, .int wa])), (qn, .inl (eI E, 30, .inl no))]) (g_runV (As := [.int (-1000000001)]) (rest := []) F hX hP hD hS hA (c_X3_found l E x fx qf fd (-1000000001) 0 (by first | assumption | rfl) (by decide +kernel) (by decide) H.size) (cwV 1 F.2.2.2.2 gX3_noise_X3_found rfl rfl rfl (by decide +kernel) ⟨Nat.le_of_ble_eq_true rfl, Nat.le_of_ble_eq_true rfl⟩) [0, 3] rfl rfl (q0 := 0) (ci := 3) rfl rfl rfl hl.1 rfl (Nat.le_of_ble_eq_true rfl) dX3_noise_20 ⟨Nat.le_refl _, Nat.le_refl _⟩) hP hD hS hA [0, 3] [1, 2] rfl rfl rfl (by decide) (fun r _ H locs hq hP hD hS => ?_)
    have hP : va_P (eD E) vwCl [(x, .inr (3, fx)), (h, .inr (2, [.int mi, .int fo, .int wi, .int sp, .ref qn, .int (nI P), .ref qk, .ref qp, .ref qq, .ref qc, .int wa])), (qn, .inl (eI E, 30, .inl no)), (qf, .inl (eI E, 7, .inl (fn fd 0)))] H := hP.sub [2, 0, 1, 3] rfl
    have hD : va_D A [(x, .inr (3, fx)), (h, .inr (2, [.int mi, .int fo, .int wi, .int sp, .ref qn, .int (nI P), .ref qk, .ref qp, .ref qq, .ref qc, .int wa])), (qn, .inl (eI E, 30, .inl no)), (qf, .inl (eI E, 7, .inl (fn fd 0)))] := hD.sub [2, 0, 1, 3] (by decide) rfl
    subst hq
    exact g_reti F hr hlk (vp_nar_int _) hS hP hD ((no, fn fd 0)) (rfl) (by unfold cn_noise; (try simp only [k1, and_self, true_and, and_true, if_true, Bool.false_eq_true, false_and, and_false, if_false]); all_goals simp [k1]) dX3_noise_23
  · refine lv_iload_n F.1 F.2.1 dX3_noise_7 rfl (lv_at hl 2 rfl) ?_
    refine lv_iconst (v := 0) F.1 F.2.1 dX3_noise_8 (by decide) ?_
    refine lv_bipush (v := 20) F.1 F.2.1 dX3_noise_9 (by decide) ?_
    refine g_goIr (g_runS (As := [.int a2, .int 0, .int 20]) (rest := []) F hX hP hD hS hA (c_X3_isWithin l E a2 0 20 H.size) (va_cwS 3 F.2.2.2.2 gX3_noise_X3_isWithin rfl rfl rfl (by decide +kernel) ⟨Nat.le_of_ble_eq_true rfl, Nat.le_of_ble_eq_true rfl⟩) [] rfl rfl rfl hl.1 rfl (Nat.le_of_ble_eq_true rfl) dX3_noise_11 ⟨Nat.le_refl _, Nat.le_refl _⟩) hP hD hS hA [] rfl (fun r _ H locs hq hP hS => ?_)
    subst hq
    refine g_bne (tgt := 24) F dX3_noise_14 (by decide) (fun k2 => ?_) (fun k2 => ?_)
    · obtain ⟨e_a1, b_a1⟩ := ix_of 29 k1 (by decide) (by decide)
      have hl : lv_has ls 4 [(0, .ref x), (1, .int (nI (ix a1))), (2, .int a2)] := by rw [← e_a1]; exact hl
      refine lv_aload_n F.1 F.2.1 dX3_noise_24 rfl (lv_at hl 0 rfl) ?_
      refine g_get F hX hP hin3 0 rfl rfl 0 (by decide) (mm 2 rfl) hx0 dX3_noise_25 ?_
      refine g_get F hX hP hin2 1 rfl rfl 4 (by decide) (mm 3 rfl) rfl dX3_noise_28 ?_
      refine lv_iload_n F.1 F.2.1 dX3_noise_31 rfl (lv_at hl 1 rfl) ?_
      refine g_iald F hX hP 2 rfl (j := (ix a1)) (rfl) (by omega) (by decide) dX3_noise_32 ?_
      refine lv_istore_n (lv' := [(3, .int (no (ix a1))), (0, .ref x), (1, .int (nI (ix a1))), (2, .int a2)]) F.1 F.2.1 dX3_noise_33 rfl hl (by decide) rfl (fun ls hl => ?_)
      refine lv_aload_n F.1 F.2.1 dX3_noise_34 rfl (lv_at hl 1 rfl) ?_
      refine g_get F hX hP hin3 0 rfl rfl 0 (by decide) (mm 2 rfl) hx0 dX3_noise_35 ?_
      refine g_get F hX hP hin2 1 rfl rfl 4 (by decide) (mm 3 rfl) rfl dX3_noise_38 ?_
      refine lv_iload_n F.1 F.2.1 dX3_noise_41 rfl (lv_at hl 2 rfl) ?_
      refine lv_iload_n F.1 F.2.1 dX3_noise_42 rfl (lv_at hl 3 rfl) ?_
      refine g_iast F hX hP hD hS 2 rfl (j := (ix a1)) (rfl) (by omega) (by decide) dX3_noise_43 (fun H locs hP hD hS => ?_)
      have hP : va_P (eD E) vwCl [(x, .inr (3, fx)), (h, .inr (2, [.int mi, .int fo, .int wi, .int sp, .ref qn, .int (nI P), .ref qk, .ref qp, .ref qq, .ref qc, .int wa])), (qn, .inl (eI E, 30, .inl (upd no (ix a1) a2))), (qf, .inl (eI E, 7, .inl fd))] H := hP
      have hD : va_D A [(x, .inr (3, fx)), (h, .inr (2, [.int mi, .int fo, .int wi, .int sp, .ref qn, .int (nI P), .ref qk, .ref qp, .ref qq, .ref qc, .int wa])), (qn, .inl (eI E, 30, .inl (upd no (ix a1) a2))), (qf, .inl (eI E, 7, .inl fd))] := hD
      refine lv_iload_n F.1 F.2.1 dX3_noise_44 rfl (lv_at hl 0 rfl) ?_
      exact g_reti F hr hlk (vp_nar_int _) hS hP hD ((upd no (ix a1) a2, fd)) (rfl) (by unfold cn_noise; (try simp only [k1, k2, and_self, true_and, and_true, if_true, Bool.false_eq_true, false_and, and_false, if_false]); all_goals simp [k1, k2]) dX3_noise_45
    · refine lv_aload_n F.1 F.2.1 dX3_noise_17 rfl (lv_at hl 0 rfl) ?_
      refine lv_ldc (v := (-1000000001)) F.1 F.2.1 F.2.2.2.1 (F.2.2.2.2 _ (mm 1 rfl)) dX3_noise_18 ?_
      refine g_goI (wr := [(h, .inr (2, [.int mi, .int fo, .int wi, .int sp, .ref qn, .int (nI P), .ref qk, .ref qp, .ref qq, .ref qc, .int wa])), (qn, .inl (eI E, 30, .inl no))]) (g_runV (As := [.int (-1000000001)]) (rest := []) F hX hP hD hS hA (c_X3_found l E x fx qf fd (-1000000001) 0 (by first | assumption | rfl) (by decide +kernel) (by decide) H.size) (cwV 1 F.2.2.2.2 gX3_noise_X3_found rfl rfl rfl (by decide +kernel) ⟨Nat.le_of_ble_eq_true rfl, Nat.le_of_ble_eq_true rfl⟩) [0, 3] rfl rfl (q0 := 0) (ci := 3) rfl rfl rfl hl.1 rfl (Nat.le_of_ble_eq_true rfl) dX3_noise_20 ⟨Nat.le_refl _, Nat.le_refl _⟩) hP hD hS hA [0, 3] [1, 2] rfl rfl rfl (by decide) (fun r _ H locs hq hP hD hS => ?_)
      have hP : va_P (eD E) vwCl [(x, .inr (3, fx)), (h, .inr (2, [.int mi, .int fo, .int wi, .int sp, .ref qn, .int (nI P), .ref qk, .ref qp, .ref qq, .ref qc, .int wa])), (qn, .inl (eI E, 30, .inl no)), (qf, .inl (eI E, 7, .inl (fn fd 0)))] H := hP.sub [2, 0, 1, 3] rfl
      have hD : va_D A [(x, .inr (3, fx)), (h, .inr (2, [.int mi, .int fo, .int wi, .int sp, .ref qn, .int (nI P), .ref qk, .ref qp, .ref qq, .ref qc, .int wa])), (qn, .inl (eI E, 30, .inl no)), (qf, .inl (eI E, 7, .inl (fn fd 0)))] := hD.sub [2, 0, 1, 3] (by decide) rfl
      subst hq
      exact g_reti F hr hlk (vp_nar_int _) hS hP hD ((no, fn fd 0)) (rfl) (by unfold cn_noise; (try simp only [k1, k2, and_self, true_and, and_true, if_true, Bool.false_eq_true, false_and, and_false, if_false]); all_goals simp [k1, k2]) dX3_noise_23
def cn_hush (fo wi sp : Int32) (fd : Nat → Int32) (a1 a2 : Int32) : Int32 × Int32 × Int32 × Int32 × (Nat → Int32) := if a1 = 0 ∧ inR a2 0 99 = true then (fo, a2, wi, sp, fd) else if a1 = 1 ∧ inR a2 0 10 = true then (wi, fo, a2, sp, fd) else if a1 = 2 ∧ inR a2 1 5 = true then (sp, fo, wi, a2, fd) else (-1000000001, fo, wi, sp, fn fd 0)
set_option maxHeartbeats 4000000 in
set_option maxRecDepth 100000 in
theorem c_X3_hush (l : Launch) (E : gE) (x : Nat) (fx : List Value) (qf : Nat) (h : Nat) (mi : Int32) (fo : Int32) (wi : Int32) (sp : Int32) (P : Nat) (wa : Int32) (qn : Nat) (qk : Nat) (qp : Nat) (qq : Nat) (qc : Nat) (fd : Nat → Int32) (a1 : Int32) (a2 : Int32) (hx0 : fx[0]? = some (.ref h)) (hx5 : fx[5]? = some (.ref qf)) : gI l yX3_hush wsX3_hush ({ frames := 2, cells := 0, slots := 0, locals := 44 }) E [(x, .inr (3, fx)), (h, .inr (2, [.int mi, .int fo, .int wi, .int sp, .ref qn, .int (nI P), .ref qk, .ref qp, .ref qq, .ref qc, .int wa])), (qf, .inl (eI E, 7, .inl fd))] (fun u : Int32 × Int32 × Int32 × (Nat → Int32) => [(x, .inr (3, fx)), (h, .inr (2, [.int mi, .int u.1, .int u.2.1, .int u.2.2.1, .ref qn, .int (nI P), .ref qk, .ref qp, .ref qq, .ref qc, .int wa])), (qf, .inl (eI E, 7, .inl u.2.2.2))]) [.ref x, .int a1, .int a2] (fun (r : Int32) (u : Int32 × Int32 × Int32 × (Nat → Int32)) => (r, u) = cn_hush fo wi sp fd a1 a2) := by
  have hin2 : ∀ w ∈ wsX20, w ∈ wsX3_hush := (fun _ h => (List.mem_cons_of_mem _ (List.mem_append_right _ h)))
  have hin3 : ∀ w ∈ wsX30, w ∈ wsX3_hush := (fun _ h => (List.mem_cons_of_mem _ (List.mem_append_left _ (List.mem_append_right _ h))))
  refine gI.of (cc := cX3_hush) (maxL := 4) (by decide) rfl (Nat.le_of_ble_eq_true rfl) ?_
  intro pG eG sG mG below meth cG A ls H locs F hr hlk hX hP hD hA hS hl
  have hl : lv_has ls 4 [(0, .ref x), (1, .int a1), (2, .int a2)] := hl
  refine lv_iload_n F.1 F.2.1 dX3_hush_0 rfl (lv_at hl 1 rfl) ?_
  refine lv_if_ne (tgt := 33) F.1 F.2.1 dX3_hush_1 (by decide) (fun k1 => ?_) (fun k1 => ?_)
  · refine lv_iload_n F.1 F.2.1 dX3_hush_33 rfl (lv_at hl 1 rfl) ?_
    refine lv_iconst (v := 1) F.1 F.2.1 dX3_hush_34 (by decide) ?_
    refine lv_icmp_ne (tgt := 67) F.1 F.2.1 dX3_hush_35 (by decide) (fun k2 => ?_) (fun k2 => ?_)
    · refine lv_iload_n F.1 F.2.1 dX3_hush_67 rfl (lv_at hl 1 rfl) ?_
      refine lv_iconst (v := 2) F.1 F.2.1 dX3_hush_68 (by decide) ?_
      refine lv_icmp_ne (tgt := 100) F.1 F.2.1 dX3_hush_69 (by decide) (fun k3 => ?_) (fun k3 => ?_)
      · refine lv_aload_n F.1 F.2.1 dX3_hush_100 rfl (lv_at hl 0 rfl) ?_
        refine lv_ldc (v := (-1000000001)) F.1 F.2.1 F.2.2.2.1 (F.2.2.2.2 _ (mm 5 rfl)) dX3_hush_101 ?_
        refine g_goI (wr := [(h, .inr (2, [.int mi, .int fo, .int wi, .int sp, .ref qn, .int (nI P), .ref qk, .ref qp, .ref qq, .ref qc, .int wa]))]) (g_runV (As := [.int (-1000000001)]) (rest := []) F hX hP hD hS hA (c_X3_found l E x fx qf fd (-1000000001) 0 (by first | assumption | rfl) (by decide +kernel) (by decide) H.size) (cwV 1 F.2.2.2.2 gX3_hush_X3_found rfl rfl rfl (by decide +kernel) ⟨Nat.le_of_ble_eq_true rfl, Nat.le_of_ble_eq_true rfl⟩) [0, 2] rfl rfl (q0 := 0) (ci := 3) rfl rfl rfl hl.1 rfl (Nat.le_of_ble_eq_true rfl) dX3_hush_103 ⟨Nat.le_refl _, Nat.le_refl _⟩) hP hD hS hA [0, 2] [1] rfl rfl rfl (by decide) (fun r _ H locs hq hP hD hS => ?_)
        have hP : va_P (eD E) vwCl [(x, .inr (3, fx)), (h, .inr (2, [.int mi, .int fo, .int wi, .int sp, .ref qn, .int (nI P), .ref qk, .ref qp, .ref qq, .ref qc, .int wa])), (qf, .inl (eI E, 7, .inl (fn fd 0)))] H := hP.sub [1, 0, 2] rfl
        have hD : va_D A [(x, .inr (3, fx)), (h, .inr (2, [.int mi, .int fo, .int wi, .int sp, .ref qn, .int (nI P), .ref qk, .ref qp, .ref qq, .ref qc, .int wa])), (qf, .inl (eI E, 7, .inl (fn fd 0)))] := hD.sub [1, 0, 2] (by decide) rfl
        subst hq
        refine lv_istore_n (lv' := [(3, .int (-1000000001)), (0, .ref x), (1, .int a1), (2, .int a2)]) F.1 F.2.1 dX3_hush_106 rfl hl (by decide) rfl (fun ls hl => ?_)
        refine lv_iload_n F.1 F.2.1 dX3_hush_107 rfl (lv_at hl 0 rfl) ?_
        exact g_reti F hr hlk (vp_nar_int _) hS hP hD ((fo, wi, sp, fn fd 0)) (rfl) (by first | (simp [cn_hush, k1, k2, k3]; done) | (exfalso; simp_all)) dX3_hush_108
      · refine lv_iload_n F.1 F.2.1 dX3_hush_72 rfl (lv_at hl 2 rfl) ?_
        refine lv_iconst (v := 1) F.1 F.2.1 dX3_hush_73 (by decide) ?_
        refine lv_iconst (v := 5) F.1 F.2.1 dX3_hush_74 (by decide) ?_
        refine g_goIr (g_runS (As := [.int a2, .int 1, .int 5]) (rest := []) F hX hP hD hS hA (c_X3_isWithin l E a2 1 5 H.size) (va_cwS 3 F.2.2.2.2 gX3_hush_X3_isWithin rfl rfl rfl (by decide +kernel) ⟨Nat.le_of_ble_eq_true rfl, Nat.le_of_ble_eq_true rfl⟩) [] rfl rfl rfl hl.1 rfl (Nat.le_of_ble_eq_true rfl) dX3_hush_75 ⟨Nat.le_refl _, Nat.le_refl _⟩) hP hD hS hA [] rfl (fun r _ H locs hq hP hS => ?_)
        subst hq
        refine g_beq (tgt := 100) F dX3_hush_78 (by decide) (fun k4 => ?_) (fun k4 => ?_)
        · refine lv_aload_n F.1 F.2.1 dX3_hush_100 rfl (lv_at hl 0 rfl) ?_
          refine lv_ldc (v := (-1000000001)) F.1 F.2.1 F.2.2.2.1 (F.2.2.2.2 _ (mm 5 rfl)) dX3_hush_101 ?_
          refine g_goI (wr := [(h, .inr (2, [.int mi, .int fo, .int wi, .int sp, .ref qn, .int (nI P), .ref qk, .ref qp, .ref qq, .ref qc, .int wa]))]) (g_runV (As := [.int (-1000000001)]) (rest := []) F hX hP hD hS hA (c_X3_found l E x fx qf fd (-1000000001) 0 (by first | assumption | rfl) (by decide +kernel) (by decide) H.size) (cwV 1 F.2.2.2.2 gX3_hush_X3_found rfl rfl rfl (by decide +kernel) ⟨Nat.le_of_ble_eq_true rfl, Nat.le_of_ble_eq_true rfl⟩) [0, 2] rfl rfl (q0 := 0) (ci := 3) rfl rfl rfl hl.1 rfl (Nat.le_of_ble_eq_true rfl) dX3_hush_103 ⟨Nat.le_refl _, Nat.le_refl _⟩) hP hD hS hA [0, 2] [1] rfl rfl rfl (by decide) (fun r _ H locs hq hP hD hS => ?_)
          have hP : va_P (eD E) vwCl [(x, .inr (3, fx)), (h, .inr (2, [.int mi, .int fo, .int wi, .int sp, .ref qn, .int (nI P), .ref qk, .ref qp, .ref qq, .ref qc, .int wa])), (qf, .inl (eI E, 7, .inl (fn fd 0)))] H := hP.sub [1, 0, 2] rfl
          have hD : va_D A [(x, .inr (3, fx)), (h, .inr (2, [.int mi, .int fo, .int wi, .int sp, .ref qn, .int (nI P), .ref qk, .ref qp, .ref qq, .ref qc, .int wa])), (qf, .inl (eI E, 7, .inl (fn fd 0)))] := hD.sub [1, 0, 2] (by decide) rfl
          subst hq
          refine lv_istore_n (lv' := [(3, .int (-1000000001)), (0, .ref x), (1, .int a1), (2, .int a2)]) F.1 F.2.1 dX3_hush_106 rfl hl (by decide) rfl (fun ls hl => ?_)
          refine lv_iload_n F.1 F.2.1 dX3_hush_107 rfl (lv_at hl 0 rfl) ?_
          exact g_reti F hr hlk (vp_nar_int _) hS hP hD ((fo, wi, sp, fn fd 0)) (rfl) (by first | (simp [cn_hush, k1, k2, k3, k4]; done) | (exfalso; simp_all)) dX3_hush_108
        · refine lv_aload_n F.1 F.2.1 dX3_hush_81 rfl (lv_at hl 0 rfl) ?_
          refine g_get F hX hP hin3 0 rfl rfl 0 (by decide) (mm 1 rfl) hx0 dX3_hush_82 ?_
          refine g_get F hX hP hin2 1 rfl rfl 3 (by decide) (mm 4 rfl) rfl dX3_hush_85 ?_
          refine lv_istore_n (lv' := [(3, .int sp), (0, .ref x), (1, .int a1), (2, .int a2)]) F.1 F.2.1 dX3_hush_88 rfl hl (by decide) rfl (fun ls hl => ?_)
          refine lv_aload_n F.1 F.2.1 dX3_hush_89 rfl (lv_at hl 1 rfl) ?_
          refine g_get F hX hP hin3 0 rfl rfl 0 (by decide) (mm 1 rfl) hx0 dX3_hush_90 ?_
          refine lv_iload_n F.1 F.2.1 dX3_hush_93 rfl (lv_at hl 3 rfl) ?_
          refine g_put F hX hP hD hS hin2 tyX2 tyX2_ok nmX2 1 rfl rfl 3 (by decide) (mm 4 rfl) rfl (rfl) (rfl) (Nat.le_of_ble_eq_true rfl) dX3_hush_94 (fun H locs hP hD hS => ?_)
          have hP : va_P (eD E) vwCl [(x, .inr (3, fx)), (h, .inr (2, [.int mi, .int fo, .int wi, .int a2, .ref qn, .int (nI P), .ref qk, .ref qp, .ref qq, .ref qc, .int wa])), (qf, .inl (eI E, 7, .inl fd))] H := hP
          have hD : va_D A [(x, .inr (3, fx)), (h, .inr (2, [.int mi, .int fo, .int wi, .int a2, .ref qn, .int (nI P), .ref qk, .ref qp, .ref qq, .ref qc, .int wa])), (qf, .inl (eI E, 7, .inl fd))] := hD
          refine lv_goto (tgt := 107) F.1 F.2.1 dX3_hush_97 (by decide) ?_
          refine lv_iload_n F.1 F.2.1 dX3_hush_107 rfl (lv_at hl 0 rfl) ?_
          exact g_reti F hr hlk (vp_nar_int _) hS hP hD ((fo, wi, a2, fd)) (rfl) (by first | (simp [cn_hush, k1, k2, k3, k4]; done) | (exfalso; simp_all)) dX3_hush_108
    · refine lv_iload_n F.1 F.2.1 dX3_hush_38 rfl (lv_at hl 2 rfl) ?_
      refine lv_iconst (v := 0) F.1 F.2.1 dX3_hush_39 (by decide) ?_
      refine lv_bipush (v := 10) F.1 F.2.1 dX3_hush_40 (by decide) ?_
      refine g_goIr (g_runS (As := [.int a2, .int 0, .int 10]) (rest := []) F hX hP hD hS hA (c_X3_isWithin l E a2 0 10 H.size) (va_cwS 3 F.2.2.2.2 gX3_hush_X3_isWithin rfl rfl rfl (by decide +kernel) ⟨Nat.le_of_ble_eq_true rfl, Nat.le_of_ble_eq_true rfl⟩) [] rfl rfl rfl hl.1 rfl (Nat.le_of_ble_eq_true rfl) dX3_hush_42 ⟨Nat.le_refl _, Nat.le_refl _⟩) hP hD hS hA [] rfl (fun r _ H locs hq hP hS => ?_)
      subst hq
      refine g_beq (tgt := 67) F dX3_hush_45 (by decide) (fun k5 => ?_) (fun k5 => ?_)
      · refine lv_iload_n F.1 F.2.1 dX3_hush_67 rfl (lv_at hl 1 rfl) ?_
        refine lv_iconst (v := 2) F.1 F.2.1 dX3_hush_68 (by decide) ?_
        refine lv_icmp_ne (tgt := 100) F.1 F.2.1 dX3_hush_69 (by decide) (fun k6 => ?_) (fun k6 => ?_)
        · refine lv_aload_n F.1 F.2.1 dX3_hush_100 rfl (lv_at hl 0 rfl) ?_
          refine lv_ldc (v := (-1000000001)) F.1 F.2.1 F.2.2.2.1 (F.2.2.2.2 _ (mm 5 rfl)) dX3_hush_101 ?_
          refine g_goI (wr := [(h, .inr (2, [.int mi, .int fo, .int wi, .int sp, .ref qn, .int (nI P), .ref qk, .ref qp, .ref qq, .ref qc, .int wa]))]) (g_runV (As := [.int (-1000000001)]) (rest := []) F hX hP hD hS hA (c_X3_found l E x fx qf fd (-1000000001) 0 (by first | assumption | rfl) (by decide +kernel) (by decide) H.size) (cwV 1 F.2.2.2.2 gX3_hush_X3_found rfl rfl rfl (by decide +kernel) ⟨Nat.le_of_ble_eq_true rfl, Nat.le_of_ble_eq_true rfl⟩) [0, 2] rfl rfl (q0 := 0) (ci := 3) rfl rfl rfl hl.1 rfl (Nat.le_of_ble_eq_true rfl) dX3_hush_103 ⟨Nat.le_refl _, Nat.le_refl _⟩) hP hD hS hA [0, 2] [1] rfl rfl rfl (by decide) (fun r _ H locs hq hP hD hS => ?_)
          have hP : va_P (eD E) vwCl [(x, .inr (3, fx)), (h, .inr (2, [.int mi, .int fo, .int wi, .int sp, .ref qn, .int (nI P), .ref qk, .ref qp, .ref qq, .ref qc, .int wa])), (qf, .inl (eI E, 7, .inl (fn fd 0)))] H := hP.sub [1, 0, 2] rfl
          have hD : va_D A [(x, .inr (3, fx)), (h, .inr (2, [.int mi, .int fo, .int wi, .int sp, .ref qn, .int (nI P), .ref qk, .ref qp, .ref qq, .ref qc, .int wa])), (qf, .inl (eI E, 7, .inl (fn fd 0)))] := hD.sub [1, 0, 2] (by decide) rfl
          subst hq
          refine lv_istore_n (lv' := [(3, .int (-1000000001)), (0, .ref x), (1, .int a1), (2, .int a2)]) F.1 F.2.1 dX3_hush_106 rfl hl (by decide) rfl (fun ls hl => ?_)
          refine lv_iload_n F.1 F.2.1 dX3_hush_107 rfl (lv_at hl 0 rfl) ?_
          exact g_reti F hr hlk (vp_nar_int _) hS hP hD ((fo, wi, sp, fn fd 0)) (rfl) (by first | (simp [cn_hush, k1, k2, k5, k6]; done) | (exfalso; simp_all)) dX3_hush_108
        · refine lv_iload_n F.1 F.2.1 dX3_hush_72 rfl (lv_at hl 2 rfl) ?_
          refine lv_iconst (v := 1) F.1 F.2.1 dX3_hush_73 (by decide) ?_
          refine lv_iconst (v := 5) F.1 F.2.1 dX3_hush_74 (by decide) ?_
          refine g_goIr (g_runS (As := [.int a2, .int 1, .int 5]) (rest := []) F hX hP hD hS hA (c_X3_isWithin l E a2 1 5 H.size) (va_cwS 3 F.2.2.2.2 gX3_hush_X3_isWithin rfl rfl rfl (by decide +kernel) ⟨Nat.le_of_ble_eq_true rfl, Nat.le_of_ble_eq_true rfl⟩) [] rfl rfl rfl hl.1 rfl (Nat.le_of_ble_eq_true rfl) dX3_hush_75 ⟨Nat.le_refl _, Nat.le_refl _⟩) hP hD hS hA [] rfl (fun r _ H locs hq hP hS => ?_)
          subst hq
          refine g_beq (tgt := 100) F dX3_hush_78 (by decide) (fun k7 => ?_) (fun k7 => ?_)
          · refine lv_aload_n F.1 F.2.1 dX3_hush_100 rfl (lv_at hl 0 rfl) ?_
            refine lv_ldc (v := (-1000000001)) F.1 F.2.1 F.2.2.2.1 (F.2.2.2.2 _ (mm 5 rfl)) dX3_hush_101 ?_
            refine g_goI (wr := [(h, .inr (2, [.int mi, .int fo, .int wi, .int sp, .ref qn, .int (nI P), .ref qk, .ref qp, .ref qq, .ref qc, .int wa]))]) (g_runV (As := [.int (-1000000001)]) (rest := []) F hX hP hD hS hA (c_X3_found l E x fx qf fd (-1000000001) 0 (by first | assumption | rfl) (by decide +kernel) (by decide) H.size) (cwV 1 F.2.2.2.2 gX3_hush_X3_found rfl rfl rfl (by decide +kernel) ⟨Nat.le_of_ble_eq_true rfl, Nat.le_of_ble_eq_true rfl⟩) [0, 2] rfl rfl (q0 := 0) (ci := 3) rfl rfl rfl hl.1 rfl (Nat.le_of_ble_eq_true rfl) dX3_hush_103 ⟨Nat.le_refl _, Nat.le_refl _⟩) hP hD hS hA [0, 2] [1] rfl rfl rfl (by decide) (fun r _ H locs hq hP hD hS => ?_)
            have hP : va_P (eD E) vwCl [(x, .inr (3, fx)), (h, .inr (2, [.int mi, .int fo, .int wi, .int sp, .ref qn, .int (nI P), .ref qk, .ref qp, .ref qq, .ref qc, .int wa])), (qf, .inl (eI E, 7, .inl (fn fd 0)))] H := hP.sub [1, 0, 2] rfl
            have hD : va_D A [(x, .inr (3, fx)), (h, .inr (2, [.int mi, .int fo, .int wi, .int sp, .ref qn, .int (nI P), .ref qk, .ref qp, .ref qq, .ref qc, .int wa])), (qf, .inl (eI E, 7, .inl (fn fd 0)))] := hD.sub [1, 0, 2] (by decide) rfl
            subst hq
            refine lv_istore_n (lv' := [(3, .int (-1000000001)), (0, .ref x), (1, .int a1), (2, .int a2)]) F.1 F.2.1 dX3_hush_106 rfl hl (by decide) rfl (fun ls hl => ?_)
            refine lv_iload_n F.1 F.2.1 dX3_hush_107 rfl (lv_at hl 0 rfl) ?_
            exact g_reti F hr hlk (vp_nar_int _) hS hP hD ((fo, wi, sp, fn fd 0)) (rfl) (by first | (simp [cn_hush, k1, k2, k5, k6, k7]; done) | (exfalso; simp_all)) dX3_hush_108
          · refine lv_aload_n F.1 F.2.1 dX3_hush_81 rfl (lv_at hl 0 rfl) ?_
            refine g_get F hX hP hin3 0 rfl rfl 0 (by decide) (mm 1 rfl) hx0 dX3_hush_82 ?_
            refine g_get F hX hP hin2 1 rfl rfl 3 (by decide) (mm 4 rfl) rfl dX3_hush_85 ?_
            refine lv_istore_n (lv' := [(3, .int sp), (0, .ref x), (1, .int a1), (2, .int a2)]) F.1 F.2.1 dX3_hush_88 rfl hl (by decide) rfl (fun ls hl => ?_)
            refine lv_aload_n F.1 F.2.1 dX3_hush_89 rfl (lv_at hl 1 rfl) ?_
            refine g_get F hX hP hin3 0 rfl rfl 0 (by decide) (mm 1 rfl) hx0 dX3_hush_90 ?_
            refine lv_iload_n F.1 F.2.1 dX3_hush_93 rfl (lv_at hl 3 rfl) ?_
            refine g_put F hX hP hD hS hin2 tyX2 tyX2_ok nmX2 1 rfl rfl 3 (by decide) (mm 4 rfl) rfl (rfl) (rfl) (Nat.le_of_ble_eq_true rfl) dX3_hush_94 (fun H locs hP hD hS => ?_)
            have hP : va_P (eD E) vwCl [(x, .inr (3, fx)), (h, .inr (2, [.int mi, .int fo, .int wi, .int a2, .ref qn, .int (nI P), .ref qk, .ref qp, .ref qq, .ref qc, .int wa])), (qf, .inl (eI E, 7, .inl fd))] H := hP
            have hD : va_D A [(x, .inr (3, fx)), (h, .inr (2, [.int mi, .int fo, .int wi, .int a2, .ref qn, .int (nI P), .ref qk, .ref qp, .ref qq, .ref qc, .int wa])), (qf, .inl (eI E, 7, .inl fd))] := hD
            refine lv_goto (tgt := 107) F.1 F.2.1 dX3_hush_97 (by decide) ?_
            refine lv_iload_n F.1 F.2.1 dX3_hush_107 rfl (lv_at hl 0 rfl) ?_
            exact g_reti F hr hlk (vp_nar_int _) hS hP hD ((fo, wi, a2, fd)) (rfl) (by first | (simp [cn_hush, k1, k2, k5, k6, k7]; done) | (exfalso; simp_all)) dX3_hush_108
      · refine lv_aload_n F.1 F.2.1 dX3_hush_48 rfl (lv_at hl 0 rfl) ?_
        refine g_get F hX hP hin3 0 rfl rfl 0 (by decide) (mm 1 rfl) hx0 dX3_hush_49 ?_
        refine g_get F hX hP hin2 1 rfl rfl 2 (by decide) (mm 3 rfl) rfl dX3_hush_52 ?_
        refine lv_istore_n (lv' := [(3, .int wi), (0, .ref x), (1, .int a1), (2, .int a2)]) F.1 F.2.1 dX3_hush_55 rfl hl (by decide) rfl (fun ls hl => ?_)
        refine lv_aload_n F.1 F.2.1 dX3_hush_56 rfl (lv_at hl 1 rfl) ?_
        refine g_get F hX hP hin3 0 rfl rfl 0 (by decide) (mm 1 rfl) hx0 dX3_hush_57 ?_
        refine lv_iload_n F.1 F.2.1 dX3_hush_60 rfl (lv_at hl 3 rfl) ?_
        refine g_put F hX hP hD hS hin2 tyX2 tyX2_ok nmX2 1 rfl rfl 2 (by decide) (mm 3 rfl) rfl (rfl) (rfl) (Nat.le_of_ble_eq_true rfl) dX3_hush_61 (fun H locs hP hD hS => ?_)
        have hP : va_P (eD E) vwCl [(x, .inr (3, fx)), (h, .inr (2, [.int mi, .int fo, .int a2, .int sp, .ref qn, .int (nI P), .ref qk, .ref qp, .ref qq, .ref qc, .int wa])), (qf, .inl (eI E, 7, .inl fd))] H := hP
        have hD : va_D A [(x, .inr (3, fx)), (h, .inr (2, [.int mi, .int fo, .int a2, .int sp, .ref qn, .int (nI P), .ref qk, .ref qp, .ref qq, .ref qc, .int wa])), (qf, .inl (eI E, 7, .inl fd))] := hD
        refine lv_goto (tgt := 107) F.1 F.2.1 dX3_hush_64 (by decide) ?_
        refine lv_iload_n F.1 F.2.1 dX3_hush_107 rfl (lv_at hl 0 rfl) ?_
        exact g_reti F hr hlk (vp_nar_int _) hS hP hD ((fo, a2, sp, fd)) (rfl) (by first | (simp [cn_hush, k1, k2, k5]; done) | (exfalso; simp_all)) dX3_hush_108
  · refine lv_iload_n F.1 F.2.1 dX3_hush_4 rfl (lv_at hl 2 rfl) ?_
    refine lv_iconst (v := 0) F.1 F.2.1 dX3_hush_5 (by decide) ?_
    refine lv_bipush (v := 99) F.1 F.2.1 dX3_hush_6 (by decide) ?_
    refine g_goIr (g_runS (As := [.int a2, .int 0, .int 99]) (rest := []) F hX hP hD hS hA (c_X3_isWithin l E a2 0 99 H.size) (va_cwS 3 F.2.2.2.2 gX3_hush_X3_isWithin rfl rfl rfl (by decide +kernel) ⟨Nat.le_of_ble_eq_true rfl, Nat.le_of_ble_eq_true rfl⟩) [] rfl rfl rfl hl.1 rfl (Nat.le_of_ble_eq_true rfl) dX3_hush_8 ⟨Nat.le_refl _, Nat.le_refl _⟩) hP hD hS hA [] rfl (fun r _ H locs hq hP hS => ?_)
    subst hq
    refine g_beq (tgt := 33) F dX3_hush_11 (by decide) (fun k8 => ?_) (fun k8 => ?_)
    · refine lv_iload_n F.1 F.2.1 dX3_hush_33 rfl (lv_at hl 1 rfl) ?_
      refine lv_iconst (v := 1) F.1 F.2.1 dX3_hush_34 (by decide) ?_
      refine lv_icmp_ne (tgt := 67) F.1 F.2.1 dX3_hush_35 (by decide) (fun k9 => ?_) (fun k9 => ?_)
      · refine lv_iload_n F.1 F.2.1 dX3_hush_67 rfl (lv_at hl 1 rfl) ?_
        refine lv_iconst (v := 2) F.1 F.2.1 dX3_hush_68 (by decide) ?_
        refine lv_icmp_ne (tgt := 100) F.1 F.2.1 dX3_hush_69 (by decide) (fun k10 => ?_) (fun k10 => ?_)
        · refine lv_aload_n F.1 F.2.1 dX3_hush_100 rfl (lv_at hl 0 rfl) ?_
          refine lv_ldc (v := (-1000000001)) F.1 F.2.1 F.2.2.2.1 (F.2.2.2.2 _ (mm 5 rfl)) dX3_hush_101 ?_
          refine g_goI (wr := [(h, .inr (2, [.int mi, .int fo, .int wi, .int sp, .ref qn, .int (nI P), .ref qk, .ref qp, .ref qq, .ref qc, .int wa]))]) (g_runV (As := [.int (-1000000001)]) (rest := []) F hX hP hD hS hA (c_X3_found l E x fx qf fd (-1000000001) 0 (by first | assumption | rfl) (by decide +kernel) (by decide) H.size) (cwV 1 F.2.2.2.2 gX3_hush_X3_found rfl rfl rfl (by decide +kernel) ⟨Nat.le_of_ble_eq_true rfl, Nat.le_of_ble_eq_true rfl⟩) [0, 2] rfl rfl (q0 := 0) (ci := 3) rfl rfl rfl hl.1 rfl (Nat.le_of_ble_eq_true rfl) dX3_hush_103 ⟨Nat.le_refl _, Nat.le_refl _⟩) hP hD hS hA [0, 2] [1] rfl rfl rfl (by decide) (fun r _ H locs hq hP hD hS => ?_)
          have hP : va_P (eD E) vwCl [(x, .inr (3, fx)), (h, .inr (2, [.int mi, .int fo, .int wi, .int sp, .ref qn, .int (nI P), .ref qk, .ref qp, .ref qq, .ref qc, .int wa])), (qf, .inl (eI E, 7, .inl (fn fd 0)))] H := hP.sub [1, 0, 2] rfl
          have hD : va_D A [(x, .inr (3, fx)), (h, .inr (2, [.int mi, .int fo, .int wi, .int sp, .ref qn, .int (nI P), .ref qk, .ref qp, .ref qq, .ref qc, .int wa])), (qf, .inl (eI E, 7, .inl (fn fd 0)))] := hD.sub [1, 0, 2] (by decide) rfl
          subst hq
          refine lv_istore_n (lv' := [(3, .int (-1000000001)), (0, .ref x), (1, .int a1), (2, .int a2)]) F.1 F.2.1 dX3_hush_106 rfl hl (by decide) rfl (fun ls hl => ?_)
          refine lv_iload_n F.1 F.2.1 dX3_hush_107 rfl (lv_at hl 0 rfl) ?_
          exact g_reti F hr hlk (vp_nar_int _) hS hP hD ((fo, wi, sp, fn fd 0)) (rfl) (by first | (simp [cn_hush, k1, k8, k9, k10]; done) | (exfalso; simp_all)) dX3_hush_108
        · refine lv_iload_n F.1 F.2.1 dX3_hush_72 rfl (lv_at hl 2 rfl) ?_
          refine lv_iconst (v := 1) F.1 F.2.1 dX3_hush_73 (by decide) ?_
          refine lv_iconst (v := 5) F.1 F.2.1 dX3_hush_74 (by decide) ?_
          refine g_goIr (g_runS (As := [.int a2, .int 1, .int 5]) (rest := []) F hX hP hD hS hA (c_X3_isWithin l E a2 1 5 H.size) (va_cwS 3 F.2.2.2.2 gX3_hush_X3_isWithin rfl rfl rfl (by decide +kernel) ⟨Nat.le_of_ble_eq_true rfl, Nat.le_of_ble_eq_true rfl⟩) [] rfl rfl rfl hl.1 rfl (Nat.le_of_ble_eq_true rfl) dX3_hush_75 ⟨Nat.le_refl _, Nat.le_refl _⟩) hP hD hS hA [] rfl (fun r _ H locs hq hP hS => ?_)
          subst hq
          refine g_beq (tgt := 100) F dX3_hush_78 (by decide) (fun k11 => ?_) (fun k11 => ?_)
          · refine lv_aload_n F.1 F.2.1 dX3_hush_100 rfl (lv_at hl 0 rfl) ?_
            refine lv_ldc (v := (-1000000001)) F.1 F.2.1 F.2.2.2.1 (F.2.2.2.2 _ (mm 5 rfl)) dX3_hush_101 ?_
            refine g_goI (wr := [(h, .inr (2, [.int mi, .int fo, .int wi, .int sp, .ref qn, .int (nI P), .ref qk, .ref qp, .ref qq, .ref qc, .int wa]))]) (g_runV (As := [.int (-1000000001)]) (rest := []) F hX hP hD hS hA (c_X3_found l E x fx qf fd (-1000000001) 0 (by first | assumption | rfl) (by decide +kernel) (by decide) H.size) (cwV 1 F.2.2.2.2 gX3_hush_X3_found rfl rfl rfl (by decide +kernel) ⟨Nat.le_of_ble_eq_true rfl, Nat.le_of_ble_eq_true rfl⟩) [0, 2] rfl rfl (q0 := 0) (ci := 3) rfl rfl rfl hl.1 rfl (Nat.le_of_ble_eq_true rfl) dX3_hush_103 ⟨Nat.le_refl _, Nat.le_refl _⟩) hP hD hS hA [0, 2] [1] rfl rfl rfl (by decide) (fun r _ H locs hq hP hD hS => ?_)
            have hP : va_P (eD E) vwCl [(x, .inr (3, fx)), (h, .inr (2, [.int mi, .int fo, .int wi, .int sp, .ref qn, .int (nI P), .ref qk, .ref qp, .ref qq, .ref qc, .int wa])), (qf, .inl (eI E, 7, .inl (fn fd 0)))] H := hP.sub [1, 0, 2] rfl
            have hD : va_D A [(x, .inr (3, fx)), (h, .inr (2, [.int mi, .int fo, .int wi, .int sp, .ref qn, .int (nI P), .ref qk, .ref qp, .ref qq, .ref qc, .int wa])), (qf, .inl (eI E, 7, .inl (fn fd 0)))] := hD.sub [1, 0, 2] (by decide) rfl
            subst hq
            refine lv_istore_n (lv' := [(3, .int (-1000000001)), (0, .ref x), (1, .int a1), (2, .int a2)]) F.1 F.2.1 dX3_hush_106 rfl hl (by decide) rfl (fun ls hl => ?_)
            refine lv_iload_n F.1 F.2.1 dX3_hush_107 rfl (lv_at hl 0 rfl) ?_
            exact g_reti F hr hlk (vp_nar_int _) hS hP hD ((fo, wi, sp, fn fd 0)) (rfl) (by first | (simp [cn_hush, k1, k8, k9, k10, k11]; done) | (exfalso; simp_all)) dX3_hush_108
          · refine lv_aload_n F.1 F.2.1 dX3_hush_81 rfl (lv_at hl 0 rfl) ?_
            refine g_get F hX hP hin3 0 rfl rfl 0 (by decide) (mm 1 rfl) hx0 dX3_hush_82 ?_
            refine g_get F hX hP hin2 1 rfl rfl 3 (by decide) (mm 4 rfl) rfl dX3_hush_85 ?_
            refine lv_istore_n (lv' := [(3, .int sp), (0, .ref x), (1, .int a1), (2, .int a2)]) F.1 F.2.1 dX3_hush_88 rfl hl (by decide) rfl (fun ls hl => ?_)
            refine lv_aload_n F.1 F.2.1 dX3_hush_89 rfl (lv_at hl 1 rfl) ?_
            refine g_get F hX hP hin3 0 rfl rfl 0 (by decide) (mm 1 rfl) hx0 dX3_hush_90 ?_
            refine lv_iload_n F.1 F.2.1 dX3_hush_93 rfl (lv_at hl 3 rfl) ?_
            refine g_put F hX hP hD hS hin2 tyX2 tyX2_ok nmX2 1 rfl rfl 3 (by decide) (mm 4 rfl) rfl (rfl) (rfl) (Nat.le_of_ble_eq_true rfl) dX3_hush_94 (fun H locs hP hD hS => ?_)
            have hP : va_P (eD E) vwCl [(x, .inr (3, fx)), (h, .inr (2, [.int mi, .int fo, .int wi, .int a2, .ref qn, .int (nI P), .ref qk, .ref qp, .ref qq, .ref qc, .int wa])), (qf, .inl (eI E, 7, .inl fd))] H := hP
            have hD : va_D A [(x, .inr (3, fx)), (h, .inr (2, [.int mi, .int fo, .int wi, .int a2, .ref qn, .int (nI P), .ref qk, .ref qp, .ref qq, .ref qc, .int wa])), (qf, .inl (eI E, 7, .inl fd))] := hD
            refine lv_goto (tgt := 107) F.1 F.2.1 dX3_hush_97 (by decide) ?_
            refine lv_iload_n F.1 F.2.1 dX3_hush_107 rfl (lv_at hl 0 rfl) ?_
            exact g_reti F hr hlk (vp_nar_int _) hS hP hD ((fo, wi, a2, fd)) (rfl) (by first | (simp [cn_hush, k1, k8, k9, k10, k11]; done) | (exfalso; simp_all)) dX3_hush_108
      · refine lv_iload_n F.1 F.2.1 dX3_hush_38 rfl (lv_at hl 2 rfl) ?_
        refine lv_iconst (v := 0) F.1 F.2.1 dX3_hush_39 (by decide) ?_
        refine lv_bipush (v := 10) F.1 F.2.1 dX3_hush_40 (by decide) ?_
        refine g_goIr (g_runS (As := [.int a2, .int 0, .int 10]) (rest := []) F hX hP hD hS hA (c_X3_isWithin l E a2 0 10 H.size) (va_cwS 3 F.2.2.2.2 gX3_hush_X3_isWithin rfl rfl rfl (by decide +kernel) ⟨Nat.le_of_ble_eq_true rfl, Nat.le_of_ble_eq_true rfl⟩) [] rfl rfl rfl hl.1 rfl (Nat.le_of_ble_eq_true rfl) dX3_hush_42 ⟨Nat.le_refl _, Nat.le_refl _⟩) hP hD hS hA [] rfl (fun r _ H locs hq hP hS => ?_)
        subst hq
        refine g_beq (tgt := 67) F dX3_hush_45 (by decide) (fun k12 => ?_) (fun k12 => ?_)
        · refine lv_iload_n F.1 F.2.1 dX3_hush_67 rfl (lv_at hl 1 rfl) ?_
          refine lv_iconst (v := 2) F.1 F.2.1 dX3_hush_68 (by decide) ?_
          refine lv_icmp_ne (tgt := 100) F.1 F.2.1 dX3_hush_69 (by decide) (fun k13 => ?_) (fun k13 => ?_)
          · refine lv_aload_n F.1 F.2.1 dX3_hush_100 rfl (lv_at hl 0 rfl) ?_
            refine lv_ldc (v := (-1000000001)) F.1 F.2.1 F.2.2.2.1 (F.2.2.2.2 _ (mm 5 rfl)) dX3_hush_101 ?_
            refine g_goI (wr := [(h, .inr (2, [.int mi, .int fo, .int wi, .int sp, .ref qn, .int (nI P), .ref qk, .ref qp, .ref qq, .ref qc, .int wa]))]) (g_runV (As := [.int (-1000000001)]) (rest := []) F hX hP hD hS hA (c_X3_found l E x fx qf fd (-1000000001) 0 (by first | assumption | rfl) (by decide +kernel) (by decide) H.size) (cwV 1 F.2.2.2.2 gX3_hush_X3_found rfl rfl rfl (by decide +kernel) ⟨Nat.le_of_ble_eq_true rfl, Nat.le_of_ble_eq_true rfl⟩) [0, 2] rfl rfl (q0 := 0) (ci := 3) rfl rfl rfl hl.1 rfl (Nat.le_of_ble_eq_true rfl) dX3_hush_103 ⟨Nat.le_refl _, Nat.le_refl _⟩) hP hD hS hA [0, 2] [1] rfl rfl rfl (by decide) (fun r _ H locs hq hP hD hS => ?_)
            have hP : va_P (eD E) vwCl [(x, .inr (3, fx)), (h, .inr (2, [.int mi, .int fo, .int wi, .int sp, .ref qn, .int (nI P), .ref qk, .ref qp, .ref qq, .ref qc, .int wa])), (qf, .inl (eI E, 7, .inl (fn fd 0)))] H := hP.sub [1, 0, 2] rfl
            have hD : va_D A [(x, .inr (3, fx)), (h, .inr (2, [.int mi, .int fo, .int wi, .int sp, .ref qn, .int (nI P), .ref qk, .ref qp, .ref qq, .ref qc, .int wa])), (qf, .inl (eI E, 7, .inl (fn fd 0)))] := hD.sub [1, 0, 2] (by decide) rfl
            subst hq
            refine lv_istore_n (lv' := [(3, .int (-1000000001)), (0, .ref x), (1, .int a1), (2, .int a2)]) F.1 F.2.1 dX3_hush_106 rfl hl (by decide) rfl (fun ls hl => ?_)
            refine lv_iload_n F.1 F.2.1 dX3_hush_107 rfl (lv_at hl 0 rfl) ?_
            exact g_reti F hr hlk (vp_nar_int _) hS hP hD ((fo, wi, sp, fn fd 0)) (rfl) (by first | (simp [cn_hush, k1, k8, k9, k12, k13]; done) | (exfalso; simp_all)) dX3_hush_108
          · refine lv_iload_n F.1 F.2.1 dX3_hush_72 rfl (lv_at hl 2 rfl) ?_
            refine lv_iconst (v := 1) F.1 F.2.1 dX3_hush_73 (by decide) ?_
            refine lv_iconst (v := 5) F.1 F.2.1 dX3_hush_74 (by decide) ?_
            refine g_goIr (g_runS (As := [.int a2, .int 1, .int 5]) (rest := []) F hX hP hD hS hA (c_X3_isWithin l E a2 1 5 H.size) (va_cwS 3 F.2.2.2.2 gX3_hush_X3_isWithin rfl rfl rfl (by decide +kernel) ⟨Nat.le_of_ble_eq_true rfl, Nat.le_of_ble_eq_true rfl⟩) [] rfl rfl rfl hl.1 rfl (Nat.le_of_ble_eq_true rfl) dX3_hush_75 ⟨Nat.le_refl _, Nat.le_refl _⟩) hP hD hS hA [] rfl (fun r _ H locs hq hP hS => ?_)
            subst hq
            refine g_beq (tgt := 100) F dX3_hush_78 (by decide) (fun k14 => ?_) (fun k14 => ?_)
            · refine lv_aload_n F.1 F.2.1 dX3_hush_100 rfl (lv_at hl 0 rfl) ?_
              refine lv_ldc (v := (-1000000001)) F.1 F.2.1 F.2.2.2.1 (F.2.2.2.2 _ (mm 5 rfl)) dX3_hush_101 ?_
              refine g_goI (wr := [(h, .inr (2, [.int mi, .int fo, .int wi, .int sp, .ref qn, .int (nI P), .ref qk, .ref qp, .ref qq, .ref qc, .int wa]))]) (g_runV (As := [.int (-1000000001)]) (rest := []) F hX hP hD hS hA (c_X3_found l E x fx qf fd (-1000000001) 0 (by first | assumption | rfl) (by decide +kernel) (by decide) H.size) (cwV 1 F.2.2.2.2 gX3_hush_X3_found rfl rfl rfl (by decide +kernel) ⟨Nat.le_of_ble_eq_true rfl, Nat.le_of_ble_eq_true rfl⟩) [0, 2] rfl rfl (q0 := 0) (ci := 3) rfl rfl rfl hl.1 rfl (Nat.le_of_ble_eq_true rfl) dX3_hush_103 ⟨Nat.le_refl _, Nat.le_refl _⟩) hP hD hS hA [0, 2] [1] rfl rfl rfl (by decide) (fun r _ H locs hq hP hD hS => ?_)
              have hP : va_P (eD E) vwCl [(x, .inr (3, fx)), (h, .inr (2, [.int mi, .int fo, .int wi, .int sp, .ref qn, .int (nI P), .ref qk, .ref qp, .ref qq, .ref qc, .int wa])), (qf, .inl (eI E, 7, .inl (fn fd 0)))] H := hP.sub [1, 0, 2] rfl
              have hD : va_D A [(x, .inr (3, fx)), (h, .inr (2, [.int mi, .int fo, .int wi, .int sp, .ref qn, .int (nI P), .ref qk, .ref qp, .ref qq, .ref qc, .int wa])), (qf, .inl (eI E, 7, .inl (fn fd 0)))] := hD.sub [1, 0, 2] (by decide) rfl
              subst hq
              refine lv_istore_n (lv' := [(3, .int (-1000000001)), (0, .ref x), (1, .int a1), (2, .int a2)]) F.1 F.2.1 dX3_hush_106 rfl hl (by decide) rfl (fun ls hl => ?_)
              refine lv_iload_n F.1 F.2.1 dX3_hush_107 rfl (lv_at hl 0 rfl) ?_
              exact g_reti F hr hlk (vp_nar_int _) hS hP hD ((fo, wi, sp, fn fd 0)) (rfl) (by first | (simp [cn_hush, k1, k8, k9, k12, k13, k14]; done) | (exfalso; simp_all)) dX3_hush_108
            · refine lv_aload_n F.1 F.2.1 dX3_hush_81 rfl (lv_at hl 0 rfl) ?_
              refine g_get F hX hP hin3 0 rfl rfl 0 (by decide) (mm 1 rfl) hx0 dX3_hush_82 ?_
              refine g_get F hX hP hin2 1 rfl rfl 3 (by decide) (mm 4 rfl) rfl dX3_hush_85 ?_
              refine lv_istore_n (lv' := [(3, .int sp), (0, .ref x), (1, .int a1), (2, .int a2)]) F.1 F.2.1 dX3_hush_88 rfl hl (by decide) rfl (fun ls hl => ?_)
              refine lv_aload_n F.1 F.2.1 dX3_hush_89 rfl (lv_at hl 1 rfl) ?_
              refine g_get F hX hP hin3 0 rfl rfl 0 (by decide) (mm 1 rfl) hx0 dX3_hush_90 ?_
              refine lv_iload_n F.1 F.2.1 dX3_hush_93 rfl (lv_at hl 3 rfl) ?_
              refine g_put F hX hP hD hS hin2 tyX2 tyX2_ok nmX2 1 rfl rfl 3 (by decide) (mm 4 rfl) rfl (rfl) (rfl) (Nat.le_of_ble_eq_true rfl) dX3_hush_94 (fun H locs hP hD hS => ?_)
              have hP : va_P (eD E) vwCl [(x, .inr (3, fx)), (h, .inr (2, [.int mi, .int fo, .int wi, .int a2, .ref qn, .int (nI P), .ref qk, .ref qp, .ref qq, .ref qc, .int wa])), (qf, .inl (eI E, 7, .inl fd))] H := hP
              have hD : va_D A [(x, .inr (3, fx)), (h, .inr (2, [.int mi, .int fo, .int wi, .int a2, .ref qn, .int (nI P), .ref qk, .ref qp, .ref qq, .ref qc, .int wa])), (qf, .inl (eI E, 7, .inl fd))] := hD
              refine lv_goto (tgt := 107) F.1 F.2.1 dX3_hush_97 (by decide) ?_
              refine lv_iload_n F.1 F.2.1 dX3_hush_107 rfl (lv_at hl 0 rfl) ?_
              exact g_reti F hr hlk (vp_nar_int _) hS hP hD ((fo, wi, a2, fd)) (rfl) (by first | (simp [cn_hush, k1, k8, k9, k12, k13, k14]; done) | (exfalso; simp_all)) dX3_hush_108
        · refine lv_aload_n F.1 F.2.1 dX3_hush_48 rfl (lv_at hl 0 rfl) ?_
          refine g_get F hX hP hin3 0 rfl rfl 0 (by decide) (mm 1 rfl) hx0 dX3_hush_49 ?_
          refine g_get F hX hP hin2 1 rfl rfl 2 (by decide) (mm 3 rfl) rfl dX3_hush_52 ?_
          refine lv_istore_n (lv' := [(3, .int wi), (0, .ref x), (1, .int a1), (2, .int a2)]) F.1 F.2.1 dX3_hush_55 rfl hl (by decide) rfl (fun ls hl => ?_)
          refine lv_aload_n F.1 F.2.1 dX3_hush_56 rfl (lv_at hl 1 rfl) ?_
          refine g_get F hX hP hin3 0 rfl rfl 0 (by decide) (mm 1 rfl) hx0 dX3_hush_57 ?_
          refine lv_iload_n F.1 F.2.1 dX3_hush_60 rfl (lv_at hl 3 rfl) ?_
          refine g_put F hX hP hD hS hin2 tyX2 tyX2_ok nmX2 1 rfl rfl 2 (by decide) (mm 3 rfl) rfl (rfl) (rfl) (Nat.le_of_ble_eq_true rfl) dX3_hush_61 (fun H locs hP hD hS => ?_)
          have hP : va_P (eD E) vwCl [(x, .inr (3, fx)), (h, .inr (2, [.int mi, .int fo, .int a2, .int sp, .ref qn, .int (nI P), .ref qk, .ref qp, .ref qq, .ref qc, .int wa])), (qf, .inl (eI E, 7, .inl fd))] H := hP
          have hD : va_D A [(x, .inr (3, fx)), (h, .inr (2, [.int mi, .int fo, .int a2, .int sp, .ref qn, .int (nI P), .ref qk, .ref qp, .ref qq, .ref qc, .int wa])), (qf, .inl (eI E, 7, .inl fd))] := hD
          refine lv_goto (tgt := 107) F.1 F.2.1 dX3_hush_64 (by decide) ?_
          refine lv_iload_n F.1 F.2.1 dX3_hush_107 rfl (lv_at hl 0 rfl) ?_
          exact g_reti F hr hlk (vp_nar_int _) hS hP hD ((fo, a2, sp, fd)) (rfl) (by first | (simp [cn_hush, k1, k8, k9, k12]; done) | (exfalso; simp_all)) dX3_hush_108
    · refine lv_aload_n F.1 F.2.1 dX3_hush_14 rfl (lv_at hl 0 rfl) ?_
      refine g_get F hX hP hin3 0 rfl rfl 0 (by decide) (mm 1 rfl) hx0 dX3_hush_15 ?_
      refine g_get F hX hP hin2 1 rfl rfl 1 (by decide) (mm 2 rfl) rfl dX3_hush_18 ?_
      refine lv_istore_n (lv' := [(3, .int fo), (0, .ref x), (1, .int a1), (2, .int a2)]) F.1 F.2.1 dX3_hush_21 rfl hl (by decide) rfl (fun ls hl => ?_)
      refine lv_aload_n F.1 F.2.1 dX3_hush_22 rfl (lv_at hl 1 rfl) ?_
      refine g_get F hX hP hin3 0 rfl rfl 0 (by decide) (mm 1 rfl) hx0 dX3_hush_23 ?_
      refine lv_iload_n F.1 F.2.1 dX3_hush_26 rfl (lv_at hl 3 rfl) ?_
      refine g_put F hX hP hD hS hin2 tyX2 tyX2_ok nmX2 1 rfl rfl 1 (by decide) (mm 2 rfl) rfl (rfl) (rfl) (Nat.le_of_ble_eq_true rfl) dX3_hush_27 (fun H locs hP hD hS => ?_)
      have hP : va_P (eD E) vwCl [(x, .inr (3, fx)), (h, .inr (2, [.int mi, .int a2, .int wi, .int sp, .ref qn, .int (nI P), .ref qk, .ref qp, .ref qq, .ref qc, .int wa])), (qf, .inl (eI E, 7, .inl fd))] H := hP
      have hD : va_D A [(x, .inr (3, fx)), (h, .inr (2, [.int mi, .int a2, .int wi, .int sp, .ref qn, .int (nI P), .ref qk, .ref qp, .ref qq, .ref qc, .int wa])), (qf, .inl (eI E, 7, .inl fd))] := hD
      refine lv_goto (tgt := 107) F.1 F.2.1 dX3_hush_30 (by decide) ?_
      refine lv_iload_n F.1 F.2.1 dX3_hush_107 rfl (lv_at hl 0 rfl) ?_
      exact g_reti F hr hlk (vp_nar_int _) hS hP hD ((a2, wi, sp, fd)) (rfl) (by first | (simp [cn_hush, k1, k8]; done) | (exfalso; simp_all)) dX3_hush_108
def cn_house (mi fo wi sp : Int32) (P : Nat) (no pl fd : Nat → Int32) (a1 a2 : Int32) : Int32 × (Nat → Int32) := if inR a1 0 29 = true then (if a2 = 0 then (no (ix a1), fd) else if a2 = 1 then (bi (tk (edC mi fo wi sp) wi a1), fd) else if a2 = 2 then (whoC (fun j => decide (pl j = a1)) P, fd) else (-1000000001, fn fd 0)) else (-1000000001, fn fd 0)
set_option maxHeartbeats 4000000 in
set_option maxRecDepth 100000 in
theorem c_X3_house (l : Launch) (E : gE) (x : Nat) (fx : List Value) (qf : Nat) (h : Nat) (mi : Int32) (fo : Int32) (wi : Int32) (sp : Int32) (P : Nat) (wa : Int32) (qn : Nat) (qk : Nat) (qp : Nat) (qq : Nat) (qc : Nat) (no : Nat → Int32) (pl : Nat → Int32) (fd : Nat → Int32) (a1 : Int32) (a2 : Int32) (hx0 : fx[0]? = some (.ref h)) (hx5 : fx[5]? = some (.ref qf)) (hP8 : P ≤ 8) : gI l yX3_house wsX3_house ({ frames := 2, cells := 0, slots := 0, locals := 44 }) E [(x, .inr (3, fx)), (h, .inr (2, [.int mi, .int fo, .int wi, .int sp, .ref qn, .int (nI P), .ref qk, .ref qp, .ref qq, .ref qc, .int wa])), (qn, .inl (eI E, 30, .inl no)), (qp, .inl (eI E, 8, .inl pl)), (qf, .inl (eI E, 7, .inl fd))] (fun u : (Nat → Int32) => [(x, .inr (3, fx)), (h, .inr (2, [.int mi, .int fo, .int wi, .int sp, .ref qn, .int (nI P), .ref qk, .ref qp, .ref qq, .ref qc, .int wa])), (qn, .inl (eI E, 30, .inl no)), (qp, .inl (eI E, 8, .inl pl)), (qf, .inl (eI E, 7, .inl u))]) [.ref x, .int a1, .int a2] (fun (r : Int32) (u : (Nat → Int32)) => (r, u) = cn_house mi fo wi sp P no pl fd a1 a2) := by
  have hin2 : ∀ w ∈ wsX20, w ∈ wsX3_house := (fun _ h => (List.mem_cons_of_mem _ (List.mem_append_right _ h)))
  have hin3 : ∀ w ∈ wsX30, w ∈ wsX3_house := (fun _ h => (List.mem_cons_of_mem _ (List.mem_append_left _ (List.mem_append_right _ h))))
  refine gI.of (cc := cX3_house) (maxL := 3) (by decide) rfl (Nat.le_of_ble_eq_true rfl) ?_
  intro pG eG sG mG below meth cG A ls H locs F hr hlk hX hP hD hA hS hl
  have hl : lv_has ls 3 [(0, .ref x), (1, .int a1), (2, .int a2)] := hl
  refine lv_iload_n F.1 F.2.1 dX3_house_0 rfl (lv_at hl 1 rfl) ?_
  refine g_goIr (g_runS (As := [.int a1]) (rest := []) F hX hP hD hS hA (c_X3_isHouse l E a1 H.size) (va_cwS 1 F.2.2.2.2 gX3_house_X3_isHouse rfl rfl rfl (by decide +kernel) ⟨Nat.le_of_ble_eq_true rfl, Nat.le_of_ble_eq_true rfl⟩) [] rfl rfl rfl hl.1 rfl (Nat.le_of_ble_eq_true rfl) dX3_house_1 ⟨Nat.le_refl _, Nat.le_refl _⟩) hP hD hS hA [] rfl (fun r _ H locs hq hP hS => ?_)
  subst hq
  refine g_bne (tgt := 14) F dX3_house_4 (by decide) (fun k1 => ?_) (fun k1 => ?_)
  · refine lv_iload_n F.1 F.2.1 dX3_house_14 rfl (lv_at hl 2 rfl) ?_
    by_cases k2 : a2 = 0
    · refine g_top 0 k2 ?_
      refine lv_tableIn (tgt := 40) F.1 F.2.1 dX3_house_15 (by decide) (by decide) rfl (by decide) ?_
      obtain ⟨e_a1, b_a1⟩ := ix_of 29 k1 (by decide) (by decide)
      have hl : lv_has ls 3 [(0, .ref x), (1, .int (nI (ix a1))), (2, .int a2)] := by rw [← e_a1]; exact hl
      refine lv_aload_n F.1 F.2.1 dX3_house_40 rfl (lv_at hl 0 rfl) ?_
      refine g_get F hX hP hin3 0 rfl rfl 0 (by decide) (mm 2 rfl) hx0 dX3_house_41 ?_
      refine g_get F hX hP hin2 1 rfl rfl 4 (by decide) (mm 3 rfl) rfl dX3_house_44 ?_
      refine lv_iload_n F.1 F.2.1 dX3_house_47 rfl (lv_at hl 1 rfl) ?_
      refine g_iald F hX hP 2 rfl (j := (ix a1)) (rfl) (by omega) (by decide) dX3_house_48 ?_
      exact g_reti F hr hlk (vp_nar_int _) hS hP hD (fd) (rfl) (by unfold cn_house; (try simp only [k1, and_self, true_and, and_true, if_true, Bool.false_eq_true, false_and, and_false, if_false]); all_goals simp [k1, k2]) dX3_house_49
    by_cases k3 : a2 = 1
    · refine g_top 1 k3 ?_
      refine lv_tableIn (tgt := 50) F.1 F.2.1 dX3_house_15 (by decide) (by decide) rfl (by decide) ?_
      refine lv_aload_n F.1 F.2.1 dX3_house_50 rfl (lv_at hl 0 rfl) ?_
      refine g_get F hX hP hin3 0 rfl rfl 0 (by decide) (mm 2 rfl) hx0 dX3_house_51 ?_
      refine lv_aload_n F.1 F.2.1 dX3_house_54 rfl (lv_at hl 0 rfl) ?_
      refine g_get F hX hP hin3 0 rfl rfl 0 (by decide) (mm 2 rfl) hx0 dX3_house_55 ?_
      refine g_goIr (g_runV (As := []) (rest := [.ref h]) F hX hP hD hS hA (c_X2_edge l E h mi fo wi sp P wa qn qk qp qq qc H.size) (cwV 0 F.2.2.2.2 gX3_house_X2_edge rfl rfl rfl (by decide +kernel) ⟨Nat.le_of_ble_eq_true rfl, Nat.le_of_ble_eq_true rfl⟩) [1] rfl rfl (q0 := 1) (ci := 2) rfl rfl rfl hl.1 rfl (Nat.le_of_ble_eq_true rfl) dX3_house_58 ⟨Nat.le_refl _, Nat.le_refl _⟩) hP hD hS hA [1] rfl (fun r _ H locs hq hP hS => ?_)
      subst hq
      refine lv_iload_n F.1 F.2.1 dX3_house_61 rfl (lv_at hl 1 rfl) ?_
      refine g_goIr (g_runV (As := [.int (edC mi fo wi sp), .int a1]) (rest := []) F hX hP hD hS hA (c_X2_takes l E h mi fo wi sp P wa qn qk qp qq qc (edC mi fo wi sp) a1 H.size) (cwV 2 F.2.2.2.2 gX3_house_X2_takes rfl rfl rfl (by decide +kernel) ⟨Nat.le_of_ble_eq_true rfl, Nat.le_of_ble_eq_true rfl⟩) [1] rfl rfl (q0 := 1) (ci := 2) rfl rfl rfl hl.1 rfl (Nat.le_of_ble_eq_true rfl) dX3_house_62 ⟨Nat.le_refl _, Nat.le_refl _⟩) hP hD hS hA [1] rfl (fun r _ H locs hq hP hS => ?_)
      subst hq
      have jn73 : ∀ (H : Heap) (locs : List Loc) (ls : Array Slot), va_P (eD E) vwCl [(x, .inr (3, fx)), (h, .inr (2, [.int mi, .int fo, .int wi, .int sp, .ref qn, .int (nI P), .ref qk, .ref qp, .ref qq, .ref qc, .int wa])), (qn, .inl (eI E, 30, .inl no)), (qp, .inl (eI E, 8, .inl pl)), (qf, .inl (eI E, 7, .inl fd))] H → va_D A [(x, .inr (3, fx)), (h, .inr (2, [.int mi, .int fo, .int wi, .int sp, .ref qn, .int (nI P), .ref qk, .ref qp, .ref qq, .ref qc, .int wa])), (qn, .inl (eI E, 30, .inl no)), (qp, .inl (eI E, 8, .inl pl)), (qf, .inl (eI E, 7, .inl fd))] → va_S A sG.heap H locs → lv_has ls 3 [(0, .ref x), (1, .int a1), (2, .int a2)] → W pG l eG { frames := 2, cells := 0, slots := 0, locals := 44 } sG mG [.ref x, .int a1, .int a2].toArray below meth cG H locs 0 0 (MQ below (va_Qi (fun (r : Int32) (u : (Nat → Int32)) => (r, u) = cn_house mi fo wi sp P no pl fd a1 a2) (gR E (fun u : (Nat → Int32) => [(x, .inr (3, fx)), (h, .inr (2, [.int mi, .int fo, .int wi, .int sp, .ref qn, .int (nI P), .ref qk, .ref qp, .ref qq, .ref qc, .int wa])), (qn, .inl (eI E, 30, .inl no)), (qp, .inl (eI E, 8, .inl pl)), (qf, .inl (eI E, 7, .inl u))]) A) A) [.ref x, .int a1, .int a2].toArray sG 0 0 A) (F0 mG 73 ls [.int (bi (tk (edC mi fo wi sp) wi a1))]) := by
        intro H locs ls hP hD hS hl
        exact g_reti F hr hlk (vp_nar_int _) hS hP hD (fd) (rfl) (by unfold cn_house; (try simp only [k1, and_self, true_and, and_true, if_true, Bool.false_eq_true, false_and, and_false, if_false]); all_goals simp [k1, k2, k3]) dX3_house_73
      refine g_beq (tgt := 72) F dX3_house_65 (by decide) (fun k4 => ?_) (fun k4 => ?_)
      · refine lv_iconst (v := 0) F.1 F.2.1 dX3_house_72 (by decide) ?_
        refine g_top (bi (tk (edC mi fo wi sp) wi a1)) (by simp [bi, k4]) ?_
        exact jn73 _ _ _ hP hD hS (lv_sub hl [0, 1, 2] rfl)
      · refine lv_iconst (v := 1) F.1 F.2.1 dX3_house_68 (by decide) ?_
        refine lv_goto (tgt := 73) F.1 F.2.1 dX3_house_69 (by decide) ?_
        refine g_top (bi (tk (edC mi fo wi sp) wi a1)) (by simp [bi, k4]) ?_
        exact jn73 _ _ _ hP hD hS (lv_sub hl [0, 1, 2] rfl)
    by_cases k5 : a2 = 2
    · refine g_top 2 k5 ?_
      refine lv_tableIn (tgt := 74) F.1 F.2.1 dX3_house_15 (by decide) (by decide) rfl (by decide) ?_
      refine lv_aload_n F.1 F.2.1 dX3_house_74 rfl (lv_at hl 0 rfl) ?_
      refine g_get F hX hP hin3 0 rfl rfl 0 (by decide) (mm 2 rfl) hx0 dX3_house_75 ?_
      refine lv_iload_n F.1 F.2.1 dX3_house_78 rfl (lv_at hl 1 rfl) ?_
      refine g_goIr (g_runV (As := [.int a1]) (rest := []) F hX hP hD hS hA (c_X2_whoIsAt l E h mi fo wi sp P wa qn qk qp qq qc a1 pl (by assumption) H.size) (cwV 1 F.2.2.2.2 gX3_house_X2_whoIsAt rfl rfl rfl (by decide +kernel) ⟨Nat.le_of_ble_eq_true rfl, Nat.le_of_ble_eq_true rfl⟩) [1, 3] rfl rfl (q0 := 1) (ci := 2) rfl rfl rfl hl.1 rfl (Nat.le_of_ble_eq_true rfl) dX3_house_79 ⟨Nat.le_refl _, Nat.le_refl _⟩) hP hD hS hA [1, 3] rfl (fun r _ H locs hq hP hS => ?_)
      subst hq
      exact g_reti F hr hlk (vp_nar_int _) hS hP hD (fd) (rfl) (by unfold cn_house; (try simp only [k1, and_self, true_and, and_true, if_true, Bool.false_eq_true, false_and, and_false, if_false]); all_goals simp [k1, k2, k3, k5]) dX3_house_82
    refine lv_tableOut (tgt := 83) F.1 F.2.1 dX3_house_15 (t_out a2 0 2 (fun kk h1 h2 => by rcases (show kk = 0 ∨ kk = 1 ∨ kk = 2 by omega) with rfl | rfl | rfl <;> assumption)) (by decide) ?_
    refine lv_aload_n F.1 F.2.1 dX3_house_83 rfl (lv_at hl 0 rfl) ?_
    refine lv_ldc (v := (-1000000001)) F.1 F.2.1 F.2.2.2.1 (F.2.2.2.2 _ (mm 1 rfl)) dX3_house_84 ?_
    refine g_goI (wr := [(h, .inr (2, [.int mi, .int fo, .int wi, .int sp, .ref qn, .int (nI P), .ref qk, .ref qp, .ref qq, .ref qc, .int wa])), (qn, .inl (eI E, 30, .inl no)), (qp, .inl (eI E, 8, .inl pl))]) (g_runV (As := [.int (-1000000001)]) (rest := []) F hX hP hD hS hA (c_X3_found l E x fx qf fd (-1000000001) 0 (by first | assumption | rfl) (by decide +kernel) (by decide) H.size) (cwV 1 F.2.2.2.2 gX3_house_X3_found rfl rfl rfl (by decide +kernel) ⟨Nat.le_of_ble_eq_true rfl, Nat.le_of_ble_eq_true rfl⟩) [0, 4] rfl rfl (q0 := 0) (ci := 3) rfl rfl rfl hl.1 rfl (Nat.le_of_ble_eq_true rfl) dX3_house_86 ⟨Nat.le_refl _, Nat.le_refl _⟩) hP hD hS hA [0, 4] [1, 2, 3] rfl rfl rfl (by decide) (fun r _ H locs hq hP hD hS => ?_)
    have hP : va_P (eD E) vwCl [(x, .inr (3, fx)), (h, .inr (2, [.int mi, .int fo, .int wi, .int sp, .ref qn, .int (nI P), .ref qk, .ref qp, .ref qq, .ref qc, .int wa])), (qn, .inl (eI E, 30, .inl no)), (qp, .inl (eI E, 8, .inl pl)), (qf, .inl (eI E, 7, .inl (fn fd 0)))] H := hP.sub [3, 0, 1, 2, 4] rfl
    have hD : va_D A [(x, .inr (3, fx)), (h, .inr (2, [.int mi, .int fo, .int wi, .int sp, .ref qn, .int (nI P), .ref qk, .ref qp, .ref qq, .ref qc, .int wa])), (qn, .inl (eI E, 30, .inl no)), (qp, .inl (eI E, 8, .inl pl)), (qf, .inl (eI E, 7, .inl (fn fd 0)))] := hD.sub [3, 0, 1, 2, 4] (by decide) rfl
    subst hq
    exact g_reti F hr hlk (vp_nar_int _) hS hP hD (fn fd 0) (rfl) (by unfold cn_house; (try simp only [k1, and_self, true_and, and_true, if_true, Bool.false_eq_true, false_and, and_false, if_false]); all_goals simp [k1, k2, k3, k5]) dX3_house_89
  · refine lv_aload_n F.1 F.2.1 dX3_house_7 rfl (lv_at hl 0 rfl) ?_
    refine lv_ldc (v := (-1000000001)) F.1 F.2.1 F.2.2.2.1 (F.2.2.2.2 _ (mm 1 rfl)) dX3_house_8 ?_
    refine g_goI (wr := [(h, .inr (2, [.int mi, .int fo, .int wi, .int sp, .ref qn, .int (nI P), .ref qk, .ref qp, .ref qq, .ref qc, .int wa])), (qn, .inl (eI E, 30, .inl no)), (qp, .inl (eI E, 8, .inl pl))]) (g_runV (As := [.int (-1000000001)]) (rest := []) F hX hP hD hS hA (c_X3_found l E x fx qf fd (-1000000001) 0 (by first | assumption | rfl) (by decide +kernel) (by decide) H.size) (cwV 1 F.2.2.2.2 gX3_house_X3_found rfl rfl rfl (by decide +kernel) ⟨Nat.le_of_ble_eq_true rfl, Nat.le_of_ble_eq_true rfl⟩) [0, 4] rfl rfl (q0 := 0) (ci := 3) rfl rfl rfl hl.1 rfl (Nat.le_of_ble_eq_true rfl) dX3_house_10 ⟨Nat.le_refl _, Nat.le_refl _⟩) hP hD hS hA [0, 4] [1, 2, 3] rfl rfl rfl (by decide) (fun r _ H locs hq hP hD hS => ?_)
    have hP : va_P (eD E) vwCl [(x, .inr (3, fx)), (h, .inr (2, [.int mi, .int fo, .int wi, .int sp, .ref qn, .int (nI P), .ref qk, .ref qp, .ref qq, .ref qc, .int wa])), (qn, .inl (eI E, 30, .inl no)), (qp, .inl (eI E, 8, .inl pl)), (qf, .inl (eI E, 7, .inl (fn fd 0)))] H := hP.sub [3, 0, 1, 2, 4] rfl
    have hD : va_D A [(x, .inr (3, fx)), (h, .inr (2, [.int mi, .int fo, .int wi, .int sp, .ref qn, .int (nI P), .ref qk, .ref qp, .ref qq, .ref qc, .int wa])), (qn, .inl (eI E, 30, .inl no)), (qp, .inl (eI E, 8, .inl pl)), (qf, .inl (eI E, 7, .inl (fn fd 0)))] := hD.sub [3, 0, 1, 2, 4] (by decide) rfl
    subst hq
    exact g_reti F hr hlk (vp_nar_int _) hS hP hD (fn fd 0) (rfl) (by unfold cn_house; (try simp only [k1, and_self, true_and, and_true, if_true, Bool.false_eq_true, false_and, and_false, if_false]); all_goals simp [k1]) dX3_house_13
def ldC (mi fo wi sp : Int32) (P : Nat) (no ki pl : Nat → Int32) : Int32 := sumF (sumF 0 (fun g => bif tk (edC mi fo wi sp) wi (nI g) then 0 else no g) 30) (fun j => taC mi wi (ki j) (pl j) (edC mi fo wi sp)) P
def cn_now (mi fo wi sp : Int32) (P : Nat) (no ki pl fd : Nat → Int32) (a1 : Int32) : Int32 × (Nat → Int32) := if a1 = 0 then (mi, fd) else if a1 = 1 then (day mi, fd) else if a1 = 2 then ((if edC mi fo wi sp = -1 then 0 else 1 + edC mi fo wi sp), fd) else if a1 = 3 then (ldC mi fo wi sp P no ki pl, fd) else if a1 = 4 then (whoC (fun j => tk (edC mi fo wi sp) wi (pl j)) P, fd) else if a1 = 5 then (fo, fd) else if a1 = 6 then (wi, fd) else if a1 = 7 then (sp, fd) else (-1000000001, fn fd 0)
set_option maxHeartbeats 4000000 in
set_option maxRecDepth 100000 in
theorem c_X3_now (l : Launch) (E : gE) (x : Nat) (fx : List Value) (qf : Nat) (h : Nat) (mi : Int32) (fo : Int32) (wi : Int32) (sp : Int32) (P : Nat) (wa : Int32) (qn : Nat) (qk : Nat) (qp : Nat) (qq : Nat) (qc : Nat) (no : Nat → Int32) (ki : Nat → Int32) (pl : Nat → Int32) (fd : Nat → Int32) (a1 : Int32) (hx0 : fx[0]? = some (.ref h)) (hx5 : fx[5]? = some (.ref qf)) (hP8 : P ≤ 8) : gI l yX3_now wsX3_now ({ frames := 4, cells := 0, slots := 0, locals := 86 }) E [(x, .inr (3, fx)), (h, .inr (2, [.int mi, .int fo, .int wi, .int sp, .ref qn, .int (nI P), .ref qk, .ref qp, .ref qq, .ref qc, .int wa])), (qn, .inl (eI E, 30, .inl no)), (qk, .inl (eI E, 8, .inl ki)), (qp, .inl (eI E, 8, .inl pl)), (qf, .inl (eI E, 7, .inl fd))] (fun u : (Nat → Int32) => [(x, .inr (3, fx)), (h, .inr (2, [.int mi, .int fo, .int wi, .int sp, .ref qn, .int (nI P), .ref qk, .ref qp, .ref qq, .ref qc, .int wa])), (qn, .inl (eI E, 30, .inl no)), (qk, .inl (eI E, 8, .inl ki)), (qp, .inl (eI E, 8, .inl pl)), (qf, .inl (eI E, 7, .inl u))]) [.ref x, .int a1] (fun (r : Int32) (u : (Nat → Int32)) => (r, u) = cn_now mi fo wi sp P no ki pl fd a1) := by
  have hin2 : ∀ w ∈ wsX20, w ∈ wsX3_now := (fun _ h => (List.mem_cons_of_mem _ (List.mem_append_right _ h)))
  have hin3 : ∀ w ∈ wsX30, w ∈ wsX3_now := (fun _ h => (List.mem_cons_of_mem _ (List.mem_append_left _ (List.mem_append_right _ h))))
  refine gI.of (cc := cX3_now) (maxL := 2) (by decide) rfl (Nat.le_of_ble_eq_true rfl) ?_
  intro pG eG sG mG below meth cG A ls H locs F hr hlk hX hP hD hA hS hl
  have hl : lv_has ls 2 [(0, .ref x), (1, .int a1)] := hl
  refine lv_iload_n F.1 F.2.1 dX3_now_0 rfl (lv_at hl 1 rfl) ?_
  by_cases k1 : a1 = 0
  · refine g_top 0 k1 ?_
    refine lv_tableIn (tgt := 48) F.1 F.2.1 dX3_now_1 (by decide) (by decide) rfl (by decide) ?_
    refine lv_aload_n F.1 F.2.1 dX3_now_48 rfl (lv_at hl 0 rfl) ?_
    refine g_get F hX hP hin3 0 rfl rfl 0 (by decide) (mm 1 rfl) hx0 dX3_now_49 ?_
    refine g_get F hX hP hin2 1 rfl rfl 0 (by decide) (mm 2 rfl) rfl dX3_now_52 ?_
    exact g_reti F hr hlk (vp_nar_int _) hS hP hD (fd) (rfl) (by unfold cn_now; (try simp only [and_self, true_and, and_true, if_true, Bool.false_eq_true, false_and, and_false, if_false]); all_goals simp [ldC, k1]) dX3_now_55
  by_cases k2 : a1 = 1
  · refine g_top 1 k2 ?_
    refine lv_tableIn (tgt := 56) F.1 F.2.1 dX3_now_1 (by decide) (by decide) rfl (by decide) ?_
    refine lv_aload_n F.1 F.2.1 dX3_now_56 rfl (lv_at hl 0 rfl) ?_
    refine g_get F hX hP hin3 0 rfl rfl 0 (by decide) (mm 1 rfl) hx0 dX3_now_57 ?_
    refine g_goIr (g_runV (As := []) (rest := []) F hX hP hD hS hA (c_X2_minuteOfDay l E h mi fo wi sp P wa qn qk qp qq qc H.size) (cwV 0 F.2.2.2.2 gX3_now_X2_minuteOfDay rfl rfl rfl (by decide +kernel) ⟨Nat.le_of_ble_eq_true rfl, Nat.le_of_ble_eq_true rfl⟩) [1] rfl rfl (q0 := 1) (ci := 2) rfl rfl rfl hl.1 rfl (Nat.le_of_ble_eq_true rfl) dX3_now_60 ⟨Nat.le_refl _, Nat.le_refl _⟩) hP hD hS hA [1] rfl (fun r _ H locs hq hP hS => ?_)
    subst hq
    exact g_reti F hr hlk (vp_nar_int _) hS hP hD (fd) (rfl) (by unfold cn_now; (try simp only [and_self, true_and, and_true, if_true, Bool.false_eq_true, false_and, and_false, if_false]); all_goals simp [ldC, k1, k2]) dX3_now_63
  by_cases k3 : a1 = 2
  · refine g_top 2 k3 ?_
    refine lv_tableIn (tgt := 64) F.1 F.2.1 dX3_now_1 (by decide) (by decide) rfl (by decide) ?_
    refine lv_aload_n F.1 F.2.1 dX3_now_64 rfl (lv_at hl 0 rfl) ?_
    refine g_get F hX hP hin3 0 rfl rfl 0 (by decide) (mm 1 rfl) hx0 dX3_now_65 ?_
    refine g_goIr (g_runV (As := []) (rest := []) F hX hP hD hS hA (c_X2_edge l E h mi fo wi sp P wa qn qk qp qq qc H.size) (cwV 0 F.2.2.2.2 gX3_now_X2_edge rfl rfl rfl (by decide +kernel) ⟨Nat.le_of_ble_eq_true rfl, Nat.le_of_ble_eq_true rfl⟩) [1] rfl rfl (q0 := 1) (ci := 2) rfl rfl rfl hl.1 rfl (Nat.le_of_ble_eq_true rfl) dX3_now_68 ⟨Nat.le_refl _, Nat.le_refl _⟩) hP hD hS hA [1] rfl (fun r _ H locs hq hP hS => ?_)
    subst hq
    refine lv_iconst (v := (-1)) F.1 F.2.1 dX3_now_71 (by decide) ?_
    refine lv_icmp_ne (tgt := 79) F.1 F.2.1 dX3_now_72 (by decide) (fun k4 => ?_) (fun k4 => ?_)
    · refine lv_iconst (v := 1) F.1 F.2.1 dX3_now_79 (by decide) ?_
      refine lv_aload_n F.1 F.2.1 dX3_now_80 rfl (lv_at hl 0 rfl) ?_
      refine g_get F hX hP hin3 0 rfl rfl 0 (by decide) (mm 1 rfl) hx0 dX3_now_81 ?_
      refine g_goIr (g_runV (As := []) (rest := [.int 1]) F hX hP hD hS hA (c_X2_edge l E h mi fo wi sp P wa qn qk qp qq qc H.size) (cwV 0 F.2.2.2.2 gX3_now_X2_edge rfl rfl rfl (by decide +kernel) ⟨Nat.le_of_ble_eq_true rfl, Nat.le_of_ble_eq_true rfl⟩) [1] rfl rfl (q0 := 1) (ci := 2) rfl rfl rfl hl.1 rfl (Nat.le_of_ble_eq_true rfl) dX3_now_84 ⟨Nat.le_refl _, Nat.le_refl _⟩) hP hD hS hA [1] rfl (fun r _ H locs hq hP hS => ?_)
      subst hq
      refine lv_iadd F.1 F.2.1 dX3_now_87 ?_
      exact g_reti F hr hlk (vp_nar_int _) hS hP hD (fd) (rfl) (by unfold cn_now; (try simp only [and_self, true_and, and_true, if_true, Bool.false_eq_true, false_and, and_false, if_false]); all_goals simp [ldC, k1, k2, k3, k4]) dX3_now_88
    · refine lv_iconst (v := 0) F.1 F.2.1 dX3_now_75 (by decide) ?_
      refine lv_goto (tgt := 88) F.1 F.2.1 dX3_now_76 (by decide) ?_
      exact g_reti F hr hlk (vp_nar_int _) hS hP hD (fd) (rfl) (by unfold cn_now; (try simp only [and_self, true_and, and_true, if_true, Bool.false_eq_true, false_and, and_false, if_false]); all_goals simp [ldC, k1, k2, k3, k4]) dX3_now_88
  by_cases k5 : a1 = 3
  · refine g_top 3 k5 ?_
    refine lv_tableIn (tgt := 89) F.1 F.2.1 dX3_now_1 (by decide) (by decide) rfl (by decide) ?_
    refine lv_aload_n F.1 F.2.1 dX3_now_89 rfl (lv_at hl 0 rfl) ?_
    refine g_get F hX hP hin3 0 rfl rfl 0 (by decide) (mm 1 rfl) hx0 dX3_now_90 ?_
    refine g_goIr (g_runV (As := []) (rest := []) F hX hP hD hS hA (c_X2_loudness l E h mi fo wi sp P wa qn qk qp qq qc no ki pl (by assumption) H.size) (cwV 0 F.2.2.2.2 gX3_now_X2_loudness rfl rfl rfl (by decide +kernel) ⟨Nat.le_of_ble_eq_true rfl, Nat.le_of_ble_eq_true rfl⟩) [1, 2, 3, 4] rfl rfl (q0 := 1) (ci := 2) rfl rfl rfl hl.1 rfl (Nat.le_of_ble_eq_true rfl) dX3_now_93 ⟨Nat.le_refl _, Nat.le_refl _⟩) hP hD hS hA [1, 2, 3, 4] rfl (fun r _ H locs hq hP hS => ?_)
    subst hq
    exact g_reti F hr hlk (vp_nar_int _) hS hP hD (fd) (rfl) (by unfold cn_now; (try simp only [and_self, true_and, and_true, if_true, Bool.false_eq_true, false_and, and_false, if_false]); all_goals simp [ldC, k1, k2, k3, k5]) dX3_now_96
  by_cases k6 : a1 = 4
  · refine g_top 4 k6 ?_
    refine lv_tableIn (tgt := 97) F.1 F.2.1 dX3_now_1 (by decide) (by decide) rfl (by decide) ?_
    refine lv_aload_n F.1 F.2.1 dX3_now_97 rfl (lv_at hl 0 rfl) ?_
    refine g_get F hX hP hin3 0 rfl rfl 0 (by decide) (mm 1 rfl) hx0 dX3_now_98 ?_
    refine g_goIr (g_runV (As := []) (rest := []) F hX hP hD hS hA (c_X2_whoIsIn l E h mi fo wi sp P wa qn qk qp qq qc pl (by assumption) H.size) (cwV 0 F.2.2.2.2 gX3_now_X2_whoIsIn rfl rfl rfl (by decide +kernel) ⟨Nat.le_of_ble_eq_true rfl, Nat.le_of_ble_eq_true rfl⟩) [1, 4] rfl rfl (q0 := 1) (ci := 2) rfl rfl rfl hl.1 rfl (Nat.le_of_ble_eq_true rfl) dX3_now_101 ⟨Nat.le_refl _, Nat.le_refl _⟩) hP hD hS hA [1, 4] rfl (fun r _ H locs hq hP hS => ?_)
    subst hq
    exact g_reti F hr hlk (vp_nar_int _) hS hP hD (fd) (rfl) (by unfold cn_now; (try simp only [and_self, true_and, and_true, if_true, Bool.false_eq_true, false_and, and_false, if_false]); all_goals simp [ldC, k1, k2, k3, k5, k6]) dX3_now_104
  by_cases k7 : a1 = 5
  · refine g_top 5 k7 ?_
    refine lv_tableIn (tgt := 105) F.1 F.2.1 dX3_now_1 (by decide) (by decide) rfl (by decide) ?_
    refine lv_aload_n F.1 F.2.1 dX3_now_105 rfl (lv_at hl 0 rfl) ?_
    refine g_get F hX hP hin3 0 rfl rfl 0 (by decide) (mm 1 rfl) hx0 dX3_now_106 ?_
    refine g_get F hX hP hin2 1 rfl rfl 1 (by decide) (mm 3 rfl) rfl dX3_now_109 ?_
    exact g_reti F hr hlk (vp_nar_int _) hS hP hD (fd) (rfl) (by unfold cn_now; (try simp only [and_self, true_and, and_true, if_true, Bool.false_eq_true, false_and, and_false, if_false]); all_goals simp [ldC, k1, k2, k3, k5, k6, k7]) dX3_now_112
  by_cases k8 : a1 = 6
  · refine g_top 6 k8 ?_
    refine lv_tableIn (tgt := 113) F.1 F.2.1 dX3_now_1 (by decide) (by decide) rfl (by decide) ?_
    refine lv_aload_n F.1 F.2.1 dX3_now_113 rfl (lv_at hl 0 rfl) ?_
    refine g_get F hX hP hin3 0 rfl rfl 0 (by decide) (mm 1 rfl) hx0 dX3_now_114 ?_
    refine g_get F hX hP hin2 1 rfl rfl 2 (by decide) (mm 4 rfl) rfl dX3_now_117 ?_
    exact g_reti F hr hlk (vp_nar_int _) hS hP hD (fd) (rfl) (by unfold cn_now; (try simp only [and_self, true_and, and_true, if_true, Bool.false_eq_true, false_and, and_false, if_false]); all_goals simp [ldC, k1, k2, k3, k5, k6, k7, k8]) dX3_now_120
  by_cases k9 : a1 = 7
  · refine g_top 7 k9 ?_
    refine lv_tableIn (tgt := 121) F.1 F.2.1 dX3_now_1 (by decide) (by decide) rfl (by decide) ?_
    refine lv_aload_n F.1 F.2.1 dX3_now_121 rfl (lv_at hl 0 rfl) ?_
    refine g_get F hX hP hin3 0 rfl rfl 0 (by decide) (mm 1 rfl) hx0 dX3_now_122 ?_
    refine g_get F hX hP hin2 1 rfl rfl 3 (by decide) (mm 5 rfl) rfl dX3_now_125 ?_
    exact g_reti F hr hlk (vp_nar_int _) hS hP hD (fd) (rfl) (by unfold cn_now; (try simp only [and_self, true_and, and_true, if_true, Bool.false_eq_true, false_and, and_false, if_false]); all_goals simp [ldC, k1, k2, k3, k5, k6, k7, k8, k9]) dX3_now_128
  refine lv_tableOut (tgt := 129) F.1 F.2.1 dX3_now_1 (t_out a1 0 7 (fun kk h1 h2 => by rcases (show kk = 0 ∨ kk = 1 ∨ kk = 2 ∨ kk = 3 ∨ kk = 4 ∨ kk = 5 ∨ kk = 6 ∨ kk = 7 by omega) with rfl | rfl | rfl | rfl | rfl | rfl | rfl | rfl <;> assumption)) (by decide) ?_
  refine lv_aload_n F.1 F.2.1 dX3_now_129 rfl (lv_at hl 0 rfl) ?_
  refine lv_ldc (v := (-1000000001)) F.1 F.2.1 F.2.2.2.1 (F.2.2.2.2 _ (mm 6 rfl)) dX3_now_130 ?_
  refine g_goI (wr := [(h, .inr (2, [.int mi, .int fo, .int wi, .int sp, .ref qn, .int (nI P), .ref qk, .ref qp, .ref qq, .ref qc, .int wa])), (qn, .inl (eI E, 30, .inl no)), (qk, .inl (eI E, 8, .inl ki)), (qp, .inl (eI E, 8, .inl pl))]) (g_runV (As := [.int (-1000000001)]) (rest := []) F hX hP hD hS hA (c_X3_found l E x fx qf fd (-1000000001) 0 (by first | assumption | rfl) (by decide +kernel) (by decide) H.size) (cwV 1 F.2.2.2.2 gX3_now_X3_found rfl rfl rfl (by decide +kernel) ⟨Nat.le_of_ble_eq_true rfl, Nat.le_of_ble_eq_true rfl⟩) [0, 5] rfl rfl (q0 := 0) (ci := 3) rfl rfl rfl hl.1 rfl (Nat.le_of_ble_eq_true rfl) dX3_now_132 ⟨Nat.le_refl _, Nat.le_refl _⟩) hP hD hS hA [0, 5] [1, 2, 3, 4] rfl rfl rfl (by decide) (fun r _ H locs hq hP hD hS => ?_)
  have hP : va_P (eD E) vwCl [(x, .inr (3, fx)), (h, .inr (2, [.int mi, .int fo, .int wi, .int sp, .ref qn, .int (nI P), .ref qk, .ref qp, .ref qq, .ref qc, .int wa])), (qn, .inl (eI E, 30, .inl no)), (qk, .inl (eI E, 8, .inl ki)), (qp, .inl (eI E, 8, .inl pl)), (qf, .inl (eI E, 7, .inl (fn fd 0)))] H := hP.sub [4, 0, 1, 2, 3, 5] rfl
  have hD : va_D A [(x, .inr (3, fx)), (h, .inr (2, [.int mi, .int fo, .int wi, .int sp, .ref qn, .int (nI P), .ref qk, .ref qp, .ref qq, .ref qc, .int wa])), (qn, .inl (eI E, 30, .inl no)), (qk, .inl (eI E, 8, .inl ki)), (qp, .inl (eI E, 8, .inl pl)), (qf, .inl (eI E, 7, .inl (fn fd 0)))] := hD.sub [4, 0, 1, 2, 3, 5] (by decide) rfl
  subst hq
  exact g_reti F hr hlk (vp_nar_int _) hS hP hD (fn fd 0) (rfl) (by unfold cn_now; (try simp only [and_self, true_and, and_true, if_true, Bool.false_eq_true, false_and, and_false, if_false]); all_goals simp [ldC, k1, k2, k3, k5, k6, k7, k8, k9]) dX3_now_135
def cn_person (P : Nat) (wa : Int32) (ki pl qu ca fd : Nat → Int32) (a1 a2 : Int32) : Int32 × Nat × Int32 × (Nat → Int32) × (Nat → Int32) × (Nat → Int32) × (Nat → Int32) × (Nat → Int32) := if inR a1 0 5 = true ∧ inR a2 0 29 = true then (if P < 8 then (nI P, P + 1, wa &&& ((1 <<< (nI P &&& 31)) ^^^ (-1)), upd ki P a1, upd pl P a2, upd qu P 0, upd ca P 0, fd) else (-1000000002, P, wa, ki, pl, qu, ca, fn fd 1)) else (-1000000001, P, wa, ki, pl, qu, ca, fn fd 0)
set_option maxHeartbeats 4000000 in
set_option maxRecDepth 100000 in
theorem c_X3_person (l : Launch) (E : gE) (x : Nat) (fx : List Value) (qf : Nat) (h : Nat) (mi : Int32) (fo : Int32) (wi : Int32) (sp : Int32) (P : Nat) (wa : Int32) (qn : Nat) (qk : Nat) (qp : Nat) (qq : Nat) (qc : Nat) (ki : Nat → Int32) (pl : Nat → Int32) (qu : Nat → Int32) (ca : Nat → Int32) (fd : Nat → Int32) (a1 : Int32) (a2 : Int32) (hx0 : fx[0]? = some (.ref h)) (hx5 : fx[5]? = some (.ref qf)) (hP8 : P ≤ 8) : gI l yX3_person wsX3_person ({ frames := 2, cells := 0, slots := 0, locals := 44 }) E [(x, .inr (3, fx)), (h, .inr (2, [.int mi, .int fo, .int wi, .int sp, .ref qn, .int (nI P), .ref qk, .ref qp, .ref qq, .ref qc, .int wa])), (qk, .inl (eI E, 8, .inl ki)), (qp, .inl (eI E, 8, .inl pl)), (qq, .inl (eI E, 8, .inl qu)), (qc, .inl (eI E, 8, .inl ca)), (qf, .inl (eI E, 7, .inl fd))] (fun u : Nat × Int32 × (Nat → Int32) × (Nat → Int32) × (Nat → Int32) × (Nat → Int32) × (Nat → Int32) => [(x, .inr (3, fx)), (h, .inr (2, [.int mi, .int fo, .int wi, .int sp, .ref qn, .int (nI u.1), .ref qk, .ref qp, .ref qq, .ref qc, .int u.2.1])), (qk, .inl (eI E, 8, .inl u.2.2.1)), (qp, .inl (eI E, 8, .inl u.2.2.2.1)), (qq, .inl (eI E, 8, .inl u.2.2.2.2.1)), (qc, .inl (eI E, 8, .inl u.2.2.2.2.2.1)), (qf, .inl (eI E, 7, .inl u.2.2.2.2.2.2))]) [.ref x, .int a1, .int a2] (fun (r : Int32) (u : Nat × Int32 × (Nat → Int32) × (Nat → Int32) × (Nat → Int32) × (Nat → Int32) × (Nat → Int32)) => (r, u) = cn_person P wa ki pl qu ca fd a1 a2) := by
  have hin2 : ∀ w ∈ wsX20, w ∈ wsX3_person := (fun _ h => (List.mem_cons_of_mem _ (List.mem_append_right _ h)))
  have hin3 : ∀ w ∈ wsX30, w ∈ wsX3_person := (fun _ h => (List.mem_cons_of_mem _ (List.mem_append_left _ (List.mem_append_right _ h))))
  refine gI.of (cc := cX3_person) (maxL := 3) (by decide) rfl (Nat.le_of_ble_eq_true rfl) ?_
  intro pG eG sG mG below meth cG A ls H locs F hr hlk hX hP hD hA hS hl
  have hl : lv_has ls 3 [(0, .ref x), (1, .int a1), (2, .int a2)] := hl
  refine lv_iload_n F.1 F.2.1 dX3_person_0 rfl (lv_at hl 1 rfl) ?_
  refine g_goIr (g_runS (As := [.int a1]) (rest := []) F hX hP hD hS hA (c_X3_isKind l E a1 H.size) (va_cwS 1 F.2.2.2.2 gX3_person_X3_isKind rfl rfl rfl (by decide +kernel) ⟨Nat.le_of_ble_eq_true rfl, Nat.le_of_ble_eq_true rfl⟩) [] rfl rfl rfl hl.1 rfl (Nat.le_of_ble_eq_true rfl) dX3_person_1 ⟨Nat.le_refl _, Nat.le_refl _⟩) hP hD hS hA [] rfl (fun r _ H locs hq hP hS => ?_)
  subst hq
  refine g_beq (tgt := 14) F dX3_person_4 (by decide) (fun k1 => ?_) (fun k1 => ?_)
  · refine lv_aload_n F.1 F.2.1 dX3_person_14 rfl (lv_at hl 0 rfl) ?_
    refine lv_ldc (v := (-1000000001)) F.1 F.2.1 F.2.2.2.1 (F.2.2.2.2 _ (mm 1 rfl)) dX3_person_15 ?_
    refine g_goI (wr := [(h, .inr (2, [.int mi, .int fo, .int wi, .int sp, .ref qn, .int (nI P), .ref qk, .ref qp, .ref qq, .ref qc, .int wa])), (qk, .inl (eI E, 8, .inl ki)), (qp, .inl (eI E, 8, .inl pl)), (qq, .inl (eI E, 8, .inl qu)), (qc, .inl (eI E, 8, .inl ca))]) (g_runV (As := [.int (-1000000001)]) (rest := []) F hX hP hD hS hA (c_X3_found l E x fx qf fd (-1000000001) 0 (by first | assumption | rfl) (by decide +kernel) (by decide) H.size) (cwV 1 F.2.2.2.2 gX3_person_X3_found rfl rfl rfl (by decide +kernel) ⟨Nat.le_of_ble_eq_true rfl, Nat.le_of_ble_eq_true rfl⟩) [0, 6] rfl rfl (q0 := 0) (ci := 3) rfl rfl rfl hl.1 rfl (Nat.le_of_ble_eq_true rfl) dX3_person_17 ⟨Nat.le_refl _, Nat.le_refl _⟩) hP hD hS hA [0, 6] [1, 2, 3, 4, 5] rfl rfl rfl (by decide) (fun r _ H locs hq hP hD hS => ?_)
    have hP : va_P (eD E) vwCl [(x, .inr (3, fx)), (h, .inr (2, [.int mi, .int fo, .int wi, .int sp, .ref qn, .int (nI P), .ref qk, .ref qp, .ref qq, .ref qc, .int wa])), (qk, .inl (eI E, 8, .inl ki)), (qp, .inl (eI E, 8, .inl pl)), (qq, .inl (eI E, 8, .inl qu)), (qc, .inl (eI E, 8, .inl ca)), (qf, .inl (eI E, 7, .inl (fn fd 0)))] H := hP.sub [5, 0, 1, 2, 3, 4, 6] rfl
    have hD : va_D A [(x, .inr (3, fx)), (h, .inr (2, [.int mi, .int fo, .int wi, .int sp, .ref qn, .int (nI P), .ref qk, .ref qp, .ref qq, .ref qc, .int wa])), (qk, .inl (eI E, 8, .inl ki)), (qp, .inl (eI E, 8, .inl pl)), (qq, .inl (eI E, 8, .inl qu)), (qc, .inl (eI E, 8, .inl ca)), (qf, .inl (eI E, 7, .inl (fn fd 0)))] := hD.sub [5, 0, 1, 2, 3, 4, 6] (by decide) rfl
    subst hq
    exact g_reti F hr hlk (vp_nar_int _) hS hP hD ((P, wa, ki, pl, qu, ca, fn fd 0)) (rfl) (by simp [cn_person, k1]) dX3_person_20
  · refine lv_iload_n F.1 F.2.1 dX3_person_7 rfl (lv_at hl 2 rfl) ?_
    refine g_goIr (g_runS (As := [.int a2]) (rest := []) F hX hP hD hS hA (c_X3_isHouse l E a2 H.size) (va_cwS 1 F.2.2.2.2 gX3_person_X3_isHouse rfl rfl rfl (by decide +kernel) ⟨Nat.le_of_ble_eq_true rfl, Nat.le_of_ble_eq_true rfl⟩) [] rfl rfl rfl hl.1 rfl (Nat.le_of_ble_eq_true rfl) dX3_person_8 ⟨Nat.le_refl _, Nat.le_refl _⟩) hP hD hS hA [] rfl (fun r _ H locs hq hP hS => ?_)
    subst hq
    refine g_bne (tgt := 21) F dX3_person_11 (by decide) (fun k2 => ?_) (fun k2 => ?_)
    · refine lv_aload_n F.1 F.2.1 dX3_person_21 rfl (lv_at hl 0 rfl) ?_
      refine g_get F hX hP hin3 0 rfl rfl 0 (by decide) (mm 2 rfl) hx0 dX3_person_22 ?_
      refine g_get F hX hP hin2 1 rfl rfl 5 (by decide) (mm 3 rfl) rfl dX3_person_25 ?_
      refine lv_bipush (v := 8) F.1 F.2.1 dX3_person_28 (by decide) ?_
      refine lv_icmp_lt (tgt := 40) F.1 F.2.1 dX3_person_30 (by decide) (fun k3 => ?_) (fun k3 => ?_)
      · have hP7 : P < 8 := (nI_ltI (by omega) (by decide)).mp k3
        refine lv_aload_n F.1 F.2.1 dX3_person_40 rfl (lv_at hl 0 rfl) ?_
        refine g_get F hX hP hin3 0 rfl rfl 0 (by decide) (mm 2 rfl) hx0 dX3_person_41 ?_
        refine lv_iload_n F.1 F.2.1 dX3_person_44 rfl (lv_at hl 1 rfl) ?_
        refine lv_iload_n F.1 F.2.1 dX3_person_45 rfl (lv_at hl 2 rfl) ?_
        refine g_goV (wr := [(x, .inr (3, fx)), (qf, .inl (eI E, 7, .inl fd))]) (g_runV (As := [.int a1, .int a2]) (rest := []) F hX hP hD hS hA (c_X2_add l E h mi fo wi sp P wa qn qk qp qq qc a1 a2 ki pl qu ca (hP7) H.size) (cwV 2 F.2.2.2.2 gX3_person_X2_add rfl rfl rfl (by decide +kernel) ⟨Nat.le_of_ble_eq_true rfl, Nat.le_of_ble_eq_true rfl⟩) [1, 2, 3, 4, 5] rfl rfl (q0 := 1) (ci := 2) rfl rfl rfl hl.1 rfl (Nat.le_of_ble_eq_true rfl) dX3_person_46 ⟨Nat.le_refl _, Nat.le_refl _⟩) hP hD hS hA [1, 2, 3, 4, 5] [0, 6] rfl rfl rfl (by decide) (fun _ H locs hq hP hD hS => ?_)
        have hP : va_P (eD E) vwCl [(x, .inr (3, fx)), (h, .inr (2, [.int mi, .int fo, .int wi, .int sp, .ref qn, .int (nI (P + 1)), .ref qk, .ref qp, .ref qq, .ref qc, .int (wa &&& ((1 <<< (nI P &&& 31)) ^^^ (-1)))])), (qk, .inl (eI E, 8, .inl (upd ki P a1))), (qp, .inl (eI E, 8, .inl (upd pl P a2))), (qq, .inl (eI E, 8, .inl (upd qu P 0))), (qc, .inl (eI E, 8, .inl (upd ca P 0))), (qf, .inl (eI E, 7, .inl fd))] H := hP.sub [0, 2, 3, 4, 5, 6, 1] rfl
        have hD : va_D A [(x, .inr (3, fx)), (h, .inr (2, [.int mi, .int fo, .int wi, .int sp, .ref qn, .int (nI (P + 1)), .ref qk, .ref qp, .ref qq, .ref qc, .int (wa &&& ((1 <<< (nI P &&& 31)) ^^^ (-1)))])), (qk, .inl (eI E, 8, .inl (upd ki P a1))), (qp, .inl (eI E, 8, .inl (upd pl P a2))), (qq, .inl (eI E, 8, .inl (upd qu P 0))), (qc, .inl (eI E, 8, .inl (upd ca P 0))), (qf, .inl (eI E, 7, .inl fd))] := hD.sub [0, 2, 3, 4, 5, 6, 1] (by decide) rfl
        refine lv_aload_n F.1 F.2.1 dX3_person_49 rfl (lv_at hl 0 rfl) ?_
        refine g_get F hX hP hin3 0 rfl rfl 0 (by decide) (mm 2 rfl) hx0 dX3_person_50 ?_
        refine g_get F hX hP hin2 1 rfl rfl 5 (by decide) (mm 3 rfl) rfl dX3_person_53 ?_
        refine lv_iconst (v := 1) F.1 F.2.1 dX3_person_56 (by decide) ?_
        refine lv_isub F.1 F.2.1 dX3_person_57 ?_
        refine g_top (nI P) (nI_pred P) ?_
        exact g_reti F hr hlk (vp_nar_int _) hS hP hD (((P + 1), wa &&& ((1 <<< (nI P &&& 31)) ^^^ (-1)), upd ki P a1, upd pl P a2, upd qu P 0, upd ca P 0, fd)) (rfl) (by simp [cn_person, hP7, k1, k2, k3]) dX3_person_58
      · have hP7 : ¬ P < 8 := fun h => k3 (nI_lt h (by decide))
        refine lv_aload_n F.1 F.2.1 dX3_person_33 rfl (lv_at hl 0 rfl) ?_
        refine lv_ldc (v := (-1000000002)) F.1 F.2.1 F.2.2.2.1 (F.2.2.2.2 _ (mm 4 rfl)) dX3_person_34 ?_
        refine g_goI (wr := [(h, .inr (2, [.int mi, .int fo, .int wi, .int sp, .ref qn, .int (nI P), .ref qk, .ref qp, .ref qq, .ref qc, .int wa])), (qk, .inl (eI E, 8, .inl ki)), (qp, .inl (eI E, 8, .inl pl)), (qq, .inl (eI E, 8, .inl qu)), (qc, .inl (eI E, 8, .inl ca))]) (g_runV (As := [.int (-1000000002)]) (rest := []) F hX hP hD hS hA (c_X3_found l E x fx qf fd (-1000000002) 1 (by first | assumption | rfl) (by decide +kernel) (by decide) H.size) (cwV 1 F.2.2.2.2 gX3_person_X3_found rfl rfl rfl (by decide +kernel) ⟨Nat.le_of_ble_eq_true rfl, Nat.le_of_ble_eq_true rfl⟩) [0, 6] rfl rfl (q0 := 0) (ci := 3) rfl rfl rfl hl.1 rfl (Nat.le_of_ble_eq_true rfl) dX3_person_36 ⟨Nat.le_refl _, Nat.le_refl _⟩) hP hD hS hA [0, 6] [1, 2, 3, 4, 5] rfl rfl rfl (by decide) (fun r _ H locs hq hP hD hS => ?_)
        have hP : va_P (eD E) vwCl [(x, .inr (3, fx)), (h, .inr (2, [.int mi, .int fo, .int wi, .int sp, .ref qn, .int (nI P), .ref qk, .ref qp, .ref qq, .ref qc, .int wa])), (qk, .inl (eI E, 8, .inl ki)), (qp, .inl (eI E, 8, .inl pl)), (qq, .inl (eI E, 8, .inl qu)), (qc, .inl (eI E, 8, .inl ca)), (qf, .inl (eI E, 7, .inl (fn fd 1)))] H := hP.sub [5, 0, 1, 2, 3, 4, 6] rfl
        have hD : va_D A [(x, .inr (3, fx)), (h, .inr (2, [.int mi, .int fo, .int wi, .int sp, .ref qn, .int (nI P), .ref qk, .ref qp, .ref qq, .ref qc, .int wa])), (qk, .inl (eI E, 8, .inl ki)), (qp, .inl (eI E, 8, .inl pl)), (qq, .inl (eI E, 8, .inl qu)), (qc, .inl (eI E, 8, .inl ca)), (qf, .inl (eI E, 7, .inl (fn fd 1)))] := hD.sub [5, 0, 1, 2, 3, 4, 6] (by decide) rfl
        subst hq
        exact g_reti F hr hlk (vp_nar_int _) hS hP hD ((P, wa, ki, pl, qu, ca, fn fd 1)) (rfl) (by simp [cn_person, hP7, k1, k2, k3]) dX3_person_39
    · refine lv_aload_n F.1 F.2.1 dX3_person_14 rfl (lv_at hl 0 rfl) ?_
      refine lv_ldc (v := (-1000000001)) F.1 F.2.1 F.2.2.2.1 (F.2.2.2.2 _ (mm 1 rfl)) dX3_person_15 ?_
      refine g_goI (wr := [(h, .inr (2, [.int mi, .int fo, .int wi, .int sp, .ref qn, .int (nI P), .ref qk, .ref qp, .ref qq, .ref qc, .int wa])), (qk, .inl (eI E, 8, .inl ki)), (qp, .inl (eI E, 8, .inl pl)), (qq, .inl (eI E, 8, .inl qu)), (qc, .inl (eI E, 8, .inl ca))]) (g_runV (As := [.int (-1000000001)]) (rest := []) F hX hP hD hS hA (c_X3_found l E x fx qf fd (-1000000001) 0 (by first | assumption | rfl) (by decide +kernel) (by decide) H.size) (cwV 1 F.2.2.2.2 gX3_person_X3_found rfl rfl rfl (by decide +kernel) ⟨Nat.le_of_ble_eq_true rfl, Nat.le_of_ble_eq_true rfl⟩) [0, 6] rfl rfl (q0 := 0) (ci := 3) rfl rfl rfl hl.1 rfl (Nat.le_of_ble_eq_true rfl) dX3_person_17 ⟨Nat.le_refl _, Nat.le_refl _⟩) hP hD hS hA [0, 6] [1, 2, 3, 4, 5] rfl rfl rfl (by decide) (fun r _ H locs hq hP hD hS => ?_)
      have hP : va_P (eD E) vwCl [(x, .inr (3, fx)), (h, .inr (2, [.int mi, .int fo, .int wi, .int sp, .ref qn, .int (nI P), .ref qk, .ref qp, .ref qq, .ref qc, .int wa])), (qk, .inl (eI E, 8, .inl ki)), (qp, .inl (eI E, 8, .inl pl)), (qq, .inl (eI E, 8, .inl qu)), (qc, .inl (eI E, 8, .inl ca)), (qf, .inl (eI E, 7, .inl (fn fd 0)))] H := hP.sub [5, 0, 1, 2, 3, 4, 6] rfl
      have hD : va_D A [(x, .inr (3, fx)), (h, .inr (2, [.int mi, .int fo, .int wi, .int sp, .ref qn, .int (nI P), .ref qk, .ref qp, .ref qq, .ref qc, .int wa])), (qk, .inl (eI E, 8, .inl ki)), (qp, .inl (eI E, 8, .inl pl)), (qq, .inl (eI E, 8, .inl qu)), (qc, .inl (eI E, 8, .inl ca)), (qf, .inl (eI E, 7, .inl (fn fd 0)))] := hD.sub [5, 0, 1, 2, 3, 4, 6] (by decide) rfl
      subst hq
      exact g_reti F hr hlk (vp_nar_int _) hS hP hD ((P, wa, ki, pl, qu, ca, fn fd 0)) (rfl) (by simp [cn_person, k1, k2]) dX3_person_20
def cn_of (mi fo wi sp : Int32) (P : Nat) (wa : Int32) (ki pl qu ca fd : Nat → Int32) (a1 a2 : Int32) : Int32 × (Nat → Int32) := if inR a1 0 (nI P - 1) = true then (if a2 = 0 then (ki (ix a1), fd) else if a2 = 1 then (pl (ix a1), fd) else if a2 = 2 then (qu (ix a1), fd) else if a2 = 3 then (ca (ix a1), fd) else if a2 = 4 then (100 + gqC mi wi sp (ki (ix a1)) (pl (ix a1)) (edC mi fo wi sp), fd) else if a2 = 5 then (taC mi wi (ki (ix a1)) (pl (ix a1)) (edC mi fo wi sp), fd) else if a2 = 6 then (bi (soC (ki (ix a1)) (ca (ix a1))), fd) else if a2 = 7 then (bitOf wa (ix a1), fd) else (-1000000001, fn fd 0)) else (-1000000001, fn fd 0)
set_option maxHeartbeats 4000000 in
set_option maxRecDepth 100000 in
theorem c_X3_of (l : Launch) (E : gE) (x : Nat) (fx : List Value) (qf : Nat) (h : Nat) (mi : Int32) (fo : Int32) (wi : Int32) (sp : Int32) (P : Nat) (wa : Int32) (qn : Nat) (qk : Nat) (qp : Nat) (qq : Nat) (qc : Nat) (ki : Nat → Int32) (pl : Nat → Int32) (qu : Nat → Int32) (ca : Nat → Int32) (fd : Nat → Int32) (a1 : Int32) (a2 : Int32) (hx0 : fx[0]? = some (.ref h)) (hx5 : fx[5]? = some (.ref qf)) (hP8 : P ≤ 8) : gI l yX3_of wsX3_of ({ frames := 3, cells := 0, slots := 0, locals := 67 }) E [(x, .inr (3, fx)), (h, .inr (2, [.int mi, .int fo, .int wi, .int sp, .ref qn, .int (nI P), .ref qk, .ref qp, .ref qq, .ref qc, .int wa])), (qk, .inl (eI E, 8, .inl ki)), (qp, .inl (eI E, 8, .inl pl)), (qq, .inl (eI E, 8, .inl qu)), (qc, .inl (eI E, 8, .inl ca)), (qf, .inl (eI E, 7, .inl fd))] (fun u : (Nat → Int32) => [(x, .inr (3, fx)), (h, .inr (2, [.int mi, .int fo, .int wi, .int sp, .ref qn, .int (nI P), .ref qk, .ref qp, .ref qq, .ref qc, .int wa])), (qk, .inl (eI E, 8, .inl ki)), (qp, .inl (eI E, 8, .inl pl)), (qq, .inl (eI E, 8, .inl qu)), (qc, .inl (eI E, 8, .inl ca)), (qf, .inl (eI E, 7, .inl u))]) [.ref x, .int a1, .int a2] (fun (r : Int32) (u : (Nat → Int32)) => (r, u) = cn_of mi fo wi sp P wa ki pl qu ca fd a1 a2) := by
  have hin2 : ∀ w ∈ wsX20, w ∈ wsX3_of := (fun _ h => (List.mem_cons_of_mem _ (List.mem_append_right _ h)))
  have hin3 : ∀ w ∈ wsX30, w ∈ wsX3_of := (fun _ h => (List.mem_cons_of_mem _ (List.mem_append_left _ (List.mem_append_right _ h))))
  refine gI.of (cc := cX3_of) (maxL := 3) (by decide) rfl (Nat.le_of_ble_eq_true rfl) ?_
  intro pG eG sG mG below meth cG A ls H locs F hr hlk hX hP hD hA hS hl
  have hl : lv_has ls 3 [(0, .ref x), (1, .int a1), (2, .int a2)] := hl
  refine lv_aload_n F.1 F.2.1 dX3_of_0 rfl (lv_at hl 0 rfl) ?_
  refine lv_iload_n F.1 F.2.1 dX3_of_1 rfl (lv_at hl 1 rfl) ?_
  refine g_goIr (g_runV (As := [.int a1]) (rest := []) F hX hP hD hS hA (c_X3_isPerson l E x fx h mi fo wi sp P wa qn qk qp qq qc a1 (by first | assumption | rfl) H.size) (cwV 1 F.2.2.2.2 gX3_of_X3_isPerson rfl rfl rfl (by decide +kernel) ⟨Nat.le_of_ble_eq_true rfl, Nat.le_of_ble_eq_true rfl⟩) [0, 1] rfl rfl (q0 := 0) (ci := 3) rfl rfl rfl hl.1 rfl (Nat.le_of_ble_eq_true rfl) dX3_of_2 ⟨Nat.le_refl _, Nat.le_refl _⟩) hP hD hS hA [0, 1] rfl (fun r _ H locs hq hP hS => ?_)
  subst hq
  refine g_bne (tgt := 15) F dX3_of_5 (by decide) (fun k1 => ?_) (fun k1 => ?_)
  · obtain ⟨e_a1, b_a1⟩ := ix_person k1 hP8
    have hl : lv_has ls 3 [(0, .ref x), (1, .int (nI (ix a1))), (2, .int a2)] := by rw [← e_a1]; exact hl
    refine lv_iload_n F.1 F.2.1 dX3_of_15 rfl (lv_at hl 2 rfl) ?_
    by_cases k2 : a2 = 0
    · refine g_top 0 k2 ?_
      refine lv_tableIn (tgt := 64) F.1 F.2.1 dX3_of_16 (by decide) (by decide) rfl (by decide) ?_
      refine lv_aload_n F.1 F.2.1 dX3_of_64 rfl (lv_at hl 0 rfl) ?_
      refine g_get F hX hP hin3 0 rfl rfl 0 (by decide) (mm 2 rfl) hx0 dX3_of_65 ?_
      refine g_get F hX hP hin2 1 rfl rfl 6 (by decide) (mm 3 rfl) rfl dX3_of_68 ?_
      refine lv_iload_n F.1 F.2.1 dX3_of_71 rfl (lv_at hl 1 rfl) ?_
      refine g_iald F hX hP 2 rfl (j := (ix a1)) (rfl) (by omega) (by decide) dX3_of_72 ?_
      exact g_reti F hr hlk (vp_nar_int _) hS hP hD (fd) (rfl) (by unfold cn_of; (try simp only [k1, and_self, true_and, and_true, if_true, Bool.false_eq_true, false_and, and_false, if_false]); all_goals simp [bitOf, k1, k2]) dX3_of_73
    by_cases k3 : a2 = 1
    · refine g_top 1 k3 ?_
      refine lv_tableIn (tgt := 74) F.1 F.2.1 dX3_of_16 (by decide) (by decide) rfl (by decide) ?_
      refine lv_aload_n F.1 F.2.1 dX3_of_74 rfl (lv_at hl 0 rfl) ?_
      refine g_get F hX hP hin3 0 rfl rfl 0 (by decide) (mm 2 rfl) hx0 dX3_of_75 ?_
      refine g_get F hX hP hin2 1 rfl rfl 7 (by decide) (mm 4 rfl) rfl dX3_of_78 ?_
      refine lv_iload_n F.1 F.2.1 dX3_of_81 rfl (lv_at hl 1 rfl) ?_
      refine g_iald F hX hP 3 rfl (j := (ix a1)) (rfl) (by omega) (by decide) dX3_of_82 ?_
      exact g_reti F hr hlk (vp_nar_int _) hS hP hD (fd) (rfl) (by unfold cn_of; (try simp only [k1, and_self, true_and, and_true, if_true, Bool.false_eq_true, false_and, and_false, if_false]); all_goals simp [bitOf, k1, k2, k3]) dX3_of_83
    by_cases k4 : a2 = 2
    · refine g_top 2 k4 ?_
      refine lv_tableIn (tgt := 84) F.1 F.2.1 dX3_of_16 (by decide) (by decide) rfl (by decide) ?_
      refine lv_aload_n F.1 F.2.1 dX3_of_84 rfl (lv_at hl 0 rfl) ?_
      refine g_get F hX hP hin3 0 rfl rfl 0 (by decide) (mm 2 rfl) hx0 dX3_of_85 ?_
      refine g_get F hX hP hin2 1 rfl rfl 8 (by decide) (mm 5 rfl) rfl dX3_of_88 ?_
      refine lv_iload_n F.1 F.2.1 dX3_of_91 rfl (lv_at hl 1 rfl) ?_
      refine g_iald F hX hP 4 rfl (j := (ix a1)) (rfl) (by omega) (by decide) dX3_of_92 ?_
      exact g_reti F hr hlk (vp_nar_int _) hS hP hD (fd) (rfl) (by unfold cn_of; (try simp only [k1, and_self, true_and, and_true, if_true, Bool.false_eq_true, false_and, and_false, if_false]); all_goals simp [bitOf, k1, k2, k3, k4]) dX3_of_93
    by_cases k5 : a2 = 3
    · refine g_top 3 k5 ?_
      refine lv_tableIn (tgt := 94) F.1 F.2.1 dX3_of_16 (by decide) (by decide) rfl (by decide) ?_
      refine lv_aload_n F.1 F.2.1 dX3_of_94 rfl (lv_at hl 0 rfl) ?_
      refine g_get F hX hP hin3 0 rfl rfl 0 (by decide) (mm 2 rfl) hx0 dX3_of_95 ?_
      refine g_get F hX hP hin2 1 rfl rfl 9 (by decide) (mm 6 rfl) rfl dX3_of_98 ?_
      refine lv_iload_n F.1 F.2.1 dX3_of_101 rfl (lv_at hl 1 rfl) ?_
      refine g_iald F hX hP 5 rfl (j := (ix a1)) (rfl) (by omega) (by decide) dX3_of_102 ?_
      exact g_reti F hr hlk (vp_nar_int _) hS hP hD (fd) (rfl) (by unfold cn_of; (try simp only [k1, and_self, true_and, and_true, if_true, Bool.false_eq_true, false_and, and_false, if_false]); all_goals simp [bitOf, k1, k2, k3, k4, k5]) dX3_of_103
    by_cases k6 : a2 = 4
    · refine g_top 4 k6 ?_
      refine lv_tableIn (tgt := 104) F.1 F.2.1 dX3_of_16 (by decide) (by decide) rfl (by decide) ?_
      refine lv_bipush (v := 100) F.1 F.2.1 dX3_of_104 (by decide) ?_
      refine lv_aload_n F.1 F.2.1 dX3_of_106 rfl (lv_at hl 0 rfl) ?_
      refine g_get F hX hP hin3 0 rfl rfl 0 (by decide) (mm 2 rfl) hx0 dX3_of_107 ?_
      refine lv_iload_n F.1 F.2.1 dX3_of_110 rfl (lv_at hl 1 rfl) ?_
      refine lv_aload_n F.1 F.2.1 dX3_of_111 rfl (lv_at hl 0 rfl) ?_
      refine g_get F hX hP hin3 0 rfl rfl 0 (by decide) (mm 2 rfl) hx0 dX3_of_112 ?_
      refine g_goIr (g_runV (As := []) (rest := [.int (nI (ix a1)), .ref h, .int 100]) F hX hP hD hS hA (c_X2_edge l E h mi fo wi sp P wa qn qk qp qq qc H.size) (cwV 0 F.2.2.2.2 gX3_of_X2_edge rfl rfl rfl (by decide +kernel) ⟨Nat.le_of_ble_eq_true rfl, Nat.le_of_ble_eq_true rfl⟩) [1] rfl rfl (q0 := 1) (ci := 2) rfl rfl rfl hl.1 rfl (Nat.le_of_ble_eq_true rfl) dX3_of_115 ⟨Nat.le_refl _, Nat.le_refl _⟩) hP hD hS hA [1] rfl (fun r _ H locs hq hP hS => ?_)
      subst hq
      refine g_goIr (g_runV (As := [.int (nI (ix a1)), .int (edC mi fo wi sp)]) (rest := [.int 100]) F hX hP hD hS hA (c_X2_goes l E h mi fo wi sp P wa qn qk qp qq qc (ix a1) (edC mi fo wi sp) ki pl (by omega) H.size) (cwV 2 F.2.2.2.2 gX3_of_X2_goes rfl rfl rfl (by decide +kernel) ⟨Nat.le_of_ble_eq_true rfl, Nat.le_of_ble_eq_true rfl⟩) [1, 2, 3] rfl rfl (q0 := 1) (ci := 2) rfl rfl rfl hl.1 rfl (Nat.le_of_ble_eq_true rfl) dX3_of_118 ⟨Nat.le_refl _, Nat.le_refl _⟩) hP hD hS hA [1, 2, 3] rfl (fun r _ H locs hq hP hS => ?_)
      subst hq
      refine lv_iadd F.1 F.2.1 dX3_of_121 ?_
      exact g_reti F hr hlk (vp_nar_int _) hS hP hD (fd) (rfl) (by unfold cn_of; (try simp only [k1, and_self, true_and, and_true, if_true, Bool.false_eq_true, false_and, and_false, if_false]); all_goals simp [bitOf, k1, k2, k3, k4, k5, k6]) dX3_of_122
    by_cases k7 : a2 = 5
    · refine g_top 5 k7 ?_
      refine lv_tableIn (tgt := 123) F.1 F.2.1 dX3_of_16 (by decide) (by decide) rfl (by decide) ?_
      refine lv_aload_n F.1 F.2.1 dX3_of_123 rfl (lv_at hl 0 rfl) ?_
      refine g_get F hX hP hin3 0 rfl rfl 0 (by decide) (mm 2 rfl) hx0 dX3_of_124 ?_
      refine lv_iload_n F.1 F.2.1 dX3_of_127 rfl (lv_at hl 1 rfl) ?_
      refine lv_aload_n F.1 F.2.1 dX3_of_128 rfl (lv_at hl 0 rfl) ?_
      refine g_get F hX hP hin3 0 rfl rfl 0 (by decide) (mm 2 rfl) hx0 dX3_of_129 ?_
      refine g_goIr (g_runV (As := []) (rest := [.int (nI (ix a1)), .ref h]) F hX hP hD hS hA (c_X2_edge l E h mi fo wi sp P wa qn qk qp qq qc H.size) (cwV 0 F.2.2.2.2 gX3_of_X2_edge rfl rfl rfl (by decide +kernel) ⟨Nat.le_of_ble_eq_true rfl, Nat.le_of_ble_eq_true rfl⟩) [1] rfl rfl (q0 := 1) (ci := 2) rfl rfl rfl hl.1 rfl (Nat.le_of_ble_eq_true rfl) dX3_of_132 ⟨Nat.le_refl _, Nat.le_refl _⟩) hP hD hS hA [1] rfl (fun r _ H locs hq hP hS => ?_)
      subst hq
      refine g_goIr (g_runV (As := [.int (nI (ix a1)), .int (edC mi fo wi sp)]) (rest := []) F hX hP hD hS hA (c_X2_talks l E h mi fo wi sp P wa qn qk qp qq qc (ix a1) (edC mi fo wi sp) ki pl (by omega) H.size) (cwV 2 F.2.2.2.2 gX3_of_X2_talks rfl rfl rfl (by decide +kernel) ⟨Nat.le_of_ble_eq_true rfl, Nat.le_of_ble_eq_true rfl⟩) [1, 2, 3] rfl rfl (q0 := 1) (ci := 2) rfl rfl rfl hl.1 rfl (Nat.le_of_ble_eq_true rfl) dX3_of_135 ⟨Nat.le_refl _, Nat.le_refl _⟩) hP hD hS hA [1, 2, 3] rfl (fun r _ H locs hq hP hS => ?_)
      subst hq
      exact g_reti F hr hlk (vp_nar_int _) hS hP hD (fd) (rfl) (by unfold cn_of; (try simp only [k1, and_self, true_and, and_true, if_true, Bool.false_eq_true, false_and, and_false, if_false]); all_goals simp [bitOf, k1, k2, k3, k4, k5, k6, k7]) dX3_of_138
    by_cases k8 : a2 = 6
    · refine g_top 6 k8 ?_
      refine lv_tableIn (tgt := 139) F.1 F.2.1 dX3_of_16 (by decide) (by decide) rfl (by decide) ?_
      refine lv_aload_n F.1 F.2.1 dX3_of_139 rfl (lv_at hl 0 rfl) ?_
      refine g_get F hX hP hin3 0 rfl rfl 0 (by decide) (mm 2 rfl) hx0 dX3_of_140 ?_
      refine lv_iload_n F.1 F.2.1 dX3_of_143 rfl (lv_at hl 1 rfl) ?_
      refine g_goIr (g_runV (As := [.int (nI (ix a1))]) (rest := []) F hX hP hD hS hA (c_X2_stepsOver l E h mi fo wi sp P wa qn qk qp qq qc (ix a1) ki ca (by omega) H.size) (cwV 1 F.2.2.2.2 gX3_of_X2_stepsOver rfl rfl rfl (by decide +kernel) ⟨Nat.le_of_ble_eq_true rfl, Nat.le_of_ble_eq_true rfl⟩) [1, 2, 5] rfl rfl (q0 := 1) (ci := 2) rfl rfl rfl hl.1 rfl (Nat.le_of_ble_eq_true rfl) dX3_of_144 ⟨Nat.le_refl _, Nat.le_refl _⟩) hP hD hS hA [1, 2, 5] rfl (fun r _ H locs hq hP hS => ?_)
      subst hq
      have jn155 : ∀ (H : Heap) (locs : List Loc) (ls : Array Slot), va_P (eD E) vwCl [(x, .inr (3, fx)), (h, .inr (2, [.int mi, .int fo, .int wi, .int sp, .ref qn, .int (nI P), .ref qk, .ref qp, .ref qq, .ref qc, .int wa])), (qk, .inl (eI E, 8, .inl ki)), (qp, .inl (eI E, 8, .inl pl)), (qq, .inl (eI E, 8, .inl qu)), (qc, .inl (eI E, 8, .inl ca)), (qf, .inl (eI E, 7, .inl fd))] H → va_D A [(x, .inr (3, fx)), (h, .inr (2, [.int mi, .int fo, .int wi, .int sp, .ref qn, .int (nI P), .ref qk, .ref qp, .ref qq, .ref qc, .int wa])), (qk, .inl (eI E, 8, .inl ki)), (qp, .inl (eI E, 8, .inl pl)), (qq, .inl (eI E, 8, .inl qu)), (qc, .inl (eI E, 8, .inl ca)), (qf, .inl (eI E, 7, .inl fd))] → va_S A sG.heap H locs → lv_has ls 3 [(0, .ref x), (1, .int (nI (ix a1))), (2, .int a2)] → W pG l eG { frames := 3, cells := 0, slots := 0, locals := 67 } sG mG [.ref x, .int a1, .int a2].toArray below meth cG H locs 0 0 (MQ below (va_Qi (fun (r : Int32) (u : (Nat → Int32)) => (r, u) = cn_of mi fo wi sp P wa ki pl qu ca fd a1 a2) (gR E (fun u : (Nat → Int32) => [(x, .inr (3, fx)), (h, .inr (2, [.int mi, .int fo, .int wi, .int sp, .ref qn, .int (nI P), .ref qk, .ref qp, .ref qq, .ref qc, .int wa])), (qk, .inl (eI E, 8, .inl ki)), (qp, .inl (eI E, 8, .inl pl)), (qq, .inl (eI E, 8, .inl qu)), (qc, .inl (eI E, 8, .inl ca)), (qf, .inl (eI E, 7, .inl u))]) A) A) [.ref x, .int a1, .int a2].toArray sG 0 0 A) (F0 mG 155 ls [.int (bi (soC (ki (ix a1)) (ca (ix a1))))]) := by
        intro H locs ls hP hD hS hl
        exact g_reti F hr hlk (vp_nar_int _) hS hP hD (fd) (rfl) (by unfold cn_of; (try simp only [k1, and_self, true_and, and_true, if_true, Bool.false_eq_true, false_and, and_false, if_false]); all_goals simp [bitOf, k1, k2, k3, k4, k5, k6, k7, k8]) dX3_of_155
      refine g_beq (tgt := 154) F dX3_of_147 (by decide) (fun k9 => ?_) (fun k9 => ?_)
      · refine lv_iconst (v := 0) F.1 F.2.1 dX3_of_154 (by decide) ?_
        refine g_top (bi (soC (ki (ix a1)) (ca (ix a1)))) (by simp [bi, k9]) ?_
        exact jn155 _ _ _ hP hD hS (lv_sub hl [0, 1, 2] rfl)
      · refine lv_iconst (v := 1) F.1 F.2.1 dX3_of_150 (by decide) ?_
        refine lv_goto (tgt := 155) F.1 F.2.1 dX3_of_151 (by decide) ?_
        refine g_top (bi (soC (ki (ix a1)) (ca (ix a1)))) (by simp [bi, k9]) ?_
        exact jn155 _ _ _ hP hD hS (lv_sub hl [0, 1, 2] rfl)
    by_cases k10 : a2 = 7
    · refine g_top 7 k10 ?_
      refine lv_tableIn (tgt := 156) F.1 F.2.1 dX3_of_16 (by decide) (by decide) rfl (by decide) ?_
      refine lv_aload_n F.1 F.2.1 dX3_of_156 rfl (lv_at hl 0 rfl) ?_
      refine g_get F hX hP hin3 0 rfl rfl 0 (by decide) (mm 2 rfl) hx0 dX3_of_157 ?_
      refine g_get F hX hP hin2 1 rfl rfl 10 (by decide) (mm 7 rfl) rfl dX3_of_160 ?_
      refine lv_iload_n F.1 F.2.1 dX3_of_163 rfl (lv_at hl 1 rfl) ?_
      refine lv_ishr F.1 F.2.1 dX3_of_164 ?_
      refine lv_iconst (v := 1) F.1 F.2.1 dX3_of_165 (by decide) ?_
      refine lv_iand F.1 F.2.1 dX3_of_166 ?_
      exact g_reti F hr hlk (vp_nar_int _) hS hP hD (fd) (rfl) (by unfold cn_of; (try simp only [k1, and_self, true_and, and_true, if_true, Bool.false_eq_true, false_and, and_false, if_false]); all_goals simp [bitOf, k1, k2, k3, k4, k5, k6, k7, k8, k10]) dX3_of_167
    refine lv_tableOut (tgt := 168) F.1 F.2.1 dX3_of_16 (t_out a2 0 7 (fun kk h1 h2 => by rcases (show kk = 0 ∨ kk = 1 ∨ kk = 2 ∨ kk = 3 ∨ kk = 4 ∨ kk = 5 ∨ kk = 6 ∨ kk = 7 by omega) with rfl | rfl | rfl | rfl | rfl | rfl | rfl | rfl <;> assumption)) (by decide) ?_
    refine lv_aload_n F.1 F.2.1 dX3_of_168 rfl (lv_at hl 0 rfl) ?_
    refine lv_ldc (v := (-1000000001)) F.1 F.2.1 F.2.2.2.1 (F.2.2.2.2 _ (mm 1 rfl)) dX3_of_169 ?_
    refine g_goI (wr := [(h, .inr (2, [.int mi, .int fo, .int wi, .int sp, .ref qn, .int (nI P), .ref qk, .ref qp, .ref qq, .ref qc, .int wa])), (qk, .inl (eI E, 8, .inl ki)), (qp, .inl (eI E, 8, .inl pl)), (qq, .inl (eI E, 8, .inl qu)), (qc, .inl (eI E, 8, .inl ca))]) (g_runV (As := [.int (-1000000001)]) (rest := []) F hX hP hD hS hA (c_X3_found l E x fx qf fd (-1000000001) 0 (by first | assumption | rfl) (by decide +kernel) (by decide) H.size) (cwV 1 F.2.2.2.2 gX3_of_X3_found rfl rfl rfl (by decide +kernel) ⟨Nat.le_of_ble_eq_true rfl, Nat.le_of_ble_eq_true rfl⟩) [0, 6] rfl rfl (q0 := 0) (ci := 3) rfl rfl rfl hl.1 rfl (Nat.le_of_ble_eq_true rfl) dX3_of_171 ⟨Nat.le_refl _, Nat.le_refl _⟩) hP hD hS hA [0, 6] [1, 2, 3, 4, 5] rfl rfl rfl (by decide) (fun r _ H locs hq hP hD hS => ?_)
    have hP : va_P (eD E) vwCl [(x, .inr (3, fx)), (h, .inr (2, [.int mi, .int fo, .int wi, .int sp, .ref qn, .int (nI P), .ref qk, .ref qp, .ref qq, .ref qc, .int wa])), (qk, .inl (eI E, 8, .inl ki)), (qp, .inl (eI E, 8, .inl pl)), (qq, .inl (eI E, 8, .inl qu)), (qc, .inl (eI E, 8, .inl ca)), (qf, .inl (eI E, 7, .inl (fn fd 0)))] H := hP.sub [5, 0, 1, 2, 3, 4, 6] rfl
    have hD : va_D A [(x, .inr (3, fx)), (h, .inr (2, [.int mi, .int fo, .int wi, .int sp, .ref qn, .int (nI P), .ref qk, .ref qp, .ref qq, .ref qc, .int wa])), (qk, .inl (eI E, 8, .inl ki)), (qp, .inl (eI E, 8, .inl pl)), (qq, .inl (eI E, 8, .inl qu)), (qc, .inl (eI E, 8, .inl ca)), (qf, .inl (eI E, 7, .inl (fn fd 0)))] := hD.sub [5, 0, 1, 2, 3, 4, 6] (by decide) rfl
    subst hq
    exact g_reti F hr hlk (vp_nar_int _) hS hP hD (fn fd 0) (rfl) (by unfold cn_of; (try simp only [k1, and_self, true_and, and_true, if_true, Bool.false_eq_true, false_and, and_false, if_false]); all_goals simp [bitOf, k1, k2, k3, k4, k5, k6, k7, k8, k10]) dX3_of_174
  · refine lv_aload_n F.1 F.2.1 dX3_of_8 rfl (lv_at hl 0 rfl) ?_
    refine lv_ldc (v := (-1000000001)) F.1 F.2.1 F.2.2.2.1 (F.2.2.2.2 _ (mm 1 rfl)) dX3_of_9 ?_
    refine g_goI (wr := [(h, .inr (2, [.int mi, .int fo, .int wi, .int sp, .ref qn, .int (nI P), .ref qk, .ref qp, .ref qq, .ref qc, .int wa])), (qk, .inl (eI E, 8, .inl ki)), (qp, .inl (eI E, 8, .inl pl)), (qq, .inl (eI E, 8, .inl qu)), (qc, .inl (eI E, 8, .inl ca))]) (g_runV (As := [.int (-1000000001)]) (rest := []) F hX hP hD hS hA (c_X3_found l E x fx qf fd (-1000000001) 0 (by first | assumption | rfl) (by decide +kernel) (by decide) H.size) (cwV 1 F.2.2.2.2 gX3_of_X3_found rfl rfl rfl (by decide +kernel) ⟨Nat.le_of_ble_eq_true rfl, Nat.le_of_ble_eq_true rfl⟩) [0, 6] rfl rfl (q0 := 0) (ci := 3) rfl rfl rfl hl.1 rfl (Nat.le_of_ble_eq_true rfl) dX3_of_11 ⟨Nat.le_refl _, Nat.le_refl _⟩) hP hD hS hA [0, 6] [1, 2, 3, 4, 5] rfl rfl rfl (by decide) (fun r _ H locs hq hP hD hS => ?_)
    have hP : va_P (eD E) vwCl [(x, .inr (3, fx)), (h, .inr (2, [.int mi, .int fo, .int wi, .int sp, .ref qn, .int (nI P), .ref qk, .ref qp, .ref qq, .ref qc, .int wa])), (qk, .inl (eI E, 8, .inl ki)), (qp, .inl (eI E, 8, .inl pl)), (qq, .inl (eI E, 8, .inl qu)), (qc, .inl (eI E, 8, .inl ca)), (qf, .inl (eI E, 7, .inl (fn fd 0)))] H := hP.sub [5, 0, 1, 2, 3, 4, 6] rfl
    have hD : va_D A [(x, .inr (3, fx)), (h, .inr (2, [.int mi, .int fo, .int wi, .int sp, .ref qn, .int (nI P), .ref qk, .ref qp, .ref qq, .ref qc, .int wa])), (qk, .inl (eI E, 8, .inl ki)), (qp, .inl (eI E, 8, .inl pl)), (qq, .inl (eI E, 8, .inl qu)), (qc, .inl (eI E, 8, .inl ca)), (qf, .inl (eI E, 7, .inl (fn fd 0)))] := hD.sub [5, 0, 1, 2, 3, 4, 6] (by decide) rfl
    subst hq
    exact g_reti F hr hlk (vp_nar_int _) hS hP hD (fn fd 0) (rfl) (by unfold cn_of; (try simp only [k1, and_self, true_and, and_true, if_true, Bool.false_eq_true, false_and, and_false, if_false]); all_goals simp [bitOf, k1]) dX3_of_14
def cn_set (P : Nat) (pl qu ca fd : Nat → Int32) (a1 a2 a3 : Int32) : Int32 × (Nat → Int32) × (Nat → Int32) × (Nat → Int32) × (Nat → Int32) := if inR a1 0 (nI P - 1) = true then (if a2 = 1 ∧ inR a3 0 29 = true then (pl (ix a1), upd pl (ix a1) a3, qu, ca, fd) else if a2 = 2 ∧ inR a3 0 9999 = true then (qu (ix a1), pl, upd qu (ix a1) a3, ca, fd) else if a2 = 3 ∧ inR a3 0 9999 = true then (ca (ix a1), pl, qu, upd ca (ix a1) a3, fd) else (-1000000001, pl, qu, ca, fn fd 0)) else (-1000000001, pl, qu, ca, fn fd 0)
set_option maxHeartbeats 4000000 in
set_option maxRecDepth 100000 in
theorem c_X3_set (l : Launch) (E : gE) (x : Nat) (fx : List Value) (qf : Nat) (h : Nat) (mi : Int32) (fo : Int32) (wi : Int32) (sp : Int32) (P : Nat) (wa : Int32) (qn : Nat) (qk : Nat) (qp : Nat) (qq : Nat) (qc : Nat) (pl : Nat → Int32) (qu : Nat → Int32) (ca : Nat → Int32) (fd : Nat → Int32) (a1 : Int32) (a2 : Int32) (a3 : Int32) (hx0 : fx[0]? = some (.ref h)) (hx5 : fx[5]? = some (.ref qf)) (hP8 : P ≤ 8) : gI l yX3_set wsX3_set ({ frames := 2, cells := 0, slots := 0, locals := 44 }) E [(x, .inr (3, fx)), (h, .inr (2, [.int mi, .int fo, .int wi, .int sp, .ref qn, .int (nI P), .ref qk, .ref qp, .ref qq, .ref qc, .int wa])), (qp, .inl (eI E, 8, .inl pl)), (qq, .inl (eI E, 8, .inl qu)), (qc, .inl (eI E, 8, .inl ca)), (qf, .inl (eI E, 7, .inl fd))] (fun u : (Nat → Int32) × (Nat → Int32) × (Nat → Int32) × (Nat → Int32) => [(x, .inr (3, fx)), (h, .inr (2, [.int mi, .int fo, .int wi, .int sp, .ref qn, .int (nI P), .ref qk, .ref qp, .ref qq, .ref qc, .int wa])), (qp, .inl (eI E, 8, .inl u.1)), (qq, .inl (eI E, 8, .inl u.2.1)), (qc, .inl (eI E, 8, .inl u.2.2.1)), (qf, .inl (eI E, 7, .inl u.2.2.2))]) [.ref x, .int a1, .int a2, .int a3] (fun (r : Int32) (u : (Nat → Int32) × (Nat → Int32) × (Nat → Int32) × (Nat → Int32)) => (r, u) = cn_set P pl qu ca fd a1 a2 a3) := by
  have hin2 : ∀ w ∈ wsX20, w ∈ wsX3_set := (fun _ h => (List.mem_cons_of_mem _ (List.mem_append_right _ h)))
  have hin3 : ∀ w ∈ wsX30, w ∈ wsX3_set := (fun _ h => (List.mem_cons_of_mem _ (List.mem_append_left _ (List.mem_append_right _ h))))
  refine gI.of (cc := cX3_set) (maxL := 4) (by decide) rfl (Nat.le_of_ble_eq_true rfl) ?_
  intro pG eG sG mG below meth cG A ls H locs F hr hlk hX hP hD hA hS hl
  have hl : lv_has ls 4 [(0, .ref x), (1, .int a1), (2, .int a2), (3, .int a3)] := hl
  refine lv_aload_n F.1 F.2.1 dX3_set_0 rfl (lv_at hl 0 rfl) ?_
  refine lv_iload_n F.1 F.2.1 dX3_set_1 rfl (lv_at hl 1 rfl) ?_
  refine g_goIr (g_runV (As := [.int a1]) (rest := []) F hX hP hD hS hA (c_X3_isPerson l E x fx h mi fo wi sp P wa qn qk qp qq qc a1 (by first | assumption | rfl) H.size) (cwV 1 F.2.2.2.2 gX3_set_X3_isPerson rfl rfl rfl (by decide +kernel) ⟨Nat.le_of_ble_eq_true rfl, Nat.le_of_ble_eq_true rfl⟩) [0, 1] rfl rfl (q0 := 0) (ci := 3) rfl rfl rfl hl.1 rfl (Nat.le_of_ble_eq_true rfl) dX3_set_2 ⟨Nat.le_refl _, Nat.le_refl _⟩) hP hD hS hA [0, 1] rfl (fun r _ H locs hq hP hS => ?_)
  subst hq
  refine g_bne (tgt := 15) F dX3_set_5 (by decide) (fun k1 => ?_) (fun k1 => ?_)
  · obtain ⟨e_a1, b_a1⟩ := ix_person k1 hP8
    have hl : lv_has ls 4 [(0, .ref x), (1, .int (nI (ix a1))), (2, .int a2), (3, .int a3)] := by rw [← e_a1]; exact hl
    refine lv_iload_n F.1 F.2.1 dX3_set_15 rfl (lv_at hl 2 rfl) ?_
    refine lv_iconst (v := 1) F.1 F.2.1 dX3_set_16 (by decide) ?_
    refine lv_icmp_ne (tgt := 40) F.1 F.2.1 dX3_set_17 (by decide) (fun k2 => ?_) (fun k2 => ?_)
    · refine lv_iload_n F.1 F.2.1 dX3_set_40 rfl (lv_at hl 2 rfl) ?_
      refine lv_iconst (v := 2) F.1 F.2.1 dX3_set_41 (by decide) ?_
      refine lv_icmp_ne (tgt := 69) F.1 F.2.1 dX3_set_42 (by decide) (fun k3 => ?_) (fun k3 => ?_)
      · refine lv_iload_n F.1 F.2.1 dX3_set_69 rfl (lv_at hl 2 rfl) ?_
        refine lv_iconst (v := 3) F.1 F.2.1 dX3_set_70 (by decide) ?_
        refine lv_icmp_ne (tgt := 98) F.1 F.2.1 dX3_set_71 (by decide) (fun k4 => ?_) (fun k4 => ?_)
        · refine lv_aload_n F.1 F.2.1 dX3_set_98 rfl (lv_at hl 0 rfl) ?_
          refine lv_ldc (v := (-1000000001)) F.1 F.2.1 F.2.2.2.1 (F.2.2.2.2 _ (mm 1 rfl)) dX3_set_99 ?_
          refine g_goI (wr := [(h, .inr (2, [.int mi, .int fo, .int wi, .int sp, .ref qn, .int (nI P), .ref qk, .ref qp, .ref qq, .ref qc, .int wa])), (qp, .inl (eI E, 8, .inl pl)), (qq, .inl (eI E, 8, .inl qu)), (qc, .inl (eI E, 8, .inl ca))]) (g_runV (As := [.int (-1000000001)]) (rest := []) F hX hP hD hS hA (c_X3_found l E x fx qf fd (-1000000001) 0 (by first | assumption | rfl) (by decide +kernel) (by decide) H.size) (cwV 1 F.2.2.2.2 gX3_set_X3_found rfl rfl rfl (by decide +kernel) ⟨Nat.le_of_ble_eq_true rfl, Nat.le_of_ble_eq_true rfl⟩) [0, 5] rfl rfl (q0 := 0) (ci := 3) rfl rfl rfl hl.1 rfl (Nat.le_of_ble_eq_true rfl) dX3_set_101 ⟨Nat.le_refl _, Nat.le_refl _⟩) hP hD hS hA [0, 5] [1, 2, 3, 4] rfl rfl rfl (by decide) (fun r _ H locs hq hP hD hS => ?_)
          have hP : va_P (eD E) vwCl [(x, .inr (3, fx)), (h, .inr (2, [.int mi, .int fo, .int wi, .int sp, .ref qn, .int (nI P), .ref qk, .ref qp, .ref qq, .ref qc, .int wa])), (qp, .inl (eI E, 8, .inl pl)), (qq, .inl (eI E, 8, .inl qu)), (qc, .inl (eI E, 8, .inl ca)), (qf, .inl (eI E, 7, .inl (fn fd 0)))] H := hP.sub [4, 0, 1, 2, 3, 5] rfl
          have hD : va_D A [(x, .inr (3, fx)), (h, .inr (2, [.int mi, .int fo, .int wi, .int sp, .ref qn, .int (nI P), .ref qk, .ref qp, .ref qq, .ref qc, .int wa])), (qp, .inl (eI E, 8, .inl pl)), (qq, .inl (eI E, 8, .inl qu)), (qc, .inl (eI E, 8, .inl ca)), (qf, .inl (eI E, 7, .inl (fn fd 0)))] := hD.sub [4, 0, 1, 2, 3, 5] (by decide) rfl
          subst hq
          exact g_reti F hr hlk (vp_nar_int _) hS hP hD ((pl, qu, ca, fn fd 0)) (rfl) (by first | (simp [cn_set, k1, k2, k3, k4]; done) | (exfalso; clear e_a1; simp_all)) dX3_set_104
        · refine lv_iload_n F.1 F.2.1 dX3_set_74 rfl (lv_at hl 3 rfl) ?_
          refine lv_iconst (v := 0) F.1 F.2.1 dX3_set_75 (by decide) ?_
          refine lv_sipush (v := 9999) F.1 F.2.1 dX3_set_76 (by decide) ?_
          refine g_goIr (g_runS (As := [.int a3, .int 0, .int 9999]) (rest := []) F hX hP hD hS hA (c_X3_isWithin l E a3 0 9999 H.size) (va_cwS 3 F.2.2.2.2 gX3_set_X3_isWithin rfl rfl rfl (by decide +kernel) ⟨Nat.le_of_ble_eq_true rfl, Nat.le_of_ble_eq_true rfl⟩) [] rfl rfl rfl hl.1 rfl (Nat.le_of_ble_eq_true rfl) dX3_set_79 ⟨Nat.le_refl _, Nat.le_refl _⟩) hP hD hS hA [] rfl (fun r _ H locs hq hP hS => ?_)
          subst hq
          refine g_beq (tgt := 98) F dX3_set_82 (by decide) (fun k5 => ?_) (fun k5 => ?_)
          · refine lv_aload_n F.1 F.2.1 dX3_set_98 rfl (lv_at hl 0 rfl) ?_
            refine lv_ldc (v := (-1000000001)) F.1 F.2.1 F.2.2.2.1 (F.2.2.2.2 _ (mm 1 rfl)) dX3_set_99 ?_
            refine g_goI (wr := [(h, .inr (2, [.int mi, .int fo, .int wi, .int sp, .ref qn, .int (nI P), .ref qk, .ref qp, .ref qq, .ref qc, .int wa])), (qp, .inl (eI E, 8, .inl pl)), (qq, .inl (eI E, 8, .inl qu)), (qc, .inl (eI E, 8, .inl ca))]) (g_runV (As := [.int (-1000000001)]) (rest := []) F hX hP hD hS hA (c_X3_found l E x fx qf fd (-1000000001) 0 (by first | assumption | rfl) (by decide +kernel) (by decide) H.size) (cwV 1 F.2.2.2.2 gX3_set_X3_found rfl rfl rfl (by decide +kernel) ⟨Nat.le_of_ble_eq_true rfl, Nat.le_of_ble_eq_true rfl⟩) [0, 5] rfl rfl (q0 := 0) (ci := 3) rfl rfl rfl hl.1 rfl (Nat.le_of_ble_eq_true rfl) dX3_set_101 ⟨Nat.le_refl _, Nat.le_refl _⟩) hP hD hS hA [0, 5] [1, 2, 3, 4] rfl rfl rfl (by decide) (fun r _ H locs hq hP hD hS => ?_)
            have hP : va_P (eD E) vwCl [(x, .inr (3, fx)), (h, .inr (2, [.int mi, .int fo, .int wi, .int sp, .ref qn, .int (nI P), .ref qk, .ref qp, .ref qq, .ref qc, .int wa])), (qp, .inl (eI E, 8, .inl pl)), (qq, .inl (eI E, 8, .inl qu)), (qc, .inl (eI E, 8, .inl ca)), (qf, .inl (eI E, 7, .inl (fn fd 0)))] H := hP.sub [4, 0, 1, 2, 3, 5] rfl
            have hD : va_D A [(x, .inr (3, fx)), (h, .inr (2, [.int mi, .int fo, .int wi, .int sp, .ref qn, .int (nI P), .ref qk, .ref qp, .ref qq, .ref qc, .int wa])), (qp, .inl (eI E, 8, .inl pl)), (qq, .inl (eI E, 8, .inl qu)), (qc, .inl (eI E, 8, .inl ca)), (qf, .inl (eI E, 7, .inl (fn fd 0)))] := hD.sub [4, 0, 1, 2, 3, 5] (by decide) rfl
            subst hq
            exact g_reti F hr hlk (vp_nar_int _) hS hP hD ((pl, qu, ca, fn fd 0)) (rfl) (by first | (simp [cn_set, k1, k2, k3, k4, k5]; done) | (exfalso; clear e_a1; simp_all)) dX3_set_104
          · refine lv_aload_n F.1 F.2.1 dX3_set_85 rfl (lv_at hl 0 rfl) ?_
            refine g_get F hX hP hin3 0 rfl rfl 0 (by decide) (mm 2 rfl) hx0 dX3_set_86 ?_
            refine g_get F hX hP hin2 1 rfl rfl 9 (by decide) (mm 5 rfl) rfl dX3_set_89 ?_
            refine lv_iload_n F.1 F.2.1 dX3_set_92 rfl (lv_at hl 1 rfl) ?_
            refine lv_iload_n F.1 F.2.1 dX3_set_93 rfl (lv_at hl 3 rfl) ?_
            refine g_goI (wr := [(x, .inr (3, fx)), (h, .inr (2, [.int mi, .int fo, .int wi, .int sp, .ref qn, .int (nI P), .ref qk, .ref qp, .ref qq, .ref qc, .int wa])), (qp, .inl (eI E, 8, .inl pl)), (qq, .inl (eI E, 8, .inl qu)), (qf, .inl (eI E, 7, .inl fd))]) (g_runS (As := [.ref qc, .int (nI (ix a1)), .int a3]) (rest := []) F hX hP hD hS hA (c_X3_replace l E qc (ix a1) a3 8 ca (by omega) H.size) (va_cwS 3 F.2.2.2.2 gX3_set_X3_replace rfl rfl rfl (by decide +kernel) ⟨Nat.le_of_ble_eq_true rfl, Nat.le_of_ble_eq_true rfl⟩) [4] rfl rfl rfl hl.1 rfl (Nat.le_of_ble_eq_true rfl) dX3_set_94 ⟨Nat.le_refl _, Nat.le_refl _⟩) hP hD hS hA [4] [0, 1, 2, 3, 5] rfl rfl rfl (by decide) (fun r _ H locs hq hP hD hS => ?_)
            have hP : va_P (eD E) vwCl [(x, .inr (3, fx)), (h, .inr (2, [.int mi, .int fo, .int wi, .int sp, .ref qn, .int (nI P), .ref qk, .ref qp, .ref qq, .ref qc, .int wa])), (qp, .inl (eI E, 8, .inl pl)), (qq, .inl (eI E, 8, .inl qu)), (qc, .inl (eI E, 8, .inl (upd ca (ix a1) a3))), (qf, .inl (eI E, 7, .inl fd))] H := hP.sub [0, 1, 2, 3, 5, 4] rfl
            have hD : va_D A [(x, .inr (3, fx)), (h, .inr (2, [.int mi, .int fo, .int wi, .int sp, .ref qn, .int (nI P), .ref qk, .ref qp, .ref qq, .ref qc, .int wa])), (qp, .inl (eI E, 8, .inl pl)), (qq, .inl (eI E, 8, .inl qu)), (qc, .inl (eI E, 8, .inl (upd ca (ix a1) a3))), (qf, .inl (eI E, 7, .inl fd))] := hD.sub [0, 1, 2, 3, 5, 4] (by decide) rfl
            subst hq
            exact g_reti F hr hlk (vp_nar_int _) hS hP hD ((pl, qu, upd ca (ix a1) a3, fd)) (rfl) (by first | (simp [cn_set, k1, k2, k3, k4, k5]; done) | (exfalso; clear e_a1; simp_all)) dX3_set_97
      · refine lv_iload_n F.1 F.2.1 dX3_set_45 rfl (lv_at hl 3 rfl) ?_
        refine lv_iconst (v := 0) F.1 F.2.1 dX3_set_46 (by decide) ?_
        refine lv_sipush (v := 9999) F.1 F.2.1 dX3_set_47 (by decide) ?_
        refine g_goIr (g_runS (As := [.int a3, .int 0, .int 9999]) (rest := []) F hX hP hD hS hA (c_X3_isWithin l E a3 0 9999 H.size) (va_cwS 3 F.2.2.2.2 gX3_set_X3_isWithin rfl rfl rfl (by decide +kernel) ⟨Nat.le_of_ble_eq_true rfl, Nat.le_of_ble_eq_true rfl⟩) [] rfl rfl rfl hl.1 rfl (Nat.le_of_ble_eq_true rfl) dX3_set_50 ⟨Nat.le_refl _, Nat.le_refl _⟩) hP hD hS hA [] rfl (fun r _ H locs hq hP hS => ?_)
        subst hq
        refine g_beq (tgt := 69) F dX3_set_53 (by decide) (fun k6 => ?_) (fun k6 => ?_)
        · refine lv_iload_n F.1 F.2.1 dX3_set_69 rfl (lv_at hl 2 rfl) ?_
          refine lv_iconst (v := 3) F.1 F.2.1 dX3_set_70 (by decide) ?_
          refine lv_icmp_ne (tgt := 98) F.1 F.2.1 dX3_set_71 (by decide) (fun k7 => ?_) (fun k7 => ?_)
          · refine lv_aload_n F.1 F.2.1 dX3_set_98 rfl (lv_at hl 0 rfl) ?_
            refine lv_ldc (v := (-1000000001)) F.1 F.2.1 F.2.2.2.1 (F.2.2.2.2 _ (mm 1 rfl)) dX3_set_99 ?_
            refine g_goI (wr := [(h, .inr (2, [.int mi, .int fo, .int wi, .int sp, .ref qn, .int (nI P), .ref qk, .ref qp, .ref qq, .ref qc, .int wa])), (qp, .inl (eI E, 8, .inl pl)), (qq, .inl (eI E, 8, .inl qu)), (qc, .inl (eI E, 8, .inl ca))]) (g_runV (As := [.int (-1000000001)]) (rest := []) F hX hP hD hS hA (c_X3_found l E x fx qf fd (-1000000001) 0 (by first | assumption | rfl) (by decide +kernel) (by decide) H.size) (cwV 1 F.2.2.2.2 gX3_set_X3_found rfl rfl rfl (by decide +kernel) ⟨Nat.le_of_ble_eq_true rfl, Nat.le_of_ble_eq_true rfl⟩) [0, 5] rfl rfl (q0 := 0) (ci := 3) rfl rfl rfl hl.1 rfl (Nat.le_of_ble_eq_true rfl) dX3_set_101 ⟨Nat.le_refl _, Nat.le_refl _⟩) hP hD hS hA [0, 5] [1, 2, 3, 4] rfl rfl rfl (by decide) (fun r _ H locs hq hP hD hS => ?_)
            have hP : va_P (eD E) vwCl [(x, .inr (3, fx)), (h, .inr (2, [.int mi, .int fo, .int wi, .int sp, .ref qn, .int (nI P), .ref qk, .ref qp, .ref qq, .ref qc, .int wa])), (qp, .inl (eI E, 8, .inl pl)), (qq, .inl (eI E, 8, .inl qu)), (qc, .inl (eI E, 8, .inl ca)), (qf, .inl (eI E, 7, .inl (fn fd 0)))] H := hP.sub [4, 0, 1, 2, 3, 5] rfl
            have hD : va_D A [(x, .inr (3, fx)), (h, .inr (2, [.int mi, .int fo, .int wi, .int sp, .ref qn, .int (nI P), .ref qk, .ref qp, .ref qq, .ref qc, .int wa])), (qp, .inl (eI E, 8, .inl pl)), (qq, .inl (eI E, 8, .inl qu)), (qc, .inl (eI E, 8, .inl ca)), (qf, .inl (eI E, 7, .inl (fn fd 0)))] := hD.sub [4, 0, 1, 2, 3, 5] (by decide) rfl
            subst hq
            exact g_reti F hr hlk (vp_nar_int _) hS hP hD ((pl, qu, ca, fn fd 0)) (rfl) (by first | (simp [cn_set, k1, k2, k3, k6, k7]; done) | (exfalso; clear e_a1; simp_all)) dX3_set_104
          · refine lv_iload_n F.1 F.2.1 dX3_set_74 rfl (lv_at hl 3 rfl) ?_
            refine lv_iconst (v := 0) F.1 F.2.1 dX3_set_75 (by decide) ?_
            refine lv_sipush (v := 9999) F.1 F.2.1 dX3_set_76 (by decide) ?_
            refine g_goIr (g_runS (As := [.int a3, .int 0, .int 9999]) (rest := []) F hX hP hD hS hA (c_X3_isWithin l E a3 0 9999 H.size) (va_cwS 3 F.2.2.2.2 gX3_set_X3_isWithin rfl rfl rfl (by decide +kernel) ⟨Nat.le_of_ble_eq_true rfl, Nat.le_of_ble_eq_true rfl⟩) [] rfl rfl rfl hl.1 rfl (Nat.le_of_ble_eq_true rfl) dX3_set_79 ⟨Nat.le_refl _, Nat.le_refl _⟩) hP hD hS hA [] rfl (fun r _ H locs hq hP hS => ?_)
            subst hq
            refine g_beq (tgt := 98) F dX3_set_82 (by decide) (fun k8 => ?_) (fun k8 => ?_)
            · refine lv_aload_n F.1 F.2.1 dX3_set_98 rfl (lv_at hl 0 rfl) ?_
              refine lv_ldc (v := (-1000000001)) F.1 F.2.1 F.2.2.2.1 (F.2.2.2.2 _ (mm 1 rfl)) dX3_set_99 ?_
              refine g_goI (wr := [(h, .inr (2, [.int mi, .int fo, .int wi, .int sp, .ref qn, .int (nI P), .ref qk, .ref qp, .ref qq, .ref qc, .int wa])), (qp, .inl (eI E, 8, .inl pl)), (qq, .inl (eI E, 8, .inl qu)), (qc, .inl (eI E, 8, .inl ca))]) (g_runV (As := [.int (-1000000001)]) (rest := []) F hX hP hD hS hA (c_X3_found l E x fx qf fd (-1000000001) 0 (by first | assumption | rfl) (by decide +kernel) (by decide) H.size) (cwV 1 F.2.2.2.2 gX3_set_X3_found rfl rfl rfl (by decide +kernel) ⟨Nat.le_of_ble_eq_true rfl, Nat.le_of_ble_eq_true rfl⟩) [0, 5] rfl rfl (q0 := 0) (ci := 3) rfl rfl rfl hl.1 rfl (Nat.le_of_ble_eq_true rfl) dX3_set_101 ⟨Nat.le_refl _, Nat.le_refl _⟩) hP hD hS hA [0, 5] [1, 2, 3, 4] rfl rfl rfl (by decide) (fun r _ H locs hq hP hD hS => ?_)
              have hP : va_P (eD E) vwCl [(x, .inr (3, fx)), (h, .inr (2, [.int mi, .int fo, .int wi, .int sp, .ref qn, .int (nI P), .ref qk, .ref qp, .ref qq, .ref qc, .int wa])), (qp, .inl (eI E, 8, .inl pl)), (qq, .inl (eI E, 8, .inl qu)), (qc, .inl (eI E, 8, .inl ca)), (qf, .inl (eI E, 7, .inl (fn fd 0)))] H := hP.sub [4, 0, 1, 2, 3, 5] rfl
              have hD : va_D A [(x, .inr (3, fx)), (h, .inr (2, [.int mi, .int fo, .int wi, .int sp, .ref qn, .int (nI P), .ref qk, .ref qp, .ref qq, .ref qc, .int wa])), (qp, .inl (eI E, 8, .inl pl)), (qq, .inl (eI E, 8, .inl qu)), (qc, .inl (eI E, 8, .inl ca)), (qf, .inl (eI E, 7, .inl (fn fd 0)))] := hD.sub [4, 0, 1, 2, 3, 5] (by decide) rfl
              subst hq
              exact g_reti F hr hlk (vp_nar_int _) hS hP hD ((pl, qu, ca, fn fd 0)) (rfl) (by first | (simp [cn_set, k1, k2, k3, k6, k7, k8]; done) | (exfalso; clear e_a1; simp_all)) dX3_set_104
            · refine lv_aload_n F.1 F.2.1 dX3_set_85 rfl (lv_at hl 0 rfl) ?_
              refine g_get F hX hP hin3 0 rfl rfl 0 (by decide) (mm 2 rfl) hx0 dX3_set_86 ?_
              refine g_get F hX hP hin2 1 rfl rfl 9 (by decide) (mm 5 rfl) rfl dX3_set_89 ?_
              refine lv_iload_n F.1 F.2.1 dX3_set_92 rfl (lv_at hl 1 rfl) ?_
              refine lv_iload_n F.1 F.2.1 dX3_set_93 rfl (lv_at hl 3 rfl) ?_
              refine g_goI (wr := [(x, .inr (3, fx)), (h, .inr (2, [.int mi, .int fo, .int wi, .int sp, .ref qn, .int (nI P), .ref qk, .ref qp, .ref qq, .ref qc, .int wa])), (qp, .inl (eI E, 8, .inl pl)), (qq, .inl (eI E, 8, .inl qu)), (qf, .inl (eI E, 7, .inl fd))]) (g_runS (As := [.ref qc, .int (nI (ix a1)), .int a3]) (rest := []) F hX hP hD hS hA (c_X3_replace l E qc (ix a1) a3 8 ca (by omega) H.size) (va_cwS 3 F.2.2.2.2 gX3_set_X3_replace rfl rfl rfl (by decide +kernel) ⟨Nat.le_of_ble_eq_true rfl, Nat.le_of_ble_eq_true rfl⟩) [4] rfl rfl rfl hl.1 rfl (Nat.le_of_ble_eq_true rfl) dX3_set_94 ⟨Nat.le_refl _, Nat.le_refl _⟩) hP hD hS hA [4] [0, 1, 2, 3, 5] rfl rfl rfl (by decide) (fun r _ H locs hq hP hD hS => ?_)
              have hP : va_P (eD E) vwCl [(x, .inr (3, fx)), (h, .inr (2, [.int mi, .int fo, .int wi, .int sp, .ref qn, .int (nI P), .ref qk, .ref qp, .ref qq, .ref qc, .int wa])), (qp, .inl (eI E, 8, .inl pl)), (qq, .inl (eI E, 8, .inl qu)), (qc, .inl (eI E, 8, .inl (upd ca (ix a1) a3))), (qf, .inl (eI E, 7, .inl fd))] H := hP.sub [0, 1, 2, 3, 5, 4] rfl
              have hD : va_D A [(x, .inr (3, fx)), (h, .inr (2, [.int mi, .int fo, .int wi, .int sp, .ref qn, .int (nI P), .ref qk, .ref qp, .ref qq, .ref qc, .int wa])), (qp, .inl (eI E, 8, .inl pl)), (qq, .inl (eI E, 8, .inl qu)), (qc, .inl (eI E, 8, .inl (upd ca (ix a1) a3))), (qf, .inl (eI E, 7, .inl fd))] := hD.sub [0, 1, 2, 3, 5, 4] (by decide) rfl
              subst hq
              exact g_reti F hr hlk (vp_nar_int _) hS hP hD ((pl, qu, upd ca (ix a1) a3, fd)) (rfl) (by first | (simp [cn_set, k1, k2, k3, k6, k7, k8]; done) | (exfalso; clear e_a1; simp_all)) dX3_set_97
        · refine lv_aload_n F.1 F.2.1 dX3_set_56 rfl (lv_at hl 0 rfl) ?_
          refine g_get F hX hP hin3 0 rfl rfl 0 (by decide) (mm 2 rfl) hx0 dX3_set_57 ?_
          refine g_get F hX hP hin2 1 rfl rfl 8 (by decide) (mm 4 rfl) rfl dX3_set_60 ?_
          refine lv_iload_n F.1 F.2.1 dX3_set_63 rfl (lv_at hl 1 rfl) ?_
          refine lv_iload_n F.1 F.2.1 dX3_set_64 rfl (lv_at hl 3 rfl) ?_
          refine g_goI (wr := [(x, .inr (3, fx)), (h, .inr (2, [.int mi, .int fo, .int wi, .int sp, .ref qn, .int (nI P), .ref qk, .ref qp, .ref qq, .ref qc, .int wa])), (qp, .inl (eI E, 8, .inl pl)), (qc, .inl (eI E, 8, .inl ca)), (qf, .inl (eI E, 7, .inl fd))]) (g_runS (As := [.ref qq, .int (nI (ix a1)), .int a3]) (rest := []) F hX hP hD hS hA (c_X3_replace l E qq (ix a1) a3 8 qu (by omega) H.size) (va_cwS 3 F.2.2.2.2 gX3_set_X3_replace rfl rfl rfl (by decide +kernel) ⟨Nat.le_of_ble_eq_true rfl, Nat.le_of_ble_eq_true rfl⟩) [3] rfl rfl rfl hl.1 rfl (Nat.le_of_ble_eq_true rfl) dX3_set_65 ⟨Nat.le_refl _, Nat.le_refl _⟩) hP hD hS hA [3] [0, 1, 2, 4, 5] rfl rfl rfl (by decide) (fun r _ H locs hq hP hD hS => ?_)
          have hP : va_P (eD E) vwCl [(x, .inr (3, fx)), (h, .inr (2, [.int mi, .int fo, .int wi, .int sp, .ref qn, .int (nI P), .ref qk, .ref qp, .ref qq, .ref qc, .int wa])), (qp, .inl (eI E, 8, .inl pl)), (qq, .inl (eI E, 8, .inl (upd qu (ix a1) a3))), (qc, .inl (eI E, 8, .inl ca)), (qf, .inl (eI E, 7, .inl fd))] H := hP.sub [0, 1, 2, 5, 3, 4] rfl
          have hD : va_D A [(x, .inr (3, fx)), (h, .inr (2, [.int mi, .int fo, .int wi, .int sp, .ref qn, .int (nI P), .ref qk, .ref qp, .ref qq, .ref qc, .int wa])), (qp, .inl (eI E, 8, .inl pl)), (qq, .inl (eI E, 8, .inl (upd qu (ix a1) a3))), (qc, .inl (eI E, 8, .inl ca)), (qf, .inl (eI E, 7, .inl fd))] := hD.sub [0, 1, 2, 5, 3, 4] (by decide) rfl
          subst hq
          exact g_reti F hr hlk (vp_nar_int _) hS hP hD ((pl, upd qu (ix a1) a3, ca, fd)) (rfl) (by first | (simp [cn_set, k1, k2, k3, k6]; done) | (exfalso; clear e_a1; simp_all)) dX3_set_68
    · refine lv_iload_n F.1 F.2.1 dX3_set_20 rfl (lv_at hl 3 rfl) ?_
      refine g_goIr (g_runS (As := [.int a3]) (rest := []) F hX hP hD hS hA (c_X3_isHouse l E a3 H.size) (va_cwS 1 F.2.2.2.2 gX3_set_X3_isHouse rfl rfl rfl (by decide +kernel) ⟨Nat.le_of_ble_eq_true rfl, Nat.le_of_ble_eq_true rfl⟩) [] rfl rfl rfl hl.1 rfl (Nat.le_of_ble_eq_true rfl) dX3_set_21 ⟨Nat.le_refl _, Nat.le_refl _⟩) hP hD hS hA [] rfl (fun r _ H locs hq hP hS => ?_)
      subst hq
      refine g_beq (tgt := 40) F dX3_set_24 (by decide) (fun k9 => ?_) (fun k9 => ?_)
      · refine lv_iload_n F.1 F.2.1 dX3_set_40 rfl (lv_at hl 2 rfl) ?_
        refine lv_iconst (v := 2) F.1 F.2.1 dX3_set_41 (by decide) ?_
        refine lv_icmp_ne (tgt := 69) F.1 F.2.1 dX3_set_42 (by decide) (fun k10 => ?_) (fun k10 => ?_)
        · refine lv_iload_n F.1 F.2.1 dX3_set_69 rfl (lv_at hl 2 rfl) ?_
          refine lv_iconst (v := 3) F.1 F.2.1 dX3_set_70 (by decide) ?_
          refine lv_icmp_ne (tgt := 98) F.1 F.2.1 dX3_set_71 (by decide) (fun k11 => ?_) (fun k11 => ?_)
          · refine lv_aload_n F.1 F.2.1 dX3_set_98 rfl (lv_at hl 0 rfl) ?_
            refine lv_ldc (v := (-1000000001)) F.1 F.2.1 F.2.2.2.1 (F.2.2.2.2 _ (mm 1 rfl)) dX3_set_99 ?_
            refine g_goI (wr := [(h, .inr (2, [.int mi, .int fo, .int wi, .int sp, .ref qn, .int (nI P), .ref qk, .ref qp, .ref qq, .ref qc, .int wa])), (qp, .inl (eI E, 8, .inl pl)), (qq, .inl (eI E, 8, .inl qu)), (qc, .inl (eI E, 8, .inl ca))]) (g_runV (As := [.int (-1000000001)]) (rest := []) F hX hP hD hS hA (c_X3_found l E x fx qf fd (-1000000001) 0 (by first | assumption | rfl) (by decide +kernel) (by decide) H.size) (cwV 1 F.2.2.2.2 gX3_set_X3_found rfl rfl rfl (by decide +kernel) ⟨Nat.le_of_ble_eq_true rfl, Nat.le_of_ble_eq_true rfl⟩) [0, 5] rfl rfl (q0 := 0) (ci := 3) rfl rfl rfl hl.1 rfl (Nat.le_of_ble_eq_true rfl) dX3_set_101 ⟨Nat.le_refl _, Nat.le_refl _⟩) hP hD hS hA [0, 5] [1, 2, 3, 4] rfl rfl rfl (by decide) (fun r _ H locs hq hP hD hS => ?_)
            have hP : va_P (eD E) vwCl [(x, .inr (3, fx)), (h, .inr (2, [.int mi, .int fo, .int wi, .int sp, .ref qn, .int (nI P), .ref qk, .ref qp, .ref qq, .ref qc, .int wa])), (qp, .inl (eI E, 8, .inl pl)), (qq, .inl (eI E, 8, .inl qu)), (qc, .inl (eI E, 8, .inl ca)), (qf, .inl (eI E, 7, .inl (fn fd 0)))] H := hP.sub [4, 0, 1, 2, 3, 5] rfl
            have hD : va_D A [(x, .inr (3, fx)), (h, .inr (2, [.int mi, .int fo, .int wi, .int sp, .ref qn, .int (nI P), .ref qk, .ref qp, .ref qq, .ref qc, .int wa])), (qp, .inl (eI E, 8, .inl pl)), (qq, .inl (eI E, 8, .inl qu)), (qc, .inl (eI E, 8, .inl ca)), (qf, .inl (eI E, 7, .inl (fn fd 0)))] := hD.sub [4, 0, 1, 2, 3, 5] (by decide) rfl
            subst hq
            exact g_reti F hr hlk (vp_nar_int _) hS hP hD ((pl, qu, ca, fn fd 0)) (rfl) (by first | (simp [cn_set, k1, k2, k9, k10, k11]; done) | (exfalso; clear e_a1; simp_all)) dX3_set_104
          · refine lv_iload_n F.1 F.2.1 dX3_set_74 rfl (lv_at hl 3 rfl) ?_
            refine lv_iconst (v := 0) F.1 F.2.1 dX3_set_75 (by decide) ?_
            refine lv_sipush (v := 9999) F.1 F.2.1 dX3_set_76 (by decide) ?_
            refine g_goIr (g_runS (As := [.int a3, .int 0, .int 9999]) (rest := []) F hX hP hD hS hA (c_X3_isWithin l E a3 0 9999 H.size) (va_cwS 3 F.2.2.2.2 gX3_set_X3_isWithin rfl rfl rfl (by decide +kernel) ⟨Nat.le_of_ble_eq_true rfl, Nat.le_of_ble_eq_true rfl⟩) [] rfl rfl rfl hl.1 rfl (Nat.le_of_ble_eq_true rfl) dX3_set_79 ⟨Nat.le_refl _, Nat.le_refl _⟩) hP hD hS hA [] rfl (fun r _ H locs hq hP hS => ?_)
            subst hq
            refine g_beq (tgt := 98) F dX3_set_82 (by decide) (fun k12 => ?_) (fun k12 => ?_)
            · refine lv_aload_n F.1 F.2.1 dX3_set_98 rfl (lv_at hl 0 rfl) ?_
              refine lv_ldc (v := (-1000000001)) F.1 F.2.1 F.2.2.2.1 (F.2.2.2.2 _ (mm 1 rfl)) dX3_set_99 ?_
              refine g_goI (wr := [(h, .inr (2, [.int mi, .int fo, .int wi, .int sp, .ref qn, .int (nI P), .ref qk, .ref qp, .ref qq, .ref qc, .int wa])), (qp, .inl (eI E, 8, .inl pl)), (qq, .inl (eI E, 8, .inl qu)), (qc, .inl (eI E, 8, .inl ca))]) (g_runV (As := [.int (-1000000001)]) (rest := []) F hX hP hD hS hA (c_X3_found l E x fx qf fd (-1000000001) 0 (by first | assumption | rfl) (by decide +kernel) (by decide) H.size) (cwV 1 F.2.2.2.2 gX3_set_X3_found rfl rfl rfl (by decide +kernel) ⟨Nat.le_of_ble_eq_true rfl, Nat.le_of_ble_eq_true rfl⟩) [0, 5] rfl rfl (q0 := 0) (ci := 3) rfl rfl rfl hl.1 rfl (Nat.le_of_ble_eq_true rfl) dX3_set_101 ⟨Nat.le_refl _, Nat.le_refl _⟩) hP hD hS hA [0, 5] [1, 2, 3, 4] rfl rfl rfl (by decide) (fun r _ H locs hq hP hD hS => ?_)
              have hP : va_P (eD E) vwCl [(x, .inr (3, fx)), (h, .inr (2, [.int mi, .int fo, .int wi, .int sp, .ref qn, .int (nI P), .ref qk, .ref qp, .ref qq, .ref qc, .int wa])), (qp, .inl (eI E, 8, .inl pl)), (qq, .inl (eI E, 8, .inl qu)), (qc, .inl (eI E, 8, .inl ca)), (qf, .inl (eI E, 7, .inl (fn fd 0)))] H := hP.sub [4, 0, 1, 2, 3, 5] rfl
              have hD : va_D A [(x, .inr (3, fx)), (h, .inr (2, [.int mi, .int fo, .int wi, .int sp, .ref qn, .int (nI P), .ref qk, .ref qp, .ref qq, .ref qc, .int wa])), (qp, .inl (eI E, 8, .inl pl)), (qq, .inl (eI E, 8, .inl qu)), (qc, .inl (eI E, 8, .inl ca)), (qf, .inl (eI E, 7, .inl (fn fd 0)))] := hD.sub [4, 0, 1, 2, 3, 5] (by decide) rfl
              subst hq
              exact g_reti F hr hlk (vp_nar_int _) hS hP hD ((pl, qu, ca, fn fd 0)) (rfl) (by first | (simp [cn_set, k1, k2, k9, k10, k11, k12]; done) | (exfalso; clear e_a1; simp_all)) dX3_set_104
            · refine lv_aload_n F.1 F.2.1 dX3_set_85 rfl (lv_at hl 0 rfl) ?_
              refine g_get F hX hP hin3 0 rfl rfl 0 (by decide) (mm 2 rfl) hx0 dX3_set_86 ?_
              refine g_get F hX hP hin2 1 rfl rfl 9 (by decide) (mm 5 rfl) rfl dX3_set_89 ?_
              refine lv_iload_n F.1 F.2.1 dX3_set_92 rfl (lv_at hl 1 rfl) ?_
              refine lv_iload_n F.1 F.2.1 dX3_set_93 rfl (lv_at hl 3 rfl) ?_
              refine g_goI (wr := [(x, .inr (3, fx)), (h, .inr (2, [.int mi, .int fo, .int wi, .int sp, .ref qn, .int (nI P), .ref qk, .ref qp, .ref qq, .ref qc, .int wa])), (qp, .inl (eI E, 8, .inl pl)), (qq, .inl (eI E, 8, .inl qu)), (qf, .inl (eI E, 7, .inl fd))]) (g_runS (As := [.ref qc, .int (nI (ix a1)), .int a3]) (rest := []) F hX hP hD hS hA (c_X3_replace l E qc (ix a1) a3 8 ca (by omega) H.size) (va_cwS 3 F.2.2.2.2 gX3_set_X3_replace rfl rfl rfl (by decide +kernel) ⟨Nat.le_of_ble_eq_true rfl, Nat.le_of_ble_eq_true rfl⟩) [4] rfl rfl rfl hl.1 rfl (Nat.le_of_ble_eq_true rfl) dX3_set_94 ⟨Nat.le_refl _, Nat.le_refl _⟩) hP hD hS hA [4] [0, 1, 2, 3, 5] rfl rfl rfl (by decide) (fun r _ H locs hq hP hD hS => ?_)
              have hP : va_P (eD E) vwCl [(x, .inr (3, fx)), (h, .inr (2, [.int mi, .int fo, .int wi, .int sp, .ref qn, .int (nI P), .ref qk, .ref qp, .ref qq, .ref qc, .int wa])), (qp, .inl (eI E, 8, .inl pl)), (qq, .inl (eI E, 8, .inl qu)), (qc, .inl (eI E, 8, .inl (upd ca (ix a1) a3))), (qf, .inl (eI E, 7, .inl fd))] H := hP.sub [0, 1, 2, 3, 5, 4] rfl
              have hD : va_D A [(x, .inr (3, fx)), (h, .inr (2, [.int mi, .int fo, .int wi, .int sp, .ref qn, .int (nI P), .ref qk, .ref qp, .ref qq, .ref qc, .int wa])), (qp, .inl (eI E, 8, .inl pl)), (qq, .inl (eI E, 8, .inl qu)), (qc, .inl (eI E, 8, .inl (upd ca (ix a1) a3))), (qf, .inl (eI E, 7, .inl fd))] := hD.sub [0, 1, 2, 3, 5, 4] (by decide) rfl
              subst hq
              exact g_reti F hr hlk (vp_nar_int _) hS hP hD ((pl, qu, upd ca (ix a1) a3, fd)) (rfl) (by first | (simp [cn_set, k1, k2, k9, k10, k11, k12]; done) | (exfalso; clear e_a1; simp_all)) dX3_set_97
        · refine lv_iload_n F.1 F.2.1 dX3_set_45 rfl (lv_at hl 3 rfl) ?_
          refine lv_iconst (v := 0) F.1 F.2.1 dX3_set_46 (by decide) ?_
          refine lv_sipush (v := 9999) F.1 F.2.1 dX3_set_47 (by decide) ?_
          refine g_goIr (g_runS (As := [.int a3, .int 0, .int 9999]) (rest := []) F hX hP hD hS hA (c_X3_isWithin l E a3 0 9999 H.size) (va_cwS 3 F.2.2.2.2 gX3_set_X3_isWithin rfl rfl rfl (by decide +kernel) ⟨Nat.le_of_ble_eq_true rfl, Nat.le_of_ble_eq_true rfl⟩) [] rfl rfl rfl hl.1 rfl (Nat.le_of_ble_eq_true rfl) dX3_set_50 ⟨Nat.le_refl _, Nat.le_refl _⟩) hP hD hS hA [] rfl (fun r _ H locs hq hP hS => ?_)
          subst hq
          refine g_beq (tgt := 69) F dX3_set_53 (by decide) (fun k13 => ?_) (fun k13 => ?_)
          · refine lv_iload_n F.1 F.2.1 dX3_set_69 rfl (lv_at hl 2 rfl) ?_
            refine lv_iconst (v := 3) F.1 F.2.1 dX3_set_70 (by decide) ?_
            refine lv_icmp_ne (tgt := 98) F.1 F.2.1 dX3_set_71 (by decide) (fun k14 => ?_) (fun k14 => ?_)
            · refine lv_aload_n F.1 F.2.1 dX3_set_98 rfl (lv_at hl 0 rfl) ?_
              refine lv_ldc (v := (-1000000001)) F.1 F.2.1 F.2.2.2.1 (F.2.2.2.2 _ (mm 1 rfl)) dX3_set_99 ?_
              refine g_goI (wr := [(h, .inr (2, [.int mi, .int fo, .int wi, .int sp, .ref qn, .int (nI P), .ref qk, .ref qp, .ref qq, .ref qc, .int wa])), (qp, .inl (eI E, 8, .inl pl)), (qq, .inl (eI E, 8, .inl qu)), (qc, .inl (eI E, 8, .inl ca))]) (g_runV (As := [.int (-1000000001)]) (rest := []) F hX hP hD hS hA (c_X3_found l E x fx qf fd (-1000000001) 0 (by first | assumption | rfl) (by decide +kernel) (by decide) H.size) (cwV 1 F.2.2.2.2 gX3_set_X3_found rfl rfl rfl (by decide +kernel) ⟨Nat.le_of_ble_eq_true rfl, Nat.le_of_ble_eq_true rfl⟩) [0, 5] rfl rfl (q0 := 0) (ci := 3) rfl rfl rfl hl.1 rfl (Nat.le_of_ble_eq_true rfl) dX3_set_101 ⟨Nat.le_refl _, Nat.le_refl _⟩) hP hD hS hA [0, 5] [1, 2, 3, 4] rfl rfl rfl (by decide) (fun r _ H locs hq hP hD hS => ?_)
              have hP : va_P (eD E) vwCl [(x, .inr (3, fx)), (h, .inr (2, [.int mi, .int fo, .int wi, .int sp, .ref qn, .int (nI P), .ref qk, .ref qp, .ref qq, .ref qc, .int wa])), (qp, .inl (eI E, 8, .inl pl)), (qq, .inl (eI E, 8, .inl qu)), (qc, .inl (eI E, 8, .inl ca)), (qf, .inl (eI E, 7, .inl (fn fd 0)))] H := hP.sub [4, 0, 1, 2, 3, 5] rfl
              have hD : va_D A [(x, .inr (3, fx)), (h, .inr (2, [.int mi, .int fo, .int wi, .int sp, .ref qn, .int (nI P), .ref qk, .ref qp, .ref qq, .ref qc, .int wa])), (qp, .inl (eI E, 8, .inl pl)), (qq, .inl (eI E, 8, .inl qu)), (qc, .inl (eI E, 8, .inl ca)), (qf, .inl (eI E, 7, .inl (fn fd 0)))] := hD.sub [4, 0, 1, 2, 3, 5] (by decide) rfl
              subst hq
              exact g_reti F hr hlk (vp_nar_int _) hS hP hD ((pl, qu, ca, fn fd 0)) (rfl) (by first | (simp [cn_set, k1, k2, k9, k10, k13, k14]; done) | (exfalso; clear e_a1; simp_all)) dX3_set_104
            · refine lv_iload_n F.1 F.2.1 dX3_set_74 rfl (lv_at hl 3 rfl) ?_
              refine lv_iconst (v := 0) F.1 F.2.1 dX3_set_75 (by decide) ?_
              refine lv_sipush (v := 9999) F.1 F.2.1 dX3_set_76 (by decide) ?_
              refine g_goIr (g_runS (As := [.int a3, .int 0, .int 9999]) (rest := []) F hX hP hD hS hA (c_X3_isWithin l E a3 0 9999 H.size) (va_cwS 3 F.2.2.2.2 gX3_set_X3_isWithin rfl rfl rfl (by decide +kernel) ⟨Nat.le_of_ble_eq_true rfl, Nat.le_of_ble_eq_true rfl⟩) [] rfl rfl rfl hl.1 rfl (Nat.le_of_ble_eq_true rfl) dX3_set_79 ⟨Nat.le_refl _, Nat.le_refl _⟩) hP hD hS hA [] rfl (fun r _ H locs hq hP hS => ?_)
              subst hq
              refine g_beq (tgt := 98) F dX3_set_82 (by decide) (fun k15 => ?_) (fun k15 => ?_)
              · refine lv_aload_n F.1 F.2.1 dX3_set_98 rfl (lv_at hl 0 rfl) ?_
                refine lv_ldc (v := (-1000000001)) F.1 F.2.1 F.2.2.2.1 (F.2.2.2.2 _ (mm 1 rfl)) dX3_set_99 ?_
                refine g_goI (wr := [(h, .inr (2, [.int mi, .int fo, .int wi, .int sp, .ref qn, .int (nI P), .ref qk, .ref qp, .ref qq, .ref qc, .int wa])), (qp, .inl (eI E, 8, .inl pl)), (qq, .inl (eI E, 8, .inl qu)), (qc, .inl (eI E, 8, .inl ca))]) (g_runV (As := [.int (-1000000001)]) (rest := []) F hX hP hD hS hA (c_X3_found l E x fx qf fd (-1000000001) 0 (by first | assumption | rfl) (by decide +kernel) (by decide) H.size) (cwV 1 F.2.2.2.2 gX3_set_X3_found rfl rfl rfl (by decide +kernel) ⟨Nat.le_of_ble_eq_true rfl, Nat.le_of_ble_eq_true rfl⟩) [0, 5] rfl rfl (q0 := 0) (ci := 3) rfl rfl rfl hl.1 rfl (Nat.le_of_ble_eq_true rfl) dX3_set_101 ⟨Nat.le_refl _, Nat.le_refl _⟩) hP hD hS hA [0, 5] [1, 2, 3, 4] rfl rfl rfl (by decide) (fun r _ H locs hq hP hD hS => ?_)
                have hP : va_P (eD E) vwCl [(x, .inr (3, fx)), (h, .inr (2, [.int mi, .int fo, .int wi, .int sp, .ref qn, .int (nI P), .ref qk, .ref qp, .ref qq, .ref qc, .int wa])), (qp, .inl (eI E, 8, .inl pl)), (qq, .inl (eI E, 8, .inl qu)), (qc, .inl (eI E, 8, .inl ca)), (qf, .inl (eI E, 7, .inl (fn fd 0)))] H := hP.sub [4, 0, 1, 2, 3, 5] rfl
                have hD : va_D A [(x, .inr (3, fx)), (h, .inr (2, [.int mi, .int fo, .int wi, .int sp, .ref qn, .int (nI P), .ref qk, .ref qp, .ref qq, .ref qc, .int wa])), (qp, .inl (eI E, 8, .inl pl)), (qq, .inl (eI E, 8, .inl qu)), (qc, .inl (eI E, 8, .inl ca)), (qf, .inl (eI E, 7, .inl (fn fd 0)))] := hD.sub [4, 0, 1, 2, 3, 5] (by decide) rfl
                subst hq
                exact g_reti F hr hlk (vp_nar_int _) hS hP hD ((pl, qu, ca, fn fd 0)) (rfl) (by first | (simp [cn_set, k1, k2, k9, k10, k13, k14, k15]; done) | (exfalso; clear e_a1; simp_all)) dX3_set_104
              · refine lv_aload_n F.1 F.2.1 dX3_set_85 rfl (lv_at hl 0 rfl) ?_
                refine g_get F hX hP hin3 0 rfl rfl 0 (by decide) (mm 2 rfl) hx0 dX3_set_86 ?_
                refine g_get F hX hP hin2 1 rfl rfl 9 (by decide) (mm 5 rfl) rfl dX3_set_89 ?_
                refine lv_iload_n F.1 F.2.1 dX3_set_92 rfl (lv_at hl 1 rfl) ?_
                refine lv_iload_n F.1 F.2.1 dX3_set_93 rfl (lv_at hl 3 rfl) ?_
                refine g_goI (wr := [(x, .inr (3, fx)), (h, .inr (2, [.int mi, .int fo, .int wi, .int sp, .ref qn, .int (nI P), .ref qk, .ref qp, .ref qq, .ref qc, .int wa])), (qp, .inl (eI E, 8, .inl pl)), (qq, .inl (eI E, 8, .inl qu)), (qf, .inl (eI E, 7, .inl fd))]) (g_runS (As := [.ref qc, .int (nI (ix a1)), .int a3]) (rest := []) F hX hP hD hS hA (c_X3_replace l E qc (ix a1) a3 8 ca (by omega) H.size) (va_cwS 3 F.2.2.2.2 gX3_set_X3_replace rfl rfl rfl (by decide +kernel) ⟨Nat.le_of_ble_eq_true rfl, Nat.le_of_ble_eq_true rfl⟩) [4] rfl rfl rfl hl.1 rfl (Nat.le_of_ble_eq_true rfl) dX3_set_94 ⟨Nat.le_refl _, Nat.le_refl _⟩) hP hD hS hA [4] [0, 1, 2, 3, 5] rfl rfl rfl (by decide) (fun r _ H locs hq hP hD hS => ?_)
                have hP : va_P (eD E) vwCl [(x, .inr (3, fx)), (h, .inr (2, [.int mi, .int fo, .int wi, .int sp, .ref qn, .int (nI P), .ref qk, .ref qp, .ref qq, .ref qc, .int wa])), (qp, .inl (eI E, 8, .inl pl)), (qq, .inl (eI E, 8, .inl qu)), (qc, .inl (eI E, 8, .inl (upd ca (ix a1) a3))), (qf, .inl (eI E, 7, .inl fd))] H := hP.sub [0, 1, 2, 3, 5, 4] rfl
                have hD : va_D A [(x, .inr (3, fx)), (h, .inr (2, [.int mi, .int fo, .int wi, .int sp, .ref qn, .int (nI P), .ref qk, .ref qp, .ref qq, .ref qc, .int wa])), (qp, .inl (eI E, 8, .inl pl)), (qq, .inl (eI E, 8, .inl qu)), (qc, .inl (eI E, 8, .inl (upd ca (ix a1) a3))), (qf, .inl (eI E, 7, .inl fd))] := hD.sub [0, 1, 2, 3, 5, 4] (by decide) rfl
                subst hq
                exact g_reti F hr hlk (vp_nar_int _) hS hP hD ((pl, qu, upd ca (ix a1) a3, fd)) (rfl) (by first | (simp [cn_set, k1, k2, k9, k10, k13, k14, k15]; done) | (exfalso; clear e_a1; simp_all)) dX3_set_97
          · refine lv_aload_n F.1 F.2.1 dX3_set_56 rfl (lv_at hl 0 rfl) ?_
            refine g_get F hX hP hin3 0 rfl rfl 0 (by decide) (mm 2 rfl) hx0 dX3_set_57 ?_
            refine g_get F hX hP hin2 1 rfl rfl 8 (by decide) (mm 4 rfl) rfl dX3_set_60 ?_
            refine lv_iload_n F.1 F.2.1 dX3_set_63 rfl (lv_at hl 1 rfl) ?_
            refine lv_iload_n F.1 F.2.1 dX3_set_64 rfl (lv_at hl 3 rfl) ?_
            refine g_goI (wr := [(x, .inr (3, fx)), (h, .inr (2, [.int mi, .int fo, .int wi, .int sp, .ref qn, .int (nI P), .ref qk, .ref qp, .ref qq, .ref qc, .int wa])), (qp, .inl (eI E, 8, .inl pl)), (qc, .inl (eI E, 8, .inl ca)), (qf, .inl (eI E, 7, .inl fd))]) (g_runS (As := [.ref qq, .int (nI (ix a1)), .int a3]) (rest := []) F hX hP hD hS hA (c_X3_replace l E qq (ix a1) a3 8 qu (by omega) H.size) (va_cwS 3 F.2.2.2.2 gX3_set_X3_replace rfl rfl rfl (by decide +kernel) ⟨Nat.le_of_ble_eq_true rfl, Nat.le_of_ble_eq_true rfl⟩) [3] rfl rfl rfl hl.1 rfl (Nat.le_of_ble_eq_true rfl) dX3_set_65 ⟨Nat.le_refl _, Nat.le_refl _⟩) hP hD hS hA [3] [0, 1, 2, 4, 5] rfl rfl rfl (by decide) (fun r _ H locs hq hP hD hS => ?_)
            have hP : va_P (eD E) vwCl [(x, .inr (3, fx)), (h, .inr (2, [.int mi, .int fo, .int wi, .int sp, .ref qn, .int (nI P), .ref qk, .ref qp, .ref qq, .ref qc, .int wa])), (qp, .inl (eI E, 8, .inl pl)), (qq, .inl (eI E, 8, .inl (upd qu (ix a1) a3))), (qc, .inl (eI E, 8, .inl ca)), (qf, .inl (eI E, 7, .inl fd))] H := hP.sub [0, 1, 2, 5, 3, 4] rfl
            have hD : va_D A [(x, .inr (3, fx)), (h, .inr (2, [.int mi, .int fo, .int wi, .int sp, .ref qn, .int (nI P), .ref qk, .ref qp, .ref qq, .ref qc, .int wa])), (qp, .inl (eI E, 8, .inl pl)), (qq, .inl (eI E, 8, .inl (upd qu (ix a1) a3))), (qc, .inl (eI E, 8, .inl ca)), (qf, .inl (eI E, 7, .inl fd))] := hD.sub [0, 1, 2, 5, 3, 4] (by decide) rfl
            subst hq
            exact g_reti F hr hlk (vp_nar_int _) hS hP hD ((pl, upd qu (ix a1) a3, ca, fd)) (rfl) (by first | (simp [cn_set, k1, k2, k9, k10, k13]; done) | (exfalso; clear e_a1; simp_all)) dX3_set_68
      · refine lv_aload_n F.1 F.2.1 dX3_set_27 rfl (lv_at hl 0 rfl) ?_
        refine g_get F hX hP hin3 0 rfl rfl 0 (by decide) (mm 2 rfl) hx0 dX3_set_28 ?_
        refine g_get F hX hP hin2 1 rfl rfl 7 (by decide) (mm 3 rfl) rfl dX3_set_31 ?_
        refine lv_iload_n F.1 F.2.1 dX3_set_34 rfl (lv_at hl 1 rfl) ?_
        refine lv_iload_n F.1 F.2.1 dX3_set_35 rfl (lv_at hl 3 rfl) ?_
        refine g_goI (wr := [(x, .inr (3, fx)), (h, .inr (2, [.int mi, .int fo, .int wi, .int sp, .ref qn, .int (nI P), .ref qk, .ref qp, .ref qq, .ref qc, .int wa])), (qq, .inl (eI E, 8, .inl qu)), (qc, .inl (eI E, 8, .inl ca)), (qf, .inl (eI E, 7, .inl fd))]) (g_runS (As := [.ref qp, .int (nI (ix a1)), .int a3]) (rest := []) F hX hP hD hS hA (c_X3_replace l E qp (ix a1) a3 8 pl (by omega) H.size) (va_cwS 3 F.2.2.2.2 gX3_set_X3_replace rfl rfl rfl (by decide +kernel) ⟨Nat.le_of_ble_eq_true rfl, Nat.le_of_ble_eq_true rfl⟩) [2] rfl rfl rfl hl.1 rfl (Nat.le_of_ble_eq_true rfl) dX3_set_36 ⟨Nat.le_refl _, Nat.le_refl _⟩) hP hD hS hA [2] [0, 1, 3, 4, 5] rfl rfl rfl (by decide) (fun r _ H locs hq hP hD hS => ?_)
        have hP : va_P (eD E) vwCl [(x, .inr (3, fx)), (h, .inr (2, [.int mi, .int fo, .int wi, .int sp, .ref qn, .int (nI P), .ref qk, .ref qp, .ref qq, .ref qc, .int wa])), (qp, .inl (eI E, 8, .inl (upd pl (ix a1) a3))), (qq, .inl (eI E, 8, .inl qu)), (qc, .inl (eI E, 8, .inl ca)), (qf, .inl (eI E, 7, .inl fd))] H := hP.sub [0, 1, 5, 2, 3, 4] rfl
        have hD : va_D A [(x, .inr (3, fx)), (h, .inr (2, [.int mi, .int fo, .int wi, .int sp, .ref qn, .int (nI P), .ref qk, .ref qp, .ref qq, .ref qc, .int wa])), (qp, .inl (eI E, 8, .inl (upd pl (ix a1) a3))), (qq, .inl (eI E, 8, .inl qu)), (qc, .inl (eI E, 8, .inl ca)), (qf, .inl (eI E, 7, .inl fd))] := hD.sub [0, 1, 5, 2, 3, 4] (by decide) rfl
        subst hq
        exact g_reti F hr hlk (vp_nar_int _) hS hP hD ((upd pl (ix a1) a3, qu, ca, fd)) (rfl) (by first | (simp [cn_set, k1, k2, k9]; done) | (exfalso; clear e_a1; simp_all)) dX3_set_39
  · refine lv_aload_n F.1 F.2.1 dX3_set_8 rfl (lv_at hl 0 rfl) ?_
    refine lv_ldc (v := (-1000000001)) F.1 F.2.1 F.2.2.2.1 (F.2.2.2.2 _ (mm 1 rfl)) dX3_set_9 ?_
    refine g_goI (wr := [(h, .inr (2, [.int mi, .int fo, .int wi, .int sp, .ref qn, .int (nI P), .ref qk, .ref qp, .ref qq, .ref qc, .int wa])), (qp, .inl (eI E, 8, .inl pl)), (qq, .inl (eI E, 8, .inl qu)), (qc, .inl (eI E, 8, .inl ca))]) (g_runV (As := [.int (-1000000001)]) (rest := []) F hX hP hD hS hA (c_X3_found l E x fx qf fd (-1000000001) 0 (by first | assumption | rfl) (by decide +kernel) (by decide) H.size) (cwV 1 F.2.2.2.2 gX3_set_X3_found rfl rfl rfl (by decide +kernel) ⟨Nat.le_of_ble_eq_true rfl, Nat.le_of_ble_eq_true rfl⟩) [0, 5] rfl rfl (q0 := 0) (ci := 3) rfl rfl rfl hl.1 rfl (Nat.le_of_ble_eq_true rfl) dX3_set_11 ⟨Nat.le_refl _, Nat.le_refl _⟩) hP hD hS hA [0, 5] [1, 2, 3, 4] rfl rfl rfl (by decide) (fun r _ H locs hq hP hD hS => ?_)
    have hP : va_P (eD E) vwCl [(x, .inr (3, fx)), (h, .inr (2, [.int mi, .int fo, .int wi, .int sp, .ref qn, .int (nI P), .ref qk, .ref qp, .ref qq, .ref qc, .int wa])), (qp, .inl (eI E, 8, .inl pl)), (qq, .inl (eI E, 8, .inl qu)), (qc, .inl (eI E, 8, .inl ca)), (qf, .inl (eI E, 7, .inl (fn fd 0)))] H := hP.sub [4, 0, 1, 2, 3, 5] rfl
    have hD : va_D A [(x, .inr (3, fx)), (h, .inr (2, [.int mi, .int fo, .int wi, .int sp, .ref qn, .int (nI P), .ref qk, .ref qp, .ref qq, .ref qc, .int wa])), (qp, .inl (eI E, 8, .inl pl)), (qq, .inl (eI E, 8, .inl qu)), (qc, .inl (eI E, 8, .inl ca)), (qf, .inl (eI E, 7, .inl (fn fd 0)))] := hD.sub [4, 0, 1, 2, 3, 5] (by decide) rfl
    subst hq
    exact g_reti F hr hlk (vp_nar_int _) hS hP hD ((pl, qu, ca, fn fd 0)) (rfl) (by simp [cn_set, k1]) dX3_set_14
def cn_turn (P : Nat) (ki fd : Nat → Int32) (a1 a2 : Int32) : Int32 × (Nat → Int32) × (Nat → Int32) := if inR a1 0 (nI P - 1) = true ∧ inR a2 0 5 = true then (ki (ix a1), upd ki (ix a1) a2, fd) else (-1000000001, ki, fn fd 0)
set_option maxHeartbeats 4000000 in
set_option maxRecDepth 100000 in
theorem c_X3_turn (l : Launch) (E : gE) (x : Nat) (fx : List Value) (qf : Nat) (h : Nat) (mi : Int32) (fo : Int32) (wi : Int32) (sp : Int32) (P : Nat) (wa : Int32) (qn : Nat) (qk : Nat) (qp : Nat) (qq : Nat) (qc : Nat) (ki : Nat → Int32) (fd : Nat → Int32) (a1 : Int32) (a2 : Int32) (hx0 : fx[0]? = some (.ref h)) (hx5 : fx[5]? = some (.ref qf)) (hP8 : P ≤ 8) : gI l yX3_turn wsX3_turn ({ frames := 2, cells := 0, slots := 0, locals := 44 }) E [(x, .inr (3, fx)), (h, .inr (2, [.int mi, .int fo, .int wi, .int sp, .ref qn, .int (nI P), .ref qk, .ref qp, .ref qq, .ref qc, .int wa])), (qk, .inl (eI E, 8, .inl ki)), (qf, .inl (eI E, 7, .inl fd))] (fun u : (Nat → Int32) × (Nat → Int32) => [(x, .inr (3, fx)), (h, .inr (2, [.int mi, .int fo, .int wi, .int sp, .ref qn, .int (nI P), .ref qk, .ref qp, .ref qq, .ref qc, .int wa])), (qk, .inl (eI E, 8, .inl u.1)), (qf, .inl (eI E, 7, .inl u.2))]) [.ref x, .int a1, .int a2] (fun (r : Int32) (u : (Nat → Int32) × (Nat → Int32)) => (r, u) = cn_turn P ki fd a1 a2) := by
  have hin2 : ∀ w ∈ wsX20, w ∈ wsX3_turn := (fun _ h => (List.mem_cons_of_mem _ (List.mem_append_right _ h)))
  have hin3 : ∀ w ∈ wsX30, w ∈ wsX3_turn := (fun _ h => (List.mem_cons_of_mem _ (List.mem_append_left _ (List.mem_append_right _ h))))
  refine gI.of (cc := cX3_turn) (maxL := 3) (by decide) rfl (Nat.le_of_ble_eq_true rfl) ?_
  intro pG eG sG mG below meth cG A ls H locs F hr hlk hX hP hD hA hS hl
  have hl : lv_has ls 3 [(0, .ref x), (1, .int a1), (2, .int a2)] := hl
  refine lv_aload_n F.1 F.2.1 dX3_turn_0 rfl (lv_at hl 0 rfl) ?_
  refine lv_iload_n F.1 F.2.1 dX3_turn_1 rfl (lv_at hl 1 rfl) ?_
  refine g_goIr (g_runV (As := [.int a1]) (rest := []) F hX hP hD hS hA (c_X3_isPerson l E x fx h mi fo wi sp P wa qn qk qp qq qc a1 (by first | assumption | rfl) H.size) (cwV 1 F.2.2.2.2 gX3_turn_X3_isPerson rfl rfl rfl (by decide +kernel) ⟨Nat.le_of_ble_eq_true rfl, Nat.le_of_ble_eq_true rfl⟩) [0, 1] rfl rfl (q0 := 0) (ci := 3) rfl rfl rfl hl.1 rfl (Nat.le_of_ble_eq_true rfl) dX3_turn_2 ⟨Nat.le_refl _, Nat.le_refl _⟩) hP hD hS hA [0, 1] rfl (fun r _ H locs hq hP hS => ?_)
  subst hq
  refine g_beq (tgt := 15) F dX3_turn_5 (by decide) (fun k1 => ?_) (fun k1 => ?_)
  · refine lv_aload_n F.1 F.2.1 dX3_turn_15 rfl (lv_at hl 0 rfl) ?_
    refine lv_ldc (v := (-1000000001)) F.1 F.2.1 F.2.2.2.1 (F.2.2.2.2 _ (mm 1 rfl)) dX3_turn_16 ?_
    refine g_goI (wr := [(h, .inr (2, [.int mi, .int fo, .int wi, .int sp, .ref qn, .int (nI P), .ref qk, .ref qp, .ref qq, .ref qc, .int wa])), (qk, .inl (eI E, 8, .inl ki))]) (g_runV (As := [.int (-1000000001)]) (rest := []) F hX hP hD hS hA (c_X3_found l E x fx qf fd (-1000000001) 0 (by first | assumption | rfl) (by decide +kernel) (by decide) H.size) (cwV 1 F.2.2.2.2 gX3_turn_X3_found rfl rfl rfl (by decide +kernel) ⟨Nat.le_of_ble_eq_true rfl, Nat.le_of_ble_eq_true rfl⟩) [0, 3] rfl rfl (q0 := 0) (ci := 3) rfl rfl rfl hl.1 rfl (Nat.le_of_ble_eq_true rfl) dX3_turn_18 ⟨Nat.le_refl _, Nat.le_refl _⟩) hP hD hS hA [0, 3] [1, 2] rfl rfl rfl (by decide) (fun r _ H locs hq hP hD hS => ?_)
    have hP : va_P (eD E) vwCl [(x, .inr (3, fx)), (h, .inr (2, [.int mi, .int fo, .int wi, .int sp, .ref qn, .int (nI P), .ref qk, .ref qp, .ref qq, .ref qc, .int wa])), (qk, .inl (eI E, 8, .inl ki)), (qf, .inl (eI E, 7, .inl (fn fd 0)))] H := hP.sub [2, 0, 1, 3] rfl
    have hD : va_D A [(x, .inr (3, fx)), (h, .inr (2, [.int mi, .int fo, .int wi, .int sp, .ref qn, .int (nI P), .ref qk, .ref qp, .ref qq, .ref qc, .int wa])), (qk, .inl (eI E, 8, .inl ki)), (qf, .inl (eI E, 7, .inl (fn fd 0)))] := hD.sub [2, 0, 1, 3] (by decide) rfl
    subst hq
    exact g_reti F hr hlk (vp_nar_int _) hS hP hD ((ki, fn fd 0)) (rfl) (by unfold cn_turn; (try simp only [k1, and_self, true_and, and_true, if_true, Bool.false_eq_true, false_and, and_false, if_false]); all_goals simp [k1]) dX3_turn_21
  · refine lv_iload_n F.1 F.2.1 dX3_turn_8 rfl (lv_at hl 2 rfl) ?_
    refine g_goIr (g_runS (As := [.int a2]) (rest := []) F hX hP hD hS hA (c_X3_isKind l E a2 H.size) (va_cwS 1 F.2.2.2.2 gX3_turn_X3_isKind rfl rfl rfl (by decide +kernel) ⟨Nat.le_of_ble_eq_true rfl, Nat.le_of_ble_eq_true rfl⟩) [] rfl rfl rfl hl.1 rfl (Nat.le_of_ble_eq_true rfl) dX3_turn_9 ⟨Nat.le_refl _, Nat.le_refl _⟩) hP hD hS hA [] rfl (fun r _ H locs hq hP hS => ?_)
    subst hq
    refine g_bne (tgt := 22) F dX3_turn_12 (by decide) (fun k2 => ?_) (fun k2 => ?_)
    · obtain ⟨e_a1, b_a1⟩ := ix_person k1 hP8
      have hl : lv_has ls 3 [(0, .ref x), (1, .int (nI (ix a1))), (2, .int a2)] := by rw [← e_a1]; exact hl
      refine lv_aload_n F.1 F.2.1 dX3_turn_22 rfl (lv_at hl 0 rfl) ?_
      refine g_get F hX hP hin3 0 rfl rfl 0 (by decide) (mm 2 rfl) hx0 dX3_turn_23 ?_
      refine g_get F hX hP hin2 1 rfl rfl 6 (by decide) (mm 3 rfl) rfl dX3_turn_26 ?_
      refine lv_iload_n F.1 F.2.1 dX3_turn_29 rfl (lv_at hl 1 rfl) ?_
      refine lv_iload_n F.1 F.2.1 dX3_turn_30 rfl (lv_at hl 2 rfl) ?_
      refine g_goI (wr := [(x, .inr (3, fx)), (h, .inr (2, [.int mi, .int fo, .int wi, .int sp, .ref qn, .int (nI P), .ref qk, .ref qp, .ref qq, .ref qc, .int wa])), (qf, .inl (eI E, 7, .inl fd))]) (g_runS (As := [.ref qk, .int (nI (ix a1)), .int a2]) (rest := []) F hX hP hD hS hA (c_X3_replace l E qk (ix a1) a2 8 ki (by omega) H.size) (va_cwS 3 F.2.2.2.2 gX3_turn_X3_replace rfl rfl rfl (by decide +kernel) ⟨Nat.le_of_ble_eq_true rfl, Nat.le_of_ble_eq_true rfl⟩) [2] rfl rfl rfl hl.1 rfl (Nat.le_of_ble_eq_true rfl) dX3_turn_31 ⟨Nat.le_refl _, Nat.le_refl _⟩) hP hD hS hA [2] [0, 1, 3] rfl rfl rfl (by decide) (fun r _ H locs hq hP hD hS => ?_)
      have hP : va_P (eD E) vwCl [(x, .inr (3, fx)), (h, .inr (2, [.int mi, .int fo, .int wi, .int sp, .ref qn, .int (nI P), .ref qk, .ref qp, .ref qq, .ref qc, .int wa])), (qk, .inl (eI E, 8, .inl (upd ki (ix a1) a2))), (qf, .inl (eI E, 7, .inl fd))] H := hP.sub [0, 1, 3, 2] rfl
      have hD : va_D A [(x, .inr (3, fx)), (h, .inr (2, [.int mi, .int fo, .int wi, .int sp, .ref qn, .int (nI P), .ref qk, .ref qp, .ref qq, .ref qc, .int wa])), (qk, .inl (eI E, 8, .inl (upd ki (ix a1) a2))), (qf, .inl (eI E, 7, .inl fd))] := hD.sub [0, 1, 3, 2] (by decide) rfl
      subst hq
      exact g_reti F hr hlk (vp_nar_int _) hS hP hD ((upd ki (ix a1) a2, fd)) (rfl) (by unfold cn_turn; (try simp only [k1, k2, and_self, true_and, and_true, if_true, Bool.false_eq_true, false_and, and_false, if_false]); all_goals simp [k1, k2]) dX3_turn_34
    · refine lv_aload_n F.1 F.2.1 dX3_turn_15 rfl (lv_at hl 0 rfl) ?_
      refine lv_ldc (v := (-1000000001)) F.1 F.2.1 F.2.2.2.1 (F.2.2.2.2 _ (mm 1 rfl)) dX3_turn_16 ?_
      refine g_goI (wr := [(h, .inr (2, [.int mi, .int fo, .int wi, .int sp, .ref qn, .int (nI P), .ref qk, .ref qp, .ref qq, .ref qc, .int wa])), (qk, .inl (eI E, 8, .inl ki))]) (g_runV (As := [.int (-1000000001)]) (rest := []) F hX hP hD hS hA (c_X3_found l E x fx qf fd (-1000000001) 0 (by first | assumption | rfl) (by decide +kernel) (by decide) H.size) (cwV 1 F.2.2.2.2 gX3_turn_X3_found rfl rfl rfl (by decide +kernel) ⟨Nat.le_of_ble_eq_true rfl, Nat.le_of_ble_eq_true rfl⟩) [0, 3] rfl rfl (q0 := 0) (ci := 3) rfl rfl rfl hl.1 rfl (Nat.le_of_ble_eq_true rfl) dX3_turn_18 ⟨Nat.le_refl _, Nat.le_refl _⟩) hP hD hS hA [0, 3] [1, 2] rfl rfl rfl (by decide) (fun r _ H locs hq hP hD hS => ?_)
      have hP : va_P (eD E) vwCl [(x, .inr (3, fx)), (h, .inr (2, [.int mi, .int fo, .int wi, .int sp, .ref qn, .int (nI P), .ref qk, .ref qp, .ref qq, .ref qc, .int wa])), (qk, .inl (eI E, 8, .inl ki)), (qf, .inl (eI E, 7, .inl (fn fd 0)))] H := hP.sub [2, 0, 1, 3] rfl
      have hD : va_D A [(x, .inr (3, fx)), (h, .inr (2, [.int mi, .int fo, .int wi, .int sp, .ref qn, .int (nI P), .ref qk, .ref qp, .ref qq, .ref qc, .int wa])), (qk, .inl (eI E, 8, .inl ki)), (qf, .inl (eI E, 7, .inl (fn fd 0)))] := hD.sub [2, 0, 1, 3] (by decide) rfl
      subst hq
      exact g_reti F hr hlk (vp_nar_int _) hS hP hD ((ki, fn fd 0)) (rfl) (by unfold cn_turn; (try simp only [k1, k2, and_self, true_and, and_true, if_true, Bool.false_eq_true, false_and, and_false, if_false]); all_goals simp [k1, k2]) dX3_turn_21
def cn_as (P : Nat) (ki qu fd : Nat → Int32) (a1 a2 : Int32) : Int32 × (Nat → Int32) := if inR a1 0 (nI P - 1) = true ∧ inR a2 0 5 = true then (if ofK (ki (ix a1)) a2 = true then (qu (ix a1), fd) else (-1000000003, fn fd 2)) else (-1000000001, fn fd 0)
set_option maxHeartbeats 4000000 in
set_option maxRecDepth 100000 in
theorem c_X3_as (l : Launch) (E : gE) (x : Nat) (fx : List Value) (qf : Nat) (h : Nat) (mi : Int32) (fo : Int32) (wi : Int32) (sp : Int32) (P : Nat) (wa : Int32) (qn : Nat) (qk : Nat) (qp : Nat) (qq : Nat) (qc : Nat) (ki : Nat → Int32) (qu : Nat → Int32) (fd : Nat → Int32) (a1 : Int32) (a2 : Int32) (hx0 : fx[0]? = some (.ref h)) (hx5 : fx[5]? = some (.ref qf)) (hP8 : P ≤ 8) : gI l yX3_as wsX3_as ({ frames := 2, cells := 0, slots := 0, locals := 44 }) E [(x, .inr (3, fx)), (h, .inr (2, [.int mi, .int fo, .int wi, .int sp, .ref qn, .int (nI P), .ref qk, .ref qp, .ref qq, .ref qc, .int wa])), (qk, .inl (eI E, 8, .inl ki)), (qq, .inl (eI E, 8, .inl qu)), (qf, .inl (eI E, 7, .inl fd))] (fun u : (Nat → Int32) => [(x, .inr (3, fx)), (h, .inr (2, [.int mi, .int fo, .int wi, .int sp, .ref qn, .int (nI P), .ref qk, .ref qp, .ref qq, .ref qc, .int wa])), (qk, .inl (eI E, 8, .inl ki)), (qq, .inl (eI E, 8, .inl qu)), (qf, .inl (eI E, 7, .inl u))]) [.ref x, .int a1, .int a2] (fun (r : Int32) (u : (Nat → Int32)) => (r, u) = cn_as P ki qu fd a1 a2) := by
  have hin2 : ∀ w ∈ wsX20, w ∈ wsX3_as := (fun _ h => (List.mem_cons_of_mem _ (List.mem_append_right _ h)))
  have hin3 : ∀ w ∈ wsX30, w ∈ wsX3_as := (fun _ h => (List.mem_cons_of_mem _ (List.mem_append_left _ (List.mem_append_right _ h))))
  refine gI.of (cc := cX3_as) (maxL := 3) (by decide) rfl (Nat.le_of_ble_eq_true rfl) ?_
  intro pG eG sG mG below meth cG A ls H locs F hr hlk hX hP hD hA hS hl
  have hl : lv_has ls 3 [(0, .ref x), (1, .int a1), (2, .int a2)] := hl
  refine lv_aload_n F.1 F.2.1 dX3_as_0 rfl (lv_at hl 0 rfl) ?_
  refine lv_iload_n F.1 F.2.1 dX3_as_1 rfl (lv_at hl 1 rfl) ?_
  refine g_goIr (g_runV (As := [.int a1]) (rest := []) F hX hP hD hS hA (c_X3_isPerson l E x fx h mi fo wi sp P wa qn qk qp qq qc a1 (by first | assumption | rfl) H.size) (cwV 1 F.2.2.2.2 gX3_as_X3_isPerson rfl rfl rfl (by decide +kernel) ⟨Nat.le_of_ble_eq_true rfl, Nat.le_of_ble_eq_true rfl⟩) [0, 1] rfl rfl (q0 := 0) (ci := 3) rfl rfl rfl hl.1 rfl (Nat.le_of_ble_eq_true rfl) dX3_as_2 ⟨Nat.le_refl _, Nat.le_refl _⟩) hP hD hS hA [0, 1] rfl (fun r _ H locs hq hP hS => ?_)
  subst hq
  refine g_beq (tgt := 15) F dX3_as_5 (by decide) (fun k1 => ?_) (fun k1 => ?_)
  · refine lv_aload_n F.1 F.2.1 dX3_as_15 rfl (lv_at hl 0 rfl) ?_
    refine lv_ldc (v := (-1000000001)) F.1 F.2.1 F.2.2.2.1 (F.2.2.2.2 _ (mm 1 rfl)) dX3_as_16 ?_
    refine g_goI (wr := [(h, .inr (2, [.int mi, .int fo, .int wi, .int sp, .ref qn, .int (nI P), .ref qk, .ref qp, .ref qq, .ref qc, .int wa])), (qk, .inl (eI E, 8, .inl ki)), (qq, .inl (eI E, 8, .inl qu))]) (g_runV (As := [.int (-1000000001)]) (rest := []) F hX hP hD hS hA (c_X3_found l E x fx qf fd (-1000000001) 0 (by first | assumption | rfl) (by decide +kernel) (by decide) H.size) (cwV 1 F.2.2.2.2 gX3_as_X3_found rfl rfl rfl (by decide +kernel) ⟨Nat.le_of_ble_eq_true rfl, Nat.le_of_ble_eq_true rfl⟩) [0, 4] rfl rfl (q0 := 0) (ci := 3) rfl rfl rfl hl.1 rfl (Nat.le_of_ble_eq_true rfl) dX3_as_18 ⟨Nat.le_refl _, Nat.le_refl _⟩) hP hD hS hA [0, 4] [1, 2, 3] rfl rfl rfl (by decide) (fun r _ H locs hq hP hD hS => ?_)
    have hP : va_P (eD E) vwCl [(x, .inr (3, fx)), (h, .inr (2, [.int mi, .int fo, .int wi, .int sp, .ref qn, .int (nI P), .ref qk, .ref qp, .ref qq, .ref qc, .int wa])), (qk, .inl (eI E, 8, .inl ki)), (qq, .inl (eI E, 8, .inl qu)), (qf, .inl (eI E, 7, .inl (fn fd 0)))] H := hP.sub [3, 0, 1, 2, 4] rfl
    have hD : va_D A [(x, .inr (3, fx)), (h, .inr (2, [.int mi, .int fo, .int wi, .int sp, .ref qn, .int (nI P), .ref qk, .ref qp, .ref qq, .ref qc, .int wa])), (qk, .inl (eI E, 8, .inl ki)), (qq, .inl (eI E, 8, .inl qu)), (qf, .inl (eI E, 7, .inl (fn fd 0)))] := hD.sub [3, 0, 1, 2, 4] (by decide) rfl
    subst hq
    exact g_reti F hr hlk (vp_nar_int _) hS hP hD (fn fd 0) (rfl) (by unfold cn_as; (try simp only [k1, and_self, true_and, and_true, if_true, Bool.false_eq_true, false_and, and_false, if_false]); all_goals simp [k1]) dX3_as_21
  · refine lv_iload_n F.1 F.2.1 dX3_as_8 rfl (lv_at hl 2 rfl) ?_
    refine g_goIr (g_runS (As := [.int a2]) (rest := []) F hX hP hD hS hA (c_X3_isKind l E a2 H.size) (va_cwS 1 F.2.2.2.2 gX3_as_X3_isKind rfl rfl rfl (by decide +kernel) ⟨Nat.le_of_ble_eq_true rfl, Nat.le_of_ble_eq_true rfl⟩) [] rfl rfl rfl hl.1 rfl (Nat.le_of_ble_eq_true rfl) dX3_as_9 ⟨Nat.le_refl _, Nat.le_refl _⟩) hP hD hS hA [] rfl (fun r _ H locs hq hP hS => ?_)
    subst hq
    refine g_bne (tgt := 22) F dX3_as_12 (by decide) (fun k2 => ?_) (fun k2 => ?_)
    · obtain ⟨e_a1, b_a1⟩ := ix_person k1 hP8
      have hl : lv_has ls 3 [(0, .ref x), (1, .int (nI (ix a1))), (2, .int a2)] := by rw [← e_a1]; exact hl
      refine lv_aload_n F.1 F.2.1 dX3_as_22 rfl (lv_at hl 0 rfl) ?_
      refine g_get F hX hP hin3 0 rfl rfl 0 (by decide) (mm 2 rfl) hx0 dX3_as_23 ?_
      refine g_get F hX hP hin2 1 rfl rfl 6 (by decide) (mm 3 rfl) rfl dX3_as_26 ?_
      refine lv_iload_n F.1 F.2.1 dX3_as_29 rfl (lv_at hl 1 rfl) ?_
      refine g_iald F hX hP 2 rfl (j := (ix a1)) (rfl) (by omega) (by decide) dX3_as_30 ?_
      refine lv_iload_n F.1 F.2.1 dX3_as_31 rfl (lv_at hl 2 rfl) ?_
      refine g_goIr (g_runS (As := [.int (ki (ix a1)), .int a2]) (rest := []) F hX hP hD hS hA (c_X3_isOfKind l E (ki (ix a1)) a2 H.size) (va_cwS 2 F.2.2.2.2 gX3_as_X3_isOfKind rfl rfl rfl (by decide +kernel) ⟨Nat.le_of_ble_eq_true rfl, Nat.le_of_ble_eq_true rfl⟩) [] rfl rfl rfl hl.1 rfl (Nat.le_of_ble_eq_true rfl) dX3_as_32 ⟨Nat.le_refl _, Nat.le_refl _⟩) hP hD hS hA [] rfl (fun r _ H locs hq hP hS => ?_)
      subst hq
      refine g_bne (tgt := 45) F dX3_as_35 (by decide) (fun k3 => ?_) (fun k3 => ?_)
      · refine lv_aload_n F.1 F.2.1 dX3_as_45 rfl (lv_at hl 0 rfl) ?_
        refine g_get F hX hP hin3 0 rfl rfl 0 (by decide) (mm 2 rfl) hx0 dX3_as_46 ?_
        refine g_get F hX hP hin2 1 rfl rfl 8 (by decide) (mm 5 rfl) rfl dX3_as_49 ?_
        refine lv_iload_n F.1 F.2.1 dX3_as_52 rfl (lv_at hl 1 rfl) ?_
        refine g_iald F hX hP 3 rfl (j := (ix a1)) (rfl) (by omega) (by decide) dX3_as_53 ?_
        exact g_reti F hr hlk (vp_nar_int _) hS hP hD (fd) (rfl) (by unfold cn_as; (try simp only [k1, k2, k3, and_self, true_and, and_true, if_true, Bool.false_eq_true, false_and, and_false, if_false]); all_goals simp [k1, k2, k3]) dX3_as_54
      · refine lv_aload_n F.1 F.2.1 dX3_as_38 rfl (lv_at hl 0 rfl) ?_
        refine lv_ldc (v := (-1000000003)) F.1 F.2.1 F.2.2.2.1 (F.2.2.2.2 _ (mm 4 rfl)) dX3_as_39 ?_
        refine g_goI (wr := [(h, .inr (2, [.int mi, .int fo, .int wi, .int sp, .ref qn, .int (nI P), .ref qk, .ref qp, .ref qq, .ref qc, .int wa])), (qk, .inl (eI E, 8, .inl ki)), (qq, .inl (eI E, 8, .inl qu))]) (g_runV (As := [.int (-1000000003)]) (rest := []) F hX hP hD hS hA (c_X3_found l E x fx qf fd (-1000000003) 2 (by first | assumption | rfl) (by decide +kernel) (by decide) H.size) (cwV 1 F.2.2.2.2 gX3_as_X3_found rfl rfl rfl (by decide +kernel) ⟨Nat.le_of_ble_eq_true rfl, Nat.le_of_ble_eq_true rfl⟩) [0, 4] rfl rfl (q0 := 0) (ci := 3) rfl rfl rfl hl.1 rfl (Nat.le_of_ble_eq_true rfl) dX3_as_41 ⟨Nat.le_refl _, Nat.le_refl _⟩) hP hD hS hA [0, 4] [1, 2, 3] rfl rfl rfl (by decide) (fun r _ H locs hq hP hD hS => ?_)
        have hP : va_P (eD E) vwCl [(x, .inr (3, fx)), (h, .inr (2, [.int mi, .int fo, .int wi, .int sp, .ref qn, .int (nI P), .ref qk, .ref qp, .ref qq, .ref qc, .int wa])), (qk, .inl (eI E, 8, .inl ki)), (qq, .inl (eI E, 8, .inl qu)), (qf, .inl (eI E, 7, .inl (fn fd 2)))] H := hP.sub [3, 0, 1, 2, 4] rfl
        have hD : va_D A [(x, .inr (3, fx)), (h, .inr (2, [.int mi, .int fo, .int wi, .int sp, .ref qn, .int (nI P), .ref qk, .ref qp, .ref qq, .ref qc, .int wa])), (qk, .inl (eI E, 8, .inl ki)), (qq, .inl (eI E, 8, .inl qu)), (qf, .inl (eI E, 7, .inl (fn fd 2)))] := hD.sub [3, 0, 1, 2, 4] (by decide) rfl
        subst hq
        exact g_reti F hr hlk (vp_nar_int _) hS hP hD (fn fd 2) (rfl) (by unfold cn_as; (try simp only [k1, k2, k3, and_self, true_and, and_true, if_true, Bool.false_eq_true, false_and, and_false, if_false]); all_goals simp [k1, k2, k3]) dX3_as_44
    · refine lv_aload_n F.1 F.2.1 dX3_as_15 rfl (lv_at hl 0 rfl) ?_
      refine lv_ldc (v := (-1000000001)) F.1 F.2.1 F.2.2.2.1 (F.2.2.2.2 _ (mm 1 rfl)) dX3_as_16 ?_
      refine g_goI (wr := [(h, .inr (2, [.int mi, .int fo, .int wi, .int sp, .ref qn, .int (nI P), .ref qk, .ref qp, .ref qq, .ref qc, .int wa])), (qk, .inl (eI E, 8, .inl ki)), (qq, .inl (eI E, 8, .inl qu))]) (g_runV (As := [.int (-1000000001)]) (rest := []) F hX hP hD hS hA (c_X3_found l E x fx qf fd (-1000000001) 0 (by first | assumption | rfl) (by decide +kernel) (by decide) H.size) (cwV 1 F.2.2.2.2 gX3_as_X3_found rfl rfl rfl (by decide +kernel) ⟨Nat.le_of_ble_eq_true rfl, Nat.le_of_ble_eq_true rfl⟩) [0, 4] rfl rfl (q0 := 0) (ci := 3) rfl rfl rfl hl.1 rfl (Nat.le_of_ble_eq_true rfl) dX3_as_18 ⟨Nat.le_refl _, Nat.le_refl _⟩) hP hD hS hA [0, 4] [1, 2, 3] rfl rfl rfl (by decide) (fun r _ H locs hq hP hD hS => ?_)
      have hP : va_P (eD E) vwCl [(x, .inr (3, fx)), (h, .inr (2, [.int mi, .int fo, .int wi, .int sp, .ref qn, .int (nI P), .ref qk, .ref qp, .ref qq, .ref qc, .int wa])), (qk, .inl (eI E, 8, .inl ki)), (qq, .inl (eI E, 8, .inl qu)), (qf, .inl (eI E, 7, .inl (fn fd 0)))] H := hP.sub [3, 0, 1, 2, 4] rfl
      have hD : va_D A [(x, .inr (3, fx)), (h, .inr (2, [.int mi, .int fo, .int wi, .int sp, .ref qn, .int (nI P), .ref qk, .ref qp, .ref qq, .ref qc, .int wa])), (qk, .inl (eI E, 8, .inl ki)), (qq, .inl (eI E, 8, .inl qu)), (qf, .inl (eI E, 7, .inl (fn fd 0)))] := hD.sub [3, 0, 1, 2, 4] (by decide) rfl
      subst hq
      exact g_reti F hr hlk (vp_nar_int _) hS hP hD (fn fd 0) (rfl) (by unfold cn_as; (try simp only [k1, k2, and_self, true_and, and_true, if_true, Bool.false_eq_true, false_and, and_false, if_false]); all_goals simp [k1, k2]) dX3_as_21
def cn_minutes (fo wi sp : Int32) (P : Nat) (ki : Nat → Int32) (t : TV) (fd : Nat → Int32) (a1 : Int32) : Int32 × Int32 × Int32 × (Nat → Int32) × (Nat → Int32) × (Nat → Int32) × (Nat → Int32) := if inR a1 1 200 = true then (if t.1 + a1 ≤ 99999 then (inC fo wi sp P (itT fo wi sp P ki (ix a1) t), (itT fo wi sp P ki (ix a1) t).1, (itT fo wi sp P ki (ix a1) t).2.1, (itT fo wi sp P ki (ix a1) t).2.2.1, (itT fo wi sp P ki (ix a1) t).2.2.2.1, (itT fo wi sp P ki (ix a1) t).2.2.2.2, fd) else (-1000000005, t.1, t.2.1, t.2.2.1, t.2.2.2.1, t.2.2.2.2, fn fd 4)) else (-1000000001, t.1, t.2.1, t.2.2.1, t.2.2.2.1, t.2.2.2.2, fn fd 0)
set_option maxHeartbeats 4000000 in
set_option maxRecDepth 100000 in
theorem c_X3_minutes (l : Launch) (E : gE) (x : Nat) (fx : List Value) (qf : Nat) (h : Nat) (mi : Int32) (fo : Int32) (wi : Int32) (sp : Int32) (P : Nat) (wa : Int32) (qn : Nat) (qk : Nat) (qp : Nat) (qq : Nat) (qc : Nat) (ki : Nat → Int32) (pl : Nat → Int32) (qu : Nat → Int32) (ca : Nat → Int32) (fd : Nat → Int32) (a1 : Int32) (hx0 : fx[0]? = some (.ref h)) (hx5 : fx[5]? = some (.ref qf)) (hP8 : P ≤ 8) : gI l yX3_minutes wsX3_minutes ({ frames := 5, cells := 0, slots := 0, locals := 112 }) E [(x, .inr (3, fx)), (h, .inr (2, [.int mi, .int fo, .int wi, .int sp, .ref qn, .int (nI P), .ref qk, .ref qp, .ref qq, .ref qc, .int wa])), (qk, .inl (eI E, 8, .inl ki)), (qp, .inl (eI E, 8, .inl pl)), (qq, .inl (eI E, 8, .inl qu)), (qc, .inl (eI E, 8, .inl ca)), (qf, .inl (eI E, 7, .inl fd))] (fun u : Int32 × Int32 × (Nat → Int32) × (Nat → Int32) × (Nat → Int32) × (Nat → Int32) => [(x, .inr (3, fx)), (h, .inr (2, [.int u.1, .int fo, .int wi, .int sp, .ref qn, .int (nI P), .ref qk, .ref qp, .ref qq, .ref qc, .int u.2.1])), (qk, .inl (eI E, 8, .inl ki)), (qp, .inl (eI E, 8, .inl u.2.2.1)), (qq, .inl (eI E, 8, .inl u.2.2.2.1)), (qc, .inl (eI E, 8, .inl u.2.2.2.2.1)), (qf, .inl (eI E, 7, .inl u.2.2.2.2.2))]) [.ref x, .int a1] (fun (r : Int32) (u : Int32 × Int32 × (Nat → Int32) × (Nat → Int32) × (Nat → Int32) × (Nat → Int32)) => (r, u) = cn_minutes fo wi sp P ki (mi, wa, pl, qu, ca) fd a1) := by
  have hin2 : ∀ w ∈ wsX20, w ∈ wsX3_minutes := (fun _ h => (List.mem_cons_of_mem _ (List.mem_append_right _ h)))
  have hin3 : ∀ w ∈ wsX30, w ∈ wsX3_minutes := (fun _ h => (List.mem_cons_of_mem _ (List.mem_append_left _ (List.mem_append_right _ h))))
  refine gI.of (cc := cX3_minutes) (maxL := 2) (by decide) rfl (Nat.le_of_ble_eq_true rfl) ?_
  intro pG eG sG mG below meth cG A ls H locs F hr hlk hX hP hD hA hS hl
  have hl : lv_has ls 2 [(0, .ref x), (1, .int a1)] := hl
  refine lv_iload_n F.1 F.2.1 dX3_minutes_0 rfl (lv_at hl 1 rfl) ?_
  refine lv_iconst (v := 1) F.1 F.2.1 dX3_minutes_1 (by decide) ?_
  refine lv_sipush (v := 200) F.1 F.2.1 dX3_minutes_2 (by decide) ?_
  refine g_goIr (g_runS (As := [.int a1, .int 1, .int 200]) (rest := []) F hX hP hD hS hA (c_X3_isWithin l E a1 1 200 H.size) (va_cwS 3 F.2.2.2.2 gX3_minutes_X3_isWithin rfl rfl rfl (by decide +kernel) ⟨Nat.le_of_ble_eq_true rfl, Nat.le_of_ble_eq_true rfl⟩) [] rfl rfl rfl hl.1 rfl (Nat.le_of_ble_eq_true rfl) dX3_minutes_5 ⟨Nat.le_refl _, Nat.le_refl _⟩) hP hD hS hA [] rfl (fun r _ H locs hq hP hS => ?_)
  subst hq
  refine g_bne (tgt := 18) F dX3_minutes_8 (by decide) (fun k1 => ?_) (fun k1 => ?_)
  · refine lv_aload_n F.1 F.2.1 dX3_minutes_18 rfl (lv_at hl 0 rfl) ?_
    refine g_get F hX hP hin3 0 rfl rfl 0 (by decide) (mm 2 rfl) hx0 dX3_minutes_19 ?_
    refine g_get F hX hP hin2 1 rfl rfl 0 (by decide) (mm 3 rfl) rfl dX3_minutes_22 ?_
    refine lv_iload_n F.1 F.2.1 dX3_minutes_25 rfl (lv_at hl 1 rfl) ?_
    refine lv_iadd F.1 F.2.1 dX3_minutes_26 ?_
    refine lv_ldc (v := 99999) F.1 F.2.1 F.2.2.2.1 (F.2.2.2.2 _ (mm 4 rfl)) dX3_minutes_27 ?_
    refine lv_icmp_le (tgt := 39) F.1 F.2.1 dX3_minutes_29 (by decide) (fun k2 => ?_) (fun k2 => ?_)
    · obtain ⟨e_a1, b_a1⟩ := ix_of 200 k1 (by decide) (by decide)
      have hl : lv_has ls 2 [(0, .ref x), (1, .int (nI (ix a1)))] := by rw [← e_a1]; exact hl
      refine lv_aload_n F.1 F.2.1 dX3_minutes_39 rfl (lv_at hl 0 rfl) ?_
      refine g_get F hX hP hin3 0 rfl rfl 0 (by decide) (mm 2 rfl) hx0 dX3_minutes_40 ?_
      refine lv_iload_n F.1 F.2.1 dX3_minutes_43 rfl (lv_at hl 1 rfl) ?_
      refine g_goV (wr := [(x, .inr (3, fx)), (qf, .inl (eI E, 7, .inl fd))]) (g_runV (As := [.int (nI (ix a1))]) (rest := []) F hX hP hD hS hA (c_X2_goOn l E h mi fo wi sp P wa qn qk qp qq qc (ix a1) ki pl qu ca (by assumption) (by omega) H.size) (cwV 1 F.2.2.2.2 gX3_minutes_X2_goOn rfl rfl rfl (by decide +kernel) ⟨Nat.le_of_ble_eq_true rfl, Nat.le_of_ble_eq_true rfl⟩) [1, 2, 3, 4, 5] rfl rfl (q0 := 1) (ci := 2) rfl rfl rfl hl.1 rfl (Nat.le_of_ble_eq_true rfl) dX3_minutes_44 ⟨Nat.le_refl _, Nat.le_refl _⟩) hP hD hS hA [1, 2, 3, 4, 5] [0, 6] rfl rfl rfl (by decide) (fun _ H locs hq hP hD hS => ?_)
      have hP : va_P (eD E) vwCl [(x, .inr (3, fx)), (h, .inr (2, [.int ((itT fo wi sp P ki (ix a1) (mi, wa, pl, qu, ca)).1), .int fo, .int wi, .int sp, .ref qn, .int (nI P), .ref qk, .ref qp, .ref qq, .ref qc, .int ((itT fo wi sp P ki (ix a1) (mi, wa, pl, qu, ca)).2.1)])), (qk, .inl (eI E, 8, .inl ki)), (qp, .inl (eI E, 8, .inl ((itT fo wi sp P ki (ix a1) (mi, wa, pl, qu, ca)).2.2.1))), (qq, .inl (eI E, 8, .inl ((itT fo wi sp P ki (ix a1) (mi, wa, pl, qu, ca)).2.2.2.1))), (qc, .inl (eI E, 8, .inl ((itT fo wi sp P ki (ix a1) (mi, wa, pl, qu, ca)).2.2.2.2))), (qf, .inl (eI E, 7, .inl fd))] H := hP.sub [0, 2, 3, 4, 5, 6, 1] rfl
      have hD : va_D A [(x, .inr (3, fx)), (h, .inr (2, [.int ((itT fo wi sp P ki (ix a1) (mi, wa, pl, qu, ca)).1), .int fo, .int wi, .int sp, .ref qn, .int (nI P), .ref qk, .ref qp, .ref qq, .ref qc, .int ((itT fo wi sp P ki (ix a1) (mi, wa, pl, qu, ca)).2.1)])), (qk, .inl (eI E, 8, .inl ki)), (qp, .inl (eI E, 8, .inl ((itT fo wi sp P ki (ix a1) (mi, wa, pl, qu, ca)).2.2.1))), (qq, .inl (eI E, 8, .inl ((itT fo wi sp P ki (ix a1) (mi, wa, pl, qu, ca)).2.2.2.1))), (qc, .inl (eI E, 8, .inl ((itT fo wi sp P ki (ix a1) (mi, wa, pl, qu, ca)).2.2.2.2))), (qf, .inl (eI E, 7, .inl fd))] := hD.sub [0, 2, 3, 4, 5, 6, 1] (by decide) rfl
      refine lv_aload_n F.1 F.2.1 dX3_minutes_47 rfl (lv_at hl 0 rfl) ?_
      refine g_get F hX hP hin3 0 rfl rfl 0 (by decide) (mm 2 rfl) hx0 dX3_minutes_48 ?_
      refine g_goIr (g_runV (As := []) (rest := []) F hX hP hD hS hA (c_X2_whoIsIn l E h ((itT fo wi sp P ki (ix a1) (mi, wa, pl, qu, ca)).1) fo wi sp P ((itT fo wi sp P ki (ix a1) (mi, wa, pl, qu, ca)).2.1) qn qk qp qq qc ((itT fo wi sp P ki (ix a1) (mi, wa, pl, qu, ca)).2.2.1) (by assumption) H.size) (cwV 0 F.2.2.2.2 gX3_minutes_X2_whoIsIn rfl rfl rfl (by decide +kernel) ⟨Nat.le_of_ble_eq_true rfl, Nat.le_of_ble_eq_true rfl⟩) [1, 3] rfl rfl (q0 := 1) (ci := 2) rfl rfl rfl hl.1 rfl (Nat.le_of_ble_eq_true rfl) dX3_minutes_51 ⟨Nat.le_refl _, Nat.le_refl _⟩) hP hD hS hA [1, 3] rfl (fun r _ H locs hq hP hS => ?_)
      subst hq
      refine g_top (inC fo wi sp P (itT fo wi sp P ki (ix a1) (mi, wa, pl, qu, ca))) (rfl) ?_
      exact g_reti F hr hlk (vp_nar_int _) hS hP hD (((itT fo wi sp P ki (ix a1) (mi, wa, pl, qu, ca)).1, (itT fo wi sp P ki (ix a1) (mi, wa, pl, qu, ca)).2.1, (itT fo wi sp P ki (ix a1) (mi, wa, pl, qu, ca)).2.2.1, (itT fo wi sp P ki (ix a1) (mi, wa, pl, qu, ca)).2.2.2.1, (itT fo wi sp P ki (ix a1) (mi, wa, pl, qu, ca)).2.2.2.2, fd)) (rfl) (by unfold cn_minutes; (try simp only [k1, and_self, true_and, and_true, if_true, Bool.false_eq_true, false_and, and_false, if_false]); all_goals simp [k1, k2]) dX3_minutes_54
    · refine lv_aload_n F.1 F.2.1 dX3_minutes_32 rfl (lv_at hl 0 rfl) ?_
      refine lv_ldc (v := (-1000000005)) F.1 F.2.1 F.2.2.2.1 (F.2.2.2.2 _ (mm 5 rfl)) dX3_minutes_33 ?_
      refine g_goI (wr := [(h, .inr (2, [.int mi, .int fo, .int wi, .int sp, .ref qn, .int (nI P), .ref qk, .ref qp, .ref qq, .ref qc, .int wa])), (qk, .inl (eI E, 8, .inl ki)), (qp, .inl (eI E, 8, .inl pl)), (qq, .inl (eI E, 8, .inl qu)), (qc, .inl (eI E, 8, .inl ca))]) (g_runV (As := [.int (-1000000005)]) (rest := []) F hX hP hD hS hA (c_X3_found l E x fx qf fd (-1000000005) 4 (by first | assumption | rfl) (by decide +kernel) (by decide) H.size) (cwV 1 F.2.2.2.2 gX3_minutes_X3_found rfl rfl rfl (by decide +kernel) ⟨Nat.le_of_ble_eq_true rfl, Nat.le_of_ble_eq_true rfl⟩) [0, 6] rfl rfl (q0 := 0) (ci := 3) rfl rfl rfl hl.1 rfl (Nat.le_of_ble_eq_true rfl) dX3_minutes_35 ⟨Nat.le_refl _, Nat.le_refl _⟩) hP hD hS hA [0, 6] [1, 2, 3, 4, 5] rfl rfl rfl (by decide) (fun r _ H locs hq hP hD hS => ?_)
      have hP : va_P (eD E) vwCl [(x, .inr (3, fx)), (h, .inr (2, [.int mi, .int fo, .int wi, .int sp, .ref qn, .int (nI P), .ref qk, .ref qp, .ref qq, .ref qc, .int wa])), (qk, .inl (eI E, 8, .inl ki)), (qp, .inl (eI E, 8, .inl pl)), (qq, .inl (eI E, 8, .inl qu)), (qc, .inl (eI E, 8, .inl ca)), (qf, .inl (eI E, 7, .inl (fn fd 4)))] H := hP.sub [5, 0, 1, 2, 3, 4, 6] rfl
      have hD : va_D A [(x, .inr (3, fx)), (h, .inr (2, [.int mi, .int fo, .int wi, .int sp, .ref qn, .int (nI P), .ref qk, .ref qp, .ref qq, .ref qc, .int wa])), (qk, .inl (eI E, 8, .inl ki)), (qp, .inl (eI E, 8, .inl pl)), (qq, .inl (eI E, 8, .inl qu)), (qc, .inl (eI E, 8, .inl ca)), (qf, .inl (eI E, 7, .inl (fn fd 4)))] := hD.sub [5, 0, 1, 2, 3, 4, 6] (by decide) rfl
      subst hq
      exact g_reti F hr hlk (vp_nar_int _) hS hP hD ((mi, wa, pl, qu, ca, fn fd 4)) (rfl) (by unfold cn_minutes; (try simp only [k1, and_self, true_and, and_true, if_true, Bool.false_eq_true, false_and, and_false, if_false]); all_goals simp [k1, k2]) dX3_minutes_38
  · refine lv_aload_n F.1 F.2.1 dX3_minutes_11 rfl (lv_at hl 0 rfl) ?_
    refine lv_ldc (v := (-1000000001)) F.1 F.2.1 F.2.2.2.1 (F.2.2.2.2 _ (mm 1 rfl)) dX3_minutes_12 ?_
    refine g_goI (wr := [(h, .inr (2, [.int mi, .int fo, .int wi, .int sp, .ref qn, .int (nI P), .ref qk, .ref qp, .ref qq, .ref qc, .int wa])), (qk, .inl (eI E, 8, .inl ki)), (qp, .inl (eI E, 8, .inl pl)), (qq, .inl (eI E, 8, .inl qu)), (qc, .inl (eI E, 8, .inl ca))]) (g_runV (As := [.int (-1000000001)]) (rest := []) F hX hP hD hS hA (c_X3_found l E x fx qf fd (-1000000001) 0 (by first | assumption | rfl) (by decide +kernel) (by decide) H.size) (cwV 1 F.2.2.2.2 gX3_minutes_X3_found rfl rfl rfl (by decide +kernel) ⟨Nat.le_of_ble_eq_true rfl, Nat.le_of_ble_eq_true rfl⟩) [0, 6] rfl rfl (q0 := 0) (ci := 3) rfl rfl rfl hl.1 rfl (Nat.le_of_ble_eq_true rfl) dX3_minutes_14 ⟨Nat.le_refl _, Nat.le_refl _⟩) hP hD hS hA [0, 6] [1, 2, 3, 4, 5] rfl rfl rfl (by decide) (fun r _ H locs hq hP hD hS => ?_)
    have hP : va_P (eD E) vwCl [(x, .inr (3, fx)), (h, .inr (2, [.int mi, .int fo, .int wi, .int sp, .ref qn, .int (nI P), .ref qk, .ref qp, .ref qq, .ref qc, .int wa])), (qk, .inl (eI E, 8, .inl ki)), (qp, .inl (eI E, 8, .inl pl)), (qq, .inl (eI E, 8, .inl qu)), (qc, .inl (eI E, 8, .inl ca)), (qf, .inl (eI E, 7, .inl (fn fd 0)))] H := hP.sub [5, 0, 1, 2, 3, 4, 6] rfl
    have hD : va_D A [(x, .inr (3, fx)), (h, .inr (2, [.int mi, .int fo, .int wi, .int sp, .ref qn, .int (nI P), .ref qk, .ref qp, .ref qq, .ref qc, .int wa])), (qk, .inl (eI E, 8, .inl ki)), (qp, .inl (eI E, 8, .inl pl)), (qq, .inl (eI E, 8, .inl qu)), (qc, .inl (eI E, 8, .inl ca)), (qf, .inl (eI E, 7, .inl (fn fd 0)))] := hD.sub [5, 0, 1, 2, 3, 4, 6] (by decide) rfl
    subst hq
    exact g_reti F hr hlk (vp_nar_int _) hS hP hD ((mi, wa, pl, qu, ca, fn fd 0)) (rfl) (by unfold cn_minutes; (try simp only [k1, and_self, true_and, and_true, if_true, Bool.false_eq_true, false_and, and_false, if_false]); all_goals simp [k1]) dX3_minutes_17
