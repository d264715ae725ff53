/-! sheets: the reference -/
def ntC (a1 b : Int32) : Int32 := if inR a1 0 3 = true then (if b = 0 then -1000000006 else 0) else -1000000001
theorem nt_0 {a1 b : Int32} (h : ntC a1 b = 0) : inR a1 0 3 = true ∧ ¬ b = 0 := by
  unfold ntC at h
  by_cases h1 : inR a1 0 3 = true
  · rw [if_pos h1] at h
    by_cases h2 : b = 0
    · rw [if_pos h2] at h; exact absurd h (by decide +kernel)
    · exact ⟨h1, h2⟩
  · rw [if_neg h1] at h; exact absurd h (by decide +kernel)
theorem nt_k {a1 b : Int32} (h : ¬ ntC a1 b = 0) : (-1000000001) - ntC a1 b = nI (fobK a1 b) ∧ fobK a1 b < 7 := by
  unfold ntC fobK at *
  by_cases h1 : inR a1 0 3 = true
  · rw [if_pos h1] at h ⊢
    by_cases h2 : b = 0
    · rw [if_pos h2, if_pos ⟨h1, h2⟩]; decide +kernel
    · rw [if_neg h2] at h; exact absurd rfl h
  · rw [if_neg h1, if_neg (show ¬ (inR a1 0 3 = true ∧ b = 0) from fun q => h1 q.1)]; decide +kernel
theorem nt_fob1 {a1 b a2 : Int32} {Z : Nat} (h : ¬ ntC a1 b = 0) : ntC a1 b = fobC a1 b a2 Z := by
  unfold ntC fobC at *
  by_cases h1 : inR a1 0 3 = true
  · rw [if_pos h1] at h ⊢
    rw [if_pos h1]
    by_cases h2 : b = 0
    · rw [if_pos h2, if_pos h2]
    · rw [if_neg h2] at h; exact absurd rfl h
  · rw [if_neg h1, if_neg h1]
theorem nt_fob2 {a1 b a2 : Int32} {Z : Nat} (h : ntC a1 b = 0) (h3 : inR a2 0 (nI Z - 1) = true) : ntC a1 b = fobC a1 b a2 Z := by
  obtain ⟨h1, h2⟩ := nt_0 h
  rw [h]
  unfold fobC
  rw [if_pos h1, if_neg h2, if_pos h3]
theorem nt_fob3 {a1 b a2 : Int32} {Z : Nat} (h : ntC a1 b = 0) (h3 : inR a2 0 (nI Z - 1) = false) : -1000000001 = fobC a1 b a2 Z := by
  obtain ⟨h1, h2⟩ := nt_0 h
  unfold fobC
  rw [if_pos h1, if_neg h2, if_neg (by rw [h3]; decide)]
/-- a row of longs whose places from o on, i of them, are f's -/
def bkO (f : Nat → Int64) (ce : Nat → Int64) (o i : Nat) : Nat → Int64 := fun q => if o ≤ q ∧ q < o + i then f (q - o) else ce q
theorem bkO_0 (f ce : Nat → Int64) (o : Nat) : ce = bkO f ce o 0 := funext fun q => (if_neg (by omega)).symm
theorem bkO_s (f ce : Nat → Int64) (o i : Nat) (x : Int64) (h : x = f i) : vp_updL (bkO f ce o i) (o + i) x = bkO f ce o (i + 1) := funext fun q => by
  unfold vp_updL bkO
  by_cases e : q = o + i
  · rw [if_pos e, if_pos (by omega), h, show q - o = i by omega]
  · rw [if_neg e]
    by_cases c : o ≤ q ∧ q < o + i
    · rw [if_pos c, if_pos (by omega)]
    · rw [if_neg c, if_neg (by omega)]
theorem i40 (s i : Nat) : (40 : Int32) * nI s + nI i = nI (40 * s + i) := by
  show nI 40 * nI s + nI i = _
  rw [pk_mul, nI_add]
set_option maxHeartbeats 4000000 in
set_option maxRecDepth 100000 in
theorem c_X4_notThere (l : Launch) (E : gE) (h : Nat) (fs : List Value) (qb : Nat) (bi4 : Nat → Int32) (a1 : Int32) (hf12 : fs[12]? = some (.ref qb)) : gI l yX4_notThere wsX4_notThere ({ frames := 2, cells := 0, slots := 0, locals := 43 }) E [(h, .inr (4, fs)), (qb, .inl (eI E, 4, .inl bi4))] (fun _ : Unit => [(h, .inr (4, fs)), (qb, .inl (eI E, 4, .inl bi4))]) [.ref h, .int a1] (fun (r : Int32) (_ : Unit) => r = ntC a1 (bi4 (ix a1))) := by
  have hin4 : ∀ w ∈ wsX40, w ∈ wsX4_notThere := (fun _ h => (List.mem_cons_of_mem _ (List.mem_append_right _ h)))
  refine gI.of (cc := cX4_notThere) (maxL := 2) (by decide) rfl (Nat.le_of_ble_eq_true rfl) ?_
  intro pG eG sG mG below meth cG A ls H locs F hr hlk hX hP hD hA hS hl
  have hl : lv_has ls 2 [(0, .ref h), (1, .int a1)] := hl
  refine lv_iload_n F.1 F.2.1 dX4_notThere_0 rfl (lv_at hl 1 rfl) ?_
  refine g_goIr (g_runS (As := [.int a1]) (rest := []) F hX hP hD hS hA (c_X4_isSheet l E a1 H.size) (va_cwS 1 F.2.2.2.2 gX4_notThere_X4_isSheet rfl rfl rfl (by decide +kernel) ⟨Nat.le_of_ble_eq_true rfl, Nat.le_of_ble_eq_true rfl⟩) [] rfl rfl rfl hl.1 rfl (Nat.le_of_ble_eq_true rfl) dX4_notThere_1 ⟨Nat.le_refl _, Nat.le_refl _⟩) hP hD hS hA [] rfl (fun r _ H locs hq hP hS => ?_)
  subst hq
  refine g_bne (tgt := 12) F dX4_notThere_4 (by decide) (fun k1 => ?_) (fun k1 => ?_)
  · obtain ⟨e_a1, b_a1⟩ := ix_of 3 k1 (by decide) (by decide)
    have hl : lv_has ls 2 [(0, .ref h), (1, .int (nI (ix a1)))] := by rw [← e_a1]; exact hl
    refine lv_aload_n F.1 F.2.1 dX4_notThere_12 rfl (lv_at hl 0 rfl) ?_
    refine g_get F hX hP hin4 0 rfl rfl 12 (by decide) (mm 2 rfl) hf12 dX4_notThere_13 ?_
    refine lv_iload_n F.1 F.2.1 dX4_notThere_16 rfl (lv_at hl 1 rfl) ?_
    refine g_iald F hX hP 1 rfl (j := (ix a1)) (rfl) (by omega) (by decide) dX4_notThere_17 ?_
    refine lv_if_ne (tgt := 26) F.1 F.2.1 dX4_notThere_18 (by decide) (fun k2 => ?_) (fun k2 => ?_)
    · refine lv_iconst (v := 0) F.1 F.2.1 dX4_notThere_26 (by decide) ?_
      exact g_reti F hr hlk (vp_nar_int _) hS hP hD (()) (rfl) (by unfold ntC; (try simp only [k1, and_self, true_and, and_true, if_true, Bool.false_eq_true, false_and, and_false, if_false]); all_goals simp [k1, k2]) dX4_notThere_27
    · refine lv_ldc (v := (-1000000006)) F.1 F.2.1 F.2.2.2.1 (F.2.2.2.2 _ (mm 3 rfl)) dX4_notThere_21 ?_
      refine lv_goto (tgt := 27) F.1 F.2.1 dX4_notThere_23 (by decide) ?_
      exact g_reti F hr hlk (vp_nar_int _) hS hP hD (()) (rfl) (by unfold ntC; (try simp only [k1, and_self, true_and, and_true, if_true, Bool.false_eq_true, false_and, and_false, if_false]); all_goals simp [k1, k2]) dX4_notThere_27
  · refine lv_ldc (v := (-1000000001)) F.1 F.2.1 F.2.2.2.1 (F.2.2.2.2 _ (mm 1 rfl)) dX4_notThere_7 ?_
    refine lv_goto (tgt := 27) F.1 F.2.1 dX4_notThere_9 (by decide) ?_
    exact g_reti F hr hlk (vp_nar_int _) hS hP hD (()) (rfl) (by unfold ntC; (try simp only [k1, and_self, true_and, and_true, if_true, Bool.false_eq_true, false_and, and_false, if_false]); all_goals simp [k1]) dX4_notThere_27
set_option maxHeartbeats 4000000 in
set_option maxRecDepth 100000 in
theorem c_X4_cutTo (l : Launch) (E : gE) (b : Int32) (v : Int64) : gL l yX4_cutTo wsX4_cutTo ({ frames := 0, cells := 0, slots := 0, locals := 0 }) E [] (fun _ : Unit => []) [.int b, .long v] (fun (r : Int64) (_ : Unit) => r = cutC b v) := by
  refine gL.of (cc := cX4_cutTo) (maxL := 3) (by decide) rfl (Nat.le_of_ble_eq_true rfl) ?_
  intro pG eG sG mG below meth cG A ls H locs F hr hlk hX hP hD hA hS hl
  have hl : lv_has ls 3 [(0, .int b), (1, .long v)] := hl
  refine lv_iload_n F.1 F.2.1 dX4_cutTo_0 rfl (lv_at hl 0 rfl) ?_
  refine lv_bipush (v := 8) F.1 F.2.1 dX4_cutTo_1 (by decide) ?_
  refine lv_icmp_ne (tgt := 13) F.1 F.2.1 dX4_cutTo_3 (by decide) (fun k1 => ?_) (fun k1 => ?_)
  · refine lv_iload_n F.1 F.2.1 dX4_cutTo_13 rfl (lv_at hl 0 rfl) ?_
    refine lv_bipush (v := 16) F.1 F.2.1 dX4_cutTo_14 (by decide) ?_
    refine lv_icmp_ne (tgt := 26) F.1 F.2.1 dX4_cutTo_16 (by decide) (fun k2 => ?_) (fun k2 => ?_)
    · refine lv_lload_n F.1 F.2.1 dX4_cutTo_26 rfl (lv_at hl 1 rfl) ?_
      exact g_retl F hr hlk hS hP hD (()) (rfl) (by unfold cutC; first | (rw [if_pos k2]; done) | (rw [if_neg k1, if_pos k2]; done) | (rw [if_neg k1, if_neg k2]; done)) dX4_cutTo_27
    · refine lv_lload_n F.1 F.2.1 dX4_cutTo_19 rfl (lv_at hl 1 rfl) ?_
      refine lv_l2i (v := (v : Int64).toInt32) F.1 F.2.1 dX4_cutTo_20 rfl ?_
      refine lv_i2s (v := ((v : Int64).toInt32 : Int32).toInt16.toInt32) F.1 F.2.1 dX4_cutTo_21 rfl ?_
      refine lv_i2l (v := (((v : Int64).toInt32 : Int32).toInt16.toInt32 : Int32).toInt64) F.1 F.2.1 dX4_cutTo_22 rfl ?_
      refine lv_goto (tgt := 27) F.1 F.2.1 dX4_cutTo_23 (by decide) ?_
      exact g_retl F hr hlk hS hP hD (()) (rfl) (by unfold cutC; first | (rw [if_pos k2]; done) | (rw [if_neg k1, if_pos k2]; done) | (rw [if_neg k1, if_neg k2]; done)) dX4_cutTo_27
  · refine lv_lload_n F.1 F.2.1 dX4_cutTo_6 rfl (lv_at hl 1 rfl) ?_
    refine lv_l2i (v := (v : Int64).toInt32) F.1 F.2.1 dX4_cutTo_7 rfl ?_
    refine lv_i2b (v := ((v : Int64).toInt32 : Int32).toInt8.toInt32) F.1 F.2.1 dX4_cutTo_8 rfl ?_
    refine lv_i2l (v := (((v : Int64).toInt32 : Int32).toInt8.toInt32 : Int32).toInt64) F.1 F.2.1 dX4_cutTo_9 rfl ?_
    refine lv_goto (tgt := 27) F.1 F.2.1 dX4_cutTo_10 (by decide) ?_
    exact g_retl F hr hlk hS hP hD (()) (rfl) (by unfold cutC; first | (rw [if_pos k1]; done) | (rw [if_neg k1, if_pos k1]; done) | (rw [if_neg k1, if_neg k1]; done)) dX4_cutTo_27
