def inB (by1 : Nat → Int32) (L j : Nat) (a b : Int32) : Bool := decide (j < L) && inR (by1 j) a b
theorem inB_lt {by1 : Nat → Int32} {L j : Nat} {a b : Int32} (h : j < L) : inB by1 L j a b = inR (by1 j) a b := by unfold inB; rw [decide_eq_true h]; rfl
theorem inB_cc {by1 : Nat → Int32} {L j : Nat} {c : Int32} (h : j < L) : inB by1 L j c c = decide (by1 j = c) := by
  rw [inB_lt h]
  by_cases e : by1 j = c
  · rw [decide_eq_true e, e, inR_iff]; exact ⟨Int.le_refl _, Int.le_refl _⟩
  · rw [decide_eq_false e]
    cases q : inR (by1 j) c c
    · rfl
    · have := inR_iff.mp q
      exact absurd (i32_eq.mpr (by omega)) e
theorem nI_subN {a b : Nat} (h : b ≤ a) (ha : a < 2 ^ 30) : nI a - nI b = nI (a - b) := by
  refine Int32.toInt_inj.mp ?_
  rw [pk_sub_toInt ha (by omega), nI_toInt (by omega)]
  omega
set_option maxHeartbeats 4000000 in
set_option maxRecDepth 100000 in
theorem c_X1_isByte (l : Launch) (E : gE) (tp : Nat) (qb : Nat) (L : Nat) (it1_ : Int32) (pc1 : Int32) (bh1 : Int32) (so1 : Int32) (va1 : Int32) (by1 : Nat → Int32) (j : Nat) (a : Int32) (b : Int32) (hL : L ≤ 120) (hj : j < 2 ^ 31) : gI l yX1_isByte wsX1_isByte ({ frames := 0, cells := 0, slots := 0, locals := 0 }) E [(tp, .inr (1, [.ref qb, .int (nI L), .int it1_, .int pc1, .int bh1, .int so1, .int va1])), (qb, .inl (eI E, 120, .inl by1))] (fun _ : Unit => [(tp, .inr (1, [.ref qb, .int (nI L), .int it1_, .int pc1, .int bh1, .int so1, .int va1])), (qb, .inl (eI E, 120, .inl by1))]) [.ref tp, .int (nI j), .int a, .int b] (fun (r : Int32) (_ : Unit) => r = bi (inB by1 L j a b)) := by
  have hin1 : ∀ w ∈ wsX10, w ∈ wsX1_isByte := (fun _ h => (List.mem_cons_of_mem _ (List.mem_append_right _ h)))
  refine gI.of (cc := cX1_isByte) (maxL := 4) (by decide) rfl (Nat.le_of_ble_eq_true rfl) ?_
  intro pG eG sG mG below meth cG A ls H locs F hr hlk hX hP hD hA hS hl
  have hl : lv_has ls 4 [(0, .ref tp), (1, .int (nI j)), (2, .int a), (3, .int b)] := hl
  refine lv_iload_n F.1 F.2.1 dX1_isByte_0 rfl (lv_at hl 1 rfl) ?_
  refine lv_if_lt (tgt := 36) F.1 F.2.1 dX1_isByte_1 (by decide) (fun k1 => ?_) (fun k1 => ?_)
  · exact absurd k1 (nI_pos hj)
  · refine lv_iload_n F.1 F.2.1 dX1_isByte_4 rfl (lv_at hl 1 rfl) ?_
    refine lv_aload_n F.1 F.2.1 dX1_isByte_5 rfl (lv_at hl 0 rfl) ?_
    refine g_get F hX hP hin1 0 rfl rfl 1 (by decide) (mm 1 rfl) rfl dX1_isByte_6 ?_
    refine lv_icmp_ge (tgt := 36) F.1 F.2.1 dX1_isByte_9 (by decide) (fun k2 => ?_) (fun k2 => ?_)
    · refine lv_iconst (v := 0) F.1 F.2.1 dX1_isByte_36 (by decide) ?_
      exact g_reti F hr hlk rfl hS hP hD (()) (rfl) (by first | (unfold inB inR; rw [decide_eq_true hjL]; simp [bi, k1, k2]; done) | (unfold inB; rw [decide_eq_false (Nat.not_lt.mpr ((nI_leI (by omega) hj).mp k2))]; rfl)) dX1_isByte_37
    · have hjL : j < L := Nat.lt_of_not_le (fun h => k2 (nI_le h (by omega)))
      refine lv_aload_n F.1 F.2.1 dX1_isByte_12 rfl (lv_at hl 0 rfl) ?_
      refine g_get F hX hP hin1 0 rfl rfl 0 (by decide) (mm 2 rfl) rfl dX1_isByte_13 ?_
      refine lv_iload_n F.1 F.2.1 dX1_isByte_16 rfl (lv_at hl 1 rfl) ?_
      refine g_iald F hX hP 1 rfl (j := j) (rfl) (by omega) (by decide) dX1_isByte_17 ?_
      refine lv_iload_n F.1 F.2.1 dX1_isByte_18 rfl (lv_at hl 2 rfl) ?_
      refine lv_icmp_lt (tgt := 36) F.1 F.2.1 dX1_isByte_19 (by decide) (fun k3 => ?_) (fun k3 => ?_)
      · refine lv_iconst (v := 0) F.1 F.2.1 dX1_isByte_36 (by decide) ?_
        exact g_reti F hr hlk rfl hS hP hD (()) (rfl) (by first | (unfold inB inR; rw [decide_eq_true hjL]; simp [bi, k1, k2, k3]; done) | (unfold inB; rw [decide_eq_false (Nat.not_lt.mpr ((nI_leI (by omega) hj).mp k3))]; rfl)) dX1_isByte_37
      · refine lv_aload_n F.1 F.2.1 dX1_isByte_22 rfl (lv_at hl 0 rfl) ?_
        refine g_get F hX hP hin1 0 rfl rfl 0 (by decide) (mm 2 rfl) rfl dX1_isByte_23 ?_
        refine lv_iload_n F.1 F.2.1 dX1_isByte_26 rfl (lv_at hl 1 rfl) ?_
        refine g_iald F hX hP 1 rfl (j := j) (rfl) (by omega) (by decide) dX1_isByte_27 ?_
        refine lv_iload_n F.1 F.2.1 dX1_isByte_28 rfl (lv_at hl 3 rfl) ?_
        refine lv_icmp_gt (tgt := 36) F.1 F.2.1 dX1_isByte_29 (by decide) (fun k4 => ?_) (fun k4 => ?_)
        · refine lv_iconst (v := 0) F.1 F.2.1 dX1_isByte_36 (by decide) ?_
          exact g_reti F hr hlk rfl hS hP hD (()) (rfl) (by first | (unfold inB inR; rw [decide_eq_true hjL]; simp [bi, k1, k2, k3, k4]; done) | (unfold inB; rw [decide_eq_false (Nat.not_lt.mpr ((nI_leI (by omega) hj).mp k4))]; rfl)) dX1_isByte_37
        · refine lv_iconst (v := 1) F.1 F.2.1 dX1_isByte_32 (by decide) ?_
          refine lv_goto (tgt := 37) F.1 F.2.1 dX1_isByte_33 (by decide) ?_
          exact g_reti F hr hlk rfl hS hP hD (()) (rfl) (by first | (unfold inB inR; rw [decide_eq_true hjL]; simp [bi, k1, k2, k3, k4]; done) | (unfold inB; rw [decide_eq_false (Nat.not_lt.mpr ((nI_leI (by omega) hj).mp k4))]; rfl)) dX1_isByte_37
set_option maxHeartbeats 4000000 in
set_option maxRecDepth 100000 in
theorem c_X1_endOfRun (l : Launch) (E : gE) (tp : Nat) (qb : Nat) (L : Nat) (it1_ : Int32) (pc1 : Int32) (bh1 : Int32) (so1 : Int32) (va1 : Int32) (by1 : Nat → Int32) (i0 : Nat) (a : Int32) (b : Int32) (hL : L ≤ 120) (hi0 : i0 ≤ L) : gI l yX1_endOfRun wsX1_endOfRun ({ frames := 1, cells := 0, slots := 0, locals := 23 }) E [(tp, .inr (1, [.ref qb, .int (nI L), .int it1_, .int pc1, .int bh1, .int so1, .int va1])), (qb, .inl (eI E, 120, .inl by1))] (fun _ : Unit => [(tp, .inr (1, [.ref qb, .int (nI L), .int it1_, .int pc1, .int bh1, .int so1, .int va1])), (qb, .inl (eI E, 120, .inl by1))]) [.ref tp, .int (nI i0), .int a, .int b] (fun (r : Int32) (_ : Unit) => r = nI (er by1 a b (L - i0) i0)) := by
  have hin1 : ∀ w ∈ wsX10, w ∈ wsX1_endOfRun := (fun _ h => (List.mem_cons_of_mem _ (List.mem_append_right _ h)))
  refine gI.of (cc := cX1_endOfRun) (maxL := 5) (by decide) rfl (Nat.le_of_ble_eq_true rfl) ?_
  intro pG eG sG mG below meth cG A ls H locs F hr hlk hX hP hD hA hS hl
  have hl : lv_has ls 5 [(0, .ref tp), (1, .int (nI i0)), (2, .int a), (3, .int b)] := hl
  refine lv_iload_n F.1 F.2.1 dX1_endOfRun_0 rfl (lv_at hl 1 rfl) ?_
  refine lv_istore (lv' := [(4, .int (nI i0)), (0, .ref tp), (1, .int (nI i0)), (2, .int a), (3, .int b)]) F.1 F.2.1 dX1_endOfRun_1 hl (by decide) rfl (fun ls hl => ?_)
  have lp3 : ∀ (fu i : Nat), i ≤ L → L + 1 ≤ i + fu → er by1 a b (L - i0) i0 = er by1 a b (L - i) i → ∀ (H : Heap) (locs : List Loc) (ls : Array Slot), va_P (eD E) vwCl [(tp, .inr (1, [.ref qb, .int (nI L), .int it1_, .int pc1, .int bh1, .int so1, .int va1])), (qb, .inl (eI E, 120, .inl by1))] H → va_D A [(tp, .inr (1, [.ref qb, .int (nI L), .int it1_, .int pc1, .int bh1, .int so1, .int va1])), (qb, .inl (eI E, 120, .inl by1))] → va_S A sG.heap H locs → lv_has ls 5 [(4, .int (nI i)), (0, .ref tp), (1, .int (nI i0)), (2, .int a), (3, .int b)] → W pG l eG { frames := 1, cells := 0, slots := 0, locals := 23 } sG mG [.ref tp, .int (nI i0), .int a, .int b].toArray below meth cG H locs 0 0 (MQ below (va_Qi (fun (r : Int32) (_ : Unit) => r = nI (er by1 a b (L - i0) i0)) (gR E (fun _ : Unit => [(tp, .inr (1, [.ref qb, .int (nI L), .int it1_, .int pc1, .int bh1, .int so1, .int va1])), (qb, .inl (eI E, 120, .inl by1))]) A) A) [.ref tp, .int (nI i0), .int a, .int b].toArray sG 0 0 A) (F0 mG 3 ls []) := by
    intro fu
    induction fu with
    | zero => intro i h1 h2; exact absurd h2 (by omega)
    | succ fu ih =>
      intro i hi hin  her H locs ls hP hD hS hl
      refine lv_iload F.1 F.2.1 dX1_endOfRun_3 (lv_at hl 0 rfl) ?_
      refine lv_aload_n F.1 F.2.1 dX1_endOfRun_5 rfl (lv_at hl 1 rfl) ?_
      refine g_get F hX hP hin1 0 rfl rfl 1 (by decide) (mm 1 rfl) rfl dX1_endOfRun_6 ?_
      refine lv_icmp_ge (tgt := 29) F.1 F.2.1 dX1_endOfRun_9 (by decide) (fun k1 => ?_) (fun k1 => ?_)
      · have hiN : L = i := Nat.le_antisymm ((nI_leI (by omega) (by omega)).mp k1) hi
        subst hiN
        refine lv_iload F.1 F.2.1 dX1_endOfRun_29 (lv_at hl 0 rfl) ?_
        exact g_reti F hr hlk (vp_nar_int _) hS hP hD (()) (rfl) (by first | (rw [her, er_end]; done) | (rw [her, er_no ((inB_lt hiN).symm.trans her)]; done)) dX1_endOfRun_31
      · have hiN : i < L := Nat.lt_of_not_le (fun h => k1 (nI_le h (by omega)))
        refine lv_aload_n F.1 F.2.1 dX1_endOfRun_12 rfl (lv_at hl 1 rfl) ?_
        refine lv_iload F.1 F.2.1 dX1_endOfRun_13 (lv_at hl 0 rfl) ?_
        refine lv_iload_n F.1 F.2.1 dX1_endOfRun_15 rfl (lv_at hl 3 rfl) ?_
        refine lv_iload_n F.1 F.2.1 dX1_endOfRun_16 rfl (lv_at hl 4 rfl) ?_
        refine g_goIr (g_runV (As := [.int (nI i), .int a, .int b]) (rest := []) F hX hP hD hS hA (c_X1_isByte l E tp qb L it1_ pc1 bh1 so1 va1 by1 i a b (by first | assumption | omega) (by first | assumption | omega) H.size) (cwV 3 F.2.2.2.2 gX1_endOfRun_X1_isByte rfl rfl rfl (by decide +kernel) ⟨Nat.le_of_ble_eq_true rfl, Nat.le_of_ble_eq_true rfl⟩) [0, 1] rfl rfl (q0 := 0) (ci := 1) rfl rfl rfl hl.1 rfl (Nat.le_of_ble_eq_true rfl) dX1_endOfRun_17 ⟨Nat.le_refl _, Nat.le_refl _⟩) hP hD hS hA [0, 1] rfl (fun r _ H locs hq hP hS => ?_)
        subst hq
        refine g_beq (tgt := 29) F dX1_endOfRun_20 (by decide) (fun k2 => ?_) (fun k2 => ?_)
        · refine lv_iload F.1 F.2.1 dX1_endOfRun_29 (lv_at hl 0 rfl) ?_
          exact g_reti F hr hlk (vp_nar_int _) hS hP hD (()) (rfl) (by first | (rw [her, er_end]; done) | (rw [her, er_no ((inB_lt hiN).symm.trans k2)]; done)) dX1_endOfRun_31
        · refine lv_iinc (v := nI (i + 1)) (lv' := [(4, .int (nI (i + 1))), (0, .ref tp), (1, .int (nI i0)), (2, .int a), (3, .int b)]) F.1 F.2.1 dX1_endOfRun_23 hl (k := 0) rfl (nI_1 _) (by decide) rfl (fun ls hl => ?_)
          refine lv_goto (tgt := 3) F.1 F.2.1 dX1_endOfRun_26 (by decide) ?_
          exact ih (i + 1) (by omega) (by omega)  (her.trans (er_yes ((inB_lt hiN).symm.trans k2) hiN)) _ _ _ hP hD hS (lv_sub hl [0, 1, 2, 3, 4] rfl)
  exact lp3 (L + 1) i0 (by omega) (by omega)  (rfl) _ _ _ hP hD hS (lv_sub hl [0, 1, 2, 3, 4] rfl)
set_option maxHeartbeats 4000000 in
set_option maxRecDepth 100000 in
theorem c_X1_valueOfNumber (l : Launch) (E : gE) (tp : Nat) (qb : Nat) (L : Nat) (it1_ : Int32) (so1 : Int32) (va1 : Int32) (by1 : Nat → Int32) (p : Nat) (q : Nat) (hL : L ≤ 120) (hpq : p ≤ q ∧ q ≤ L) : gI l yX1_valueOfNumber wsX1_valueOfNumber ({ frames := 1, cells := 0, slots := 0, locals := 13 }) E [(tp, .inr (1, [.ref qb, .int (nI L), .int it1_, .int (nI p), .int (nI q), .int so1, .int va1])), (qb, .inl (eI E, 120, .inl by1))] (fun _ : Unit => [(tp, .inr (1, [.ref qb, .int (nI L), .int it1_, .int (nI p), .int (nI q), .int so1, .int va1])), (qb, .inl (eI E, 120, .inl by1))]) [.ref tp] (fun (r : Int32) (_ : Unit) => r = vl by1 p (q - p)) := by
  have hin1 : ∀ w ∈ wsX10, w ∈ wsX1_valueOfNumber := (fun _ h => (List.mem_cons_of_mem _ (List.mem_append_right _ h)))
  refine gI.of (cc := cX1_valueOfNumber) (maxL := 3) (by decide) rfl (Nat.le_of_ble_eq_true rfl) ?_
  intro pG eG sG mG below meth cG A ls H locs F hr hlk hX hP hD hA hS hl
  have hl : lv_has ls 3 [(0, .ref tp)] := hl
  refine lv_iconst (v := 0) F.1 F.2.1 dX1_valueOfNumber_0 (by decide) ?_
  refine lv_istore_n (lv' := [(1, .int 0), (0, .ref tp)]) F.1 F.2.1 dX1_valueOfNumber_1 rfl hl (by decide) rfl (fun ls hl => ?_)
  refine lv_aload_n F.1 F.2.1 dX1_valueOfNumber_2 rfl (lv_at hl 1 rfl) ?_
  refine g_get F hX hP hin1 0 rfl rfl 3 (by decide) (mm 1 rfl) rfl dX1_valueOfNumber_3 ?_
  refine lv_istore_n (lv' := [(2, .int (nI p)), (1, .int 0), (0, .ref tp)]) F.1 F.2.1 dX1_valueOfNumber_6 rfl hl (by decide) rfl (fun ls hl => ?_)
  have lp7 : ∀ (fu i : Nat), i ≤ (q - p) → (q - p) + 1 ≤ i + fu → ∀ (H : Heap) (locs : List Loc) (ls : Array Slot), va_P (eD E) vwCl [(tp, .inr (1, [.ref qb, .int (nI L), .int it1_, .int (nI p), .int (nI q), .int so1, .int va1])), (qb, .inl (eI E, 120, .inl by1))] H → va_D A [(tp, .inr (1, [.ref qb, .int (nI L), .int it1_, .int (nI p), .int (nI q), .int so1, .int va1])), (qb, .inl (eI E, 120, .inl by1))] → va_S A sG.heap H locs → lv_has ls 3 [(2, .int (nI (p + i))), (1, .int (vl by1 p i)), (0, .ref tp)] → W pG l eG { frames := 1, cells := 0, slots := 0, locals := 13 } sG mG [.ref tp].toArray below meth cG H locs 0 0 (MQ below (va_Qi (fun (r : Int32) (_ : Unit) => r = vl by1 p (q - p)) (gR E (fun _ : Unit => [(tp, .inr (1, [.ref qb, .int (nI L), .int it1_, .int (nI p), .int (nI q), .int so1, .int va1])), (qb, .inl (eI E, 120, .inl by1))]) A) A) [.ref tp].toArray sG 0 0 A) (F0 mG 7 ls []) := by
    intro fu
    induction fu with
    | zero => intro i h1 h2; exact absurd h2 (by omega)
    | succ fu ih =>
      intro i hi hin   H locs ls hP hD hS hl
      refine lv_iload_n F.1 F.2.1 dX1_valueOfNumber_7 rfl (lv_at hl 0 rfl) ?_
      refine lv_aload_n F.1 F.2.1 dX1_valueOfNumber_8 rfl (lv_at hl 2 rfl) ?_
      refine g_get F hX hP hin1 0 rfl rfl 4 (by decide) (mm 2 rfl) rfl dX1_valueOfNumber_9 ?_
      refine lv_icmp_ge (tgt := 50) F.1 F.2.1 dX1_valueOfNumber_12 (by decide) (fun k1 => ?_) (fun k1 => ?_)
      · have hiN : (q - p) = i := Nat.le_antisymm (by have := (nI_leI (by omega) (by omega)).mp k1; omega) hi
        subst hiN
        refine lv_iload_n F.1 F.2.1 dX1_valueOfNumber_50 rfl (lv_at hl 1 rfl) ?_
        exact g_reti F hr hlk (vp_nar_int _) hS hP hD (()) (rfl) (rfl) dX1_valueOfNumber_51
      · have hiN : i < (q - p) := Nat.lt_of_not_le (fun h => k1 (nI_le (show q ≤ p + i by omega) (by omega)))
        refine lv_iload_n F.1 F.2.1 dX1_valueOfNumber_15 rfl (lv_at hl 0 rfl) ?_
        refine lv_aload_n F.1 F.2.1 dX1_valueOfNumber_16 rfl (lv_at hl 2 rfl) ?_
        refine g_get F hX hP hin1 0 rfl rfl 1 (by decide) (mm 3 rfl) rfl dX1_valueOfNumber_17 ?_
        refine lv_icmp_ge (tgt := 50) F.1 F.2.1 dX1_valueOfNumber_20 (by decide) (fun k2 => ?_) (fun k2 => ?_)
        · exact absurd k2 (nI_ge (show p + i < L by omega) (by omega))
        · refine lv_sipush (v := 1000) F.1 F.2.1 dX1_valueOfNumber_23 (by decide) ?_
          refine lv_bipush (v := 10) F.1 F.2.1 dX1_valueOfNumber_26 (by decide) ?_
          refine lv_iload_n F.1 F.2.1 dX1_valueOfNumber_28 rfl (lv_at hl 1 rfl) ?_
          refine lv_imul F.1 F.2.1 dX1_valueOfNumber_29 ?_
          refine lv_aload_n F.1 F.2.1 dX1_valueOfNumber_30 rfl (lv_at hl 2 rfl) ?_
          refine g_get F hX hP hin1 0 rfl rfl 0 (by decide) (mm 4 rfl) rfl dX1_valueOfNumber_31 ?_
          refine lv_iload_n F.1 F.2.1 dX1_valueOfNumber_34 rfl (lv_at hl 0 rfl) ?_
          refine g_iald F hX hP 1 rfl (j := (p + i)) (rfl) (by omega) (by decide) dX1_valueOfNumber_35 ?_
          refine lv_iadd F.1 F.2.1 dX1_valueOfNumber_36 ?_
          refine lv_bipush (v := 48) F.1 F.2.1 dX1_valueOfNumber_37 (by decide) ?_
          refine lv_isub F.1 F.2.1 dX1_valueOfNumber_39 ?_
          refine g_mmin F hl (mm 5 rfl) (mm 6 rfl) (mm 7 rfl) (mm 8 rfl) (Nat.le_of_ble_eq_true rfl) (Nat.le_of_ble_eq_true rfl) dX1_valueOfNumber_40 ?_
          refine lv_istore_n (lv' := [(1, .int (iMin 1000 (((10 * (vl by1 p i)) + (by1 (p + i))) - 48))), (2, .int (nI (p + i))), (0, .ref tp)]) F.1 F.2.1 dX1_valueOfNumber_43 rfl hl (by decide) rfl (fun ls hl => ?_)
          refine lv_iinc (v := nI ((p + i) + 1)) (lv' := [(2, .int (nI ((p + i) + 1))), (1, .int (iMin 1000 (((10 * (vl by1 p i)) + (by1 (p + i))) - 48))), (0, .ref tp)]) F.1 F.2.1 dX1_valueOfNumber_44 hl (k := 1) rfl (nI_1 _) (by decide) rfl (fun ls hl => ?_)
          refine lv_goto (tgt := 7) F.1 F.2.1 dX1_valueOfNumber_47 (by decide) ?_
          exact ih (i + 1) (by omega) (by omega)  _ _ _ hP hD hS (lv_sub hl [0, 1, 2] rfl)
  exact lp7 ((q - p) + 1) 0 (by omega) (by omega)  _ _ _ hP hD hS (lv_sub hl [0, 1, 2] rfl)
theorem tok3 {by1 : Nat → Int32} {L p : Nat} (h : ¬ p < L) : tq by1 L p = p ∧ ts by1 L p = 3 ∧ ∀ v, vn by1 L p v = v := by
  unfold tq ts vn; rw [if_neg h, if_neg h]; exact ⟨rfl, rfl, fun v => if_neg h⟩
theorem tok0 {by1 : Nat → Int32} {L p : Nat} (h : p < L) (h1 : inR (by1 p) 97 122 = true) : tq by1 L p = er by1 97 122 (L - p) p ∧ ts by1 L p = 0 ∧ ∀ v, vn by1 L p v = v := by
  unfold tq ts vn; rw [if_pos h, if_pos h, h1]; exact ⟨rfl, rfl, fun v => if_pos h⟩
theorem tok1 {by1 : Nat → Int32} {L p : Nat} (h : p < L) (h1 : inR (by1 p) 97 122 = false) (h2 : inR (by1 p) 48 57 = true) : tq by1 L p = er by1 48 57 (L - p) p ∧ ts by1 L p = 1 ∧ ∀ v, vn by1 L p v = vl by1 p (er by1 48 57 (L - p) p - p) := by
  have e : tq by1 L p = er by1 48 57 (L - p) p := by unfold tq; rw [if_pos h, h1, h2]; rfl
  refine ⟨e, ?_, fun v => ?_⟩
  · unfold ts; rw [if_pos h, h1, h2]; rfl
  · unfold vn; rw [if_pos h, h1, h2, e]; rfl
theorem tok2 {by1 : Nat → Int32} {L p : Nat} (h : p < L) (h1 : inR (by1 p) 97 122 = false) (h2 : inR (by1 p) 48 57 = false) : tq by1 L p = p + 1 ∧ ts by1 L p = (bif inR (by1 p) 59 59 then 2 else 4) ∧ ∀ v, vn by1 L p v = v := by
  unfold tq ts vn; rw [if_pos h, if_pos h, h1, h2]; exact ⟨rfl, rfl, fun v => if_pos h⟩
set_option maxHeartbeats 4000000 in
set_option maxRecDepth 100000 in
theorem c_X1_step (l : Launch) (E : gE) (tp : Nat) (qb : Nat) (L : Nat) (it1_ : Int32) (pc1 : Int32) (so1 : Int32) (va1 : Int32) (by1 : Nat → Int32) (b0 : Nat) (hL : L ≤ 120) (hb0 : b0 ≤ L) : gV l yX1_step wsX1_step ({ frames := 2, cells := 0, slots := 0, locals := 47 }) E [(tp, .inr (1, [.ref qb, .int (nI L), .int it1_, .int pc1, .int (nI b0), .int so1, .int va1])), (qb, .inl (eI E, 120, .inl by1))] (fun _ : Unit => [(tp, .inr (1, [.ref qb, .int (nI L), .int it1_, .int (nI (skp by1 L b0)), .int (nI (tq by1 L (skp by1 L b0))), .int (ts by1 L (skp by1 L b0)), .int (vn by1 L (skp by1 L b0) va1)])), (qb, .inl (eI E, 120, .inl by1))]) [.ref tp] (fun (_ : Unit) => True) := by
  have hr0 := skp_rng (by1 := by1) hb0
  have hin1 : ∀ w ∈ wsX10, w ∈ wsX1_step := (fun _ h => (List.mem_cons_of_mem _ (List.mem_append_right _ h)))
  refine gV.of (cc := cX1_step) (maxL := 1) (by decide) rfl (Nat.le_of_ble_eq_true rfl) ?_
  intro pG eG sG mG below meth cG A ls H locs F hr hlk hX hP hD hA hS hl
  have hl : lv_has ls 1 [(0, .ref tp)] := hl
  refine lv_aload_n F.1 F.2.1 dX1_step_0 rfl (lv_at hl 0 rfl) ?_
  refine lv_aload_n F.1 F.2.1 dX1_step_1 rfl (lv_at hl 0 rfl) ?_
  refine lv_aload_n F.1 F.2.1 dX1_step_2 rfl (lv_at hl 0 rfl) ?_
  refine g_get F hX hP hin1 0 rfl rfl 4 (by decide) (mm 1 rfl) rfl dX1_step_3 ?_
  refine lv_bipush (v := 32) F.1 F.2.1 dX1_step_6 (by decide) ?_
  refine lv_bipush (v := 32) F.1 F.2.1 dX1_step_8 (by decide) ?_
  refine g_goIr (g_runV (As := [.int (nI b0), .int 32, .int 32]) (rest := [.ref tp]) F hX hP hD hS hA (c_X1_endOfRun l E tp qb L it1_ pc1 (nI b0) so1 va1 by1 b0 32 32 (by first | assumption | omega) (by first | assumption | omega) H.size) (cwV 3 F.2.2.2.2 gX1_step_X1_endOfRun rfl rfl rfl (by decide +kernel) ⟨Nat.le_of_ble_eq_true rfl, Nat.le_of_ble_eq_true rfl⟩) [0, 1] rfl rfl (q0 := 0) (ci := 1) rfl rfl rfl hl.1 rfl (Nat.le_of_ble_eq_true rfl) dX1_step_10 ⟨Nat.le_refl _, Nat.le_refl _⟩) hP hD hS hA [0, 1] rfl (fun r _ H locs hq hP hS => ?_)
  subst hq
  refine g_top (nI (skp by1 L b0)) (rfl) ?_
  refine g_put F hX hP hD hS hin1 tyX1 tyX1_ok nmX1 0 rfl rfl 3 (by decide) (mm 2 rfl) rfl (rfl) (rfl) (Nat.le_of_ble_eq_true rfl) dX1_step_13 (fun H locs hP hD hS => ?_)
  have hP : va_P (eD E) vwCl [(tp, .inr (1, [.ref qb, .int (nI L), .int it1_, .int (nI (skp by1 L b0)), .int (nI b0), .int so1, .int va1])), (qb, .inl (eI E, 120, .inl by1))] H := hP
  have hD : va_D A [(tp, .inr (1, [.ref qb, .int (nI L), .int it1_, .int (nI (skp by1 L b0)), .int (nI b0), .int so1, .int va1])), (qb, .inl (eI E, 120, .inl by1))] := hD
  refine lv_aload_n F.1 F.2.1 dX1_step_16 rfl (lv_at hl 0 rfl) ?_
  refine lv_aload_n F.1 F.2.1 dX1_step_17 rfl (lv_at hl 0 rfl) ?_
  refine g_get F hX hP hin1 0 rfl rfl 3 (by decide) (mm 2 rfl) rfl dX1_step_18 ?_
  refine lv_iconst (v := 1) F.1 F.2.1 dX1_step_21 (by decide) ?_
  refine lv_iadd F.1 F.2.1 dX1_step_22 ?_
  refine g_top (nI ((skp by1 L b0) + 1)) (nI_1 _) ?_
  refine g_put F hX hP hD hS hin1 tyX1 tyX1_ok nmX1 0 rfl rfl 4 (by decide) (mm 1 rfl) rfl (rfl) (rfl) (Nat.le_of_ble_eq_true rfl) dX1_step_23 (fun H locs hP hD hS => ?_)
  have hP : va_P (eD E) vwCl [(tp, .inr (1, [.ref qb, .int (nI L), .int it1_, .int (nI (skp by1 L b0)), .int (nI ((skp by1 L b0) + 1)), .int so1, .int va1])), (qb, .inl (eI E, 120, .inl by1))] H := hP
  have hD : va_D A [(tp, .inr (1, [.ref qb, .int (nI L), .int it1_, .int (nI (skp by1 L b0)), .int (nI ((skp by1 L b0) + 1)), .int so1, .int va1])), (qb, .inl (eI E, 120, .inl by1))] := hD
  refine lv_aload_n F.1 F.2.1 dX1_step_26 rfl (lv_at hl 0 rfl) ?_
  refine g_get F hX hP hin1 0 rfl rfl 3 (by decide) (mm 2 rfl) rfl dX1_step_27 ?_
  refine lv_aload_n F.1 F.2.1 dX1_step_30 rfl (lv_at hl 0 rfl) ?_
  refine g_get F hX hP hin1 0 rfl rfl 1 (by decide) (mm 3 rfl) rfl dX1_step_31 ?_
  refine lv_icmp_lt (tgt := 53) F.1 F.2.1 dX1_step_34 (by decide) (fun k1 => ?_) (fun k1 => ?_)
  · have hpL : (skp by1 L b0) < L := (nI_ltI (by omega) (by omega)).mp k1
    refine lv_aload_n F.1 F.2.1 dX1_step_53 rfl (lv_at hl 0 rfl) ?_
    refine lv_aload_n F.1 F.2.1 dX1_step_54 rfl (lv_at hl 0 rfl) ?_
    refine g_get F hX hP hin1 0 rfl rfl 3 (by decide) (mm 2 rfl) rfl dX1_step_55 ?_
    refine lv_bipush (v := 97) F.1 F.2.1 dX1_step_58 (by decide) ?_
    refine lv_bipush (v := 122) F.1 F.2.1 dX1_step_60 (by decide) ?_
    refine g_goIr (g_runV (As := [.int (nI (skp by1 L b0)), .int 97, .int 122]) (rest := []) F hX hP hD hS hA (c_X1_isByte l E tp qb L it1_ (nI (skp by1 L b0)) (nI ((skp by1 L b0) + 1)) so1 va1 by1 (skp by1 L b0) 97 122 (by first | assumption | omega) (by first | assumption | omega) H.size) (cwV 3 F.2.2.2.2 gX1_step_X1_isByte rfl rfl rfl (by decide +kernel) ⟨Nat.le_of_ble_eq_true rfl, Nat.le_of_ble_eq_true rfl⟩) [0, 1] rfl rfl (q0 := 0) (ci := 1) rfl rfl rfl hl.1 rfl (Nat.le_of_ble_eq_true rfl) dX1_step_62 ⟨Nat.le_refl _, Nat.le_refl _⟩) hP hD hS hA [0, 1] rfl (fun r _ H locs hq hP hS => ?_)
    subst hq
    refine g_top (bi (inR (by1 (skp by1 L b0)) 97 122)) (congrArg bi (inB_lt hpL)) ?_
    refine g_beq (tgt := 92) F dX1_step_65 (by decide) (fun k2 => ?_) (fun k2 => ?_)
    · refine lv_aload_n F.1 F.2.1 dX1_step_92 rfl (lv_at hl 0 rfl) ?_
      refine lv_aload_n F.1 F.2.1 dX1_step_93 rfl (lv_at hl 0 rfl) ?_
      refine g_get F hX hP hin1 0 rfl rfl 3 (by decide) (mm 2 rfl) rfl dX1_step_94 ?_
      refine lv_bipush (v := 48) F.1 F.2.1 dX1_step_97 (by decide) ?_
      refine lv_bipush (v := 57) F.1 F.2.1 dX1_step_99 (by decide) ?_
      refine g_goIr (g_runV (As := [.int (nI (skp by1 L b0)), .int 48, .int 57]) (rest := []) F hX hP hD hS hA (c_X1_isByte l E tp qb L it1_ (nI (skp by1 L b0)) (nI ((skp by1 L b0) + 1)) so1 va1 by1 (skp by1 L b0) 48 57 (by first | assumption | omega) (by first | assumption | omega) H.size) (cwV 3 F.2.2.2.2 gX1_step_X1_isByte rfl rfl rfl (by decide +kernel) ⟨Nat.le_of_ble_eq_true rfl, Nat.le_of_ble_eq_true rfl⟩) [0, 1] rfl rfl (q0 := 0) (ci := 1) rfl rfl rfl hl.1 rfl (Nat.le_of_ble_eq_true rfl) dX1_step_101 ⟨Nat.le_refl _, Nat.le_refl _⟩) hP hD hS hA [0, 1] rfl (fun r _ H locs hq hP hS => ?_)
      subst hq
      refine g_top (bi (inR (by1 (skp by1 L b0)) 48 57)) (congrArg bi (inB_lt hpL)) ?_
      refine g_beq (tgt := 139) F dX1_step_104 (by decide) (fun k3 => ?_) (fun k3 => ?_)
      · refine lv_aload_n F.1 F.2.1 dX1_step_139 rfl (lv_at hl 0 rfl) ?_
        refine lv_aload_n F.1 F.2.1 dX1_step_140 rfl (lv_at hl 0 rfl) ?_
        refine lv_aload_n F.1 F.2.1 dX1_step_141 rfl (lv_at hl 0 rfl) ?_
        refine g_get F hX hP hin1 0 rfl rfl 3 (by decide) (mm 2 rfl) rfl dX1_step_142 ?_
        refine lv_bipush (v := 59) F.1 F.2.1 dX1_step_145 (by decide) ?_
        refine lv_bipush (v := 59) F.1 F.2.1 dX1_step_147 (by decide) ?_
        refine g_goIr (g_runV (As := [.int (nI (skp by1 L b0)), .int 59, .int 59]) (rest := [.ref tp]) F hX hP hD hS hA (c_X1_isByte l E tp qb L it1_ (nI (skp by1 L b0)) (nI ((skp by1 L b0) + 1)) so1 va1 by1 (skp by1 L b0) 59 59 (by first | assumption | omega) (by first | assumption | omega) H.size) (cwV 3 F.2.2.2.2 gX1_step_X1_isByte rfl rfl rfl (by decide +kernel) ⟨Nat.le_of_ble_eq_true rfl, Nat.le_of_ble_eq_true rfl⟩) [0, 1] rfl rfl (q0 := 0) (ci := 1) rfl rfl rfl hl.1 rfl (Nat.le_of_ble_eq_true rfl) dX1_step_149 ⟨Nat.le_refl _, Nat.le_refl _⟩) hP hD hS hA [0, 1] rfl (fun r _ H locs hq hP hS => ?_)
        subst hq
        refine g_top (bi (inR (by1 (skp by1 L b0)) 59 59)) (congrArg bi (inB_lt hpL)) ?_
        have jn160 : ∀ (H : Heap) (locs : List Loc) (ls : Array Slot), va_P (eD E) vwCl [(tp, .inr (1, [.ref qb, .int (nI L), .int it1_, .int (nI (skp by1 L b0)), .int (nI ((skp by1 L b0) + 1)), .int so1, .int va1])), (qb, .inl (eI E, 120, .inl by1))] H → va_D A [(tp, .inr (1, [.ref qb, .int (nI L), .int it1_, .int (nI (skp by1 L b0)), .int (nI ((skp by1 L b0) + 1)), .int so1, .int va1])), (qb, .inl (eI E, 120, .inl by1))] → va_S A sG.heap H locs → lv_has ls 1 [(0, .ref tp)] → W pG l eG { frames := 2, cells := 0, slots := 0, locals := 47 } sG mG [.ref tp].toArray below meth cG H locs 0 0 (MQ below (va_Qv (fun (_ : Unit) => True) (gR E (fun _ : Unit => [(tp, .inr (1, [.ref qb, .int (nI L), .int it1_, .int (nI (skp by1 L b0)), .int (nI (tq by1 L (skp by1 L b0))), .int (ts by1 L (skp by1 L b0)), .int (vn by1 L (skp by1 L b0) va1)])), (qb, .inl (eI E, 120, .inl by1))]) A) A) [.ref tp].toArray sG 0 0 A) (F0 mG 160 ls [.int (bif inR (by1 (skp by1 L b0)) 59 59 then 2 else 4), .ref tp]) := by
          intro H locs ls hP hD hS hl
          refine g_put F hX hP hD hS hin1 tyX1 tyX1_ok nmX1 0 rfl rfl 5 (by decide) (mm 4 rfl) rfl (rfl) (rfl) (Nat.le_of_ble_eq_true rfl) dX1_step_160 (fun H locs hP hD hS => ?_)
          have hP : va_P (eD E) vwCl [(tp, .inr (1, [.ref qb, .int (nI L), .int it1_, .int (nI (skp by1 L b0)), .int (nI ((skp by1 L b0) + 1)), .int (bif inR (by1 (skp by1 L b0)) 59 59 then 2 else 4), .int va1])), (qb, .inl (eI E, 120, .inl by1))] H := hP
          have hD : va_D A [(tp, .inr (1, [.ref qb, .int (nI L), .int it1_, .int (nI (skp by1 L b0)), .int (nI ((skp by1 L b0) + 1)), .int (bif inR (by1 (skp by1 L b0)) 59 59 then 2 else 4), .int va1])), (qb, .inl (eI E, 120, .inl by1))] := hD
          exact g_retv F hr hlk hS hP hD (()) (by first | (obtain ⟨z1, z2, z3⟩ := tok3 (by1 := by1) hpL; rw [z1, z2, z3]; done) | (obtain ⟨z1, z2, z3⟩ := tok0 (by1 := by1) hpL k3; rw [z1, z2, z3]; done) | (obtain ⟨z1, z2, z3⟩ := tok1 (by1 := by1) hpL k2 k3; rw [z1, z2, z3]; done) | (obtain ⟨z1, z2, z3⟩ := tok2 (by1 := by1) hpL k2 k3; rw [z1, z2, z3]; done)) (trivial) dX1_step_163
        refine g_beq (tgt := 159) F dX1_step_152 (by decide) (fun k4 => ?_) (fun k4 => ?_)
        · refine lv_iconst (v := 4) F.1 F.2.1 dX1_step_159 (by decide) ?_
          refine g_top (bif inR (by1 (skp by1 L b0)) 59 59 then 2 else 4) (by rw [k4]; rfl) ?_
          exact jn160 _ _ _ hP hD hS (lv_sub hl [0] rfl)
        · refine lv_iconst (v := 2) F.1 F.2.1 dX1_step_155 (by decide) ?_
          refine lv_goto (tgt := 160) F.1 F.2.1 dX1_step_156 (by decide) ?_
          refine g_top (bif inR (by1 (skp by1 L b0)) 59 59 then 2 else 4) (by rw [k4]; rfl) ?_
          exact jn160 _ _ _ hP hD hS (lv_sub hl [0] rfl)
      · refine lv_aload_n F.1 F.2.1 dX1_step_107 rfl (lv_at hl 0 rfl) ?_
        refine lv_iconst (v := 1) F.1 F.2.1 dX1_step_108 (by decide) ?_
        refine g_put F hX hP hD hS hin1 tyX1 tyX1_ok nmX1 0 rfl rfl 5 (by decide) (mm 4 rfl) rfl (rfl) (rfl) (Nat.le_of_ble_eq_true rfl) dX1_step_109 (fun H locs hP hD hS => ?_)
        have hP : va_P (eD E) vwCl [(tp, .inr (1, [.ref qb, .int (nI L), .int it1_, .int (nI (skp by1 L b0)), .int (nI ((skp by1 L b0) + 1)), .int 1, .int va1])), (qb, .inl (eI E, 120, .inl by1))] H := hP
        have hD : va_D A [(tp, .inr (1, [.ref qb, .int (nI L), .int it1_, .int (nI (skp by1 L b0)), .int (nI ((skp by1 L b0) + 1)), .int 1, .int va1])), (qb, .inl (eI E, 120, .inl by1))] := hD
        refine lv_aload_n F.1 F.2.1 dX1_step_112 rfl (lv_at hl 0 rfl) ?_
        refine lv_aload_n F.1 F.2.1 dX1_step_113 rfl (lv_at hl 0 rfl) ?_
        refine lv_aload_n F.1 F.2.1 dX1_step_114 rfl (lv_at hl 0 rfl) ?_
        refine g_get F hX hP hin1 0 rfl rfl 3 (by decide) (mm 2 rfl) rfl dX1_step_115 ?_
        refine lv_bipush (v := 48) F.1 F.2.1 dX1_step_118 (by decide) ?_
        refine lv_bipush (v := 57) F.1 F.2.1 dX1_step_120 (by decide) ?_
        refine g_goIr (g_runV (As := [.int (nI (skp by1 L b0)), .int 48, .int 57]) (rest := [.ref tp]) F hX hP hD hS hA (c_X1_endOfRun l E tp qb L it1_ (nI (skp by1 L b0)) (nI ((skp by1 L b0) + 1)) 1 va1 by1 (skp by1 L b0) 48 57 (by first | assumption | omega) (by first | assumption | omega) H.size) (cwV 3 F.2.2.2.2 gX1_step_X1_endOfRun rfl rfl rfl (by decide +kernel) ⟨Nat.le_of_ble_eq_true rfl, Nat.le_of_ble_eq_true rfl⟩) [0, 1] rfl rfl (q0 := 0) (ci := 1) rfl rfl rfl hl.1 rfl (Nat.le_of_ble_eq_true rfl) dX1_step_122 ⟨Nat.le_refl _, Nat.le_refl _⟩) hP hD hS hA [0, 1] rfl (fun r _ H locs hq hP hS => ?_)
        subst hq
        refine g_put F hX hP hD hS hin1 tyX1 tyX1_ok nmX1 0 rfl rfl 4 (by decide) (mm 1 rfl) rfl (rfl) (rfl) (Nat.le_of_ble_eq_true rfl) dX1_step_125 (fun H locs hP hD hS => ?_)
        have hP : va_P (eD E) vwCl [(tp, .inr (1, [.ref qb, .int (nI L), .int it1_, .int (nI (skp by1 L b0)), .int (nI (er by1 48 57 (L - (skp by1 L b0)) (skp by1 L b0))), .int 1, .int va1])), (qb, .inl (eI E, 120, .inl by1))] H := hP
        have hD : va_D A [(tp, .inr (1, [.ref qb, .int (nI L), .int it1_, .int (nI (skp by1 L b0)), .int (nI (er by1 48 57 (L - (skp by1 L b0)) (skp by1 L b0))), .int 1, .int va1])), (qb, .inl (eI E, 120, .inl by1))] := hD
        refine lv_aload_n F.1 F.2.1 dX1_step_128 rfl (lv_at hl 0 rfl) ?_
        refine lv_aload_n F.1 F.2.1 dX1_step_129 rfl (lv_at hl 0 rfl) ?_
        refine g_goIr (g_runV (As := []) (rest := [.ref tp]) F hX hP hD hS hA (c_X1_valueOfNumber l E tp qb L it1_ 1 va1 by1 (skp by1 L b0) (er by1 48 57 (L - (skp by1 L b0)) (skp by1 L b0)) (by first | assumption | omega) (by have := er_rng (by1 := by1) 48 57 (L - (skp by1 L b0)) (skp by1 L b0); omega) H.size) (cwV 0 F.2.2.2.2 gX1_step_X1_valueOfNumber rfl rfl rfl (by decide +kernel) ⟨Nat.le_of_ble_eq_true rfl, Nat.le_of_ble_eq_true rfl⟩) [0, 1] rfl rfl (q0 := 0) (ci := 1) rfl rfl rfl hl.1 rfl (Nat.le_of_ble_eq_true rfl) dX1_step_130 ⟨Nat.le_refl _, Nat.le_refl _⟩) hP hD hS hA [0, 1] rfl (fun r _ H locs hq hP hS => ?_)
        subst hq
        refine g_put F hX hP hD hS hin1 tyX1 tyX1_ok nmX1 0 rfl rfl 6 (by decide) (mm 5 rfl) rfl (rfl) (rfl) (Nat.le_of_ble_eq_true rfl) dX1_step_133 (fun H locs hP hD hS => ?_)
        have hP : va_P (eD E) vwCl [(tp, .inr (1, [.ref qb, .int (nI L), .int it1_, .int (nI (skp by1 L b0)), .int (nI (er by1 48 57 (L - (skp by1 L b0)) (skp by1 L b0))), .int 1, .int (vl by1 (skp by1 L b0) ((er by1 48 57 (L - (skp by1 L b0)) (skp by1 L b0)) - (skp by1 L b0)))])), (qb, .inl (eI E, 120, .inl by1))] H := hP
        have hD : va_D A [(tp, .inr (1, [.ref qb, .int (nI L), .int it1_, .int (nI (skp by1 L b0)), .int (nI (er by1 48 57 (L - (skp by1 L b0)) (skp by1 L b0))), .int 1, .int (vl by1 (skp by1 L b0) ((er by1 48 57 (L - (skp by1 L b0)) (skp by1 L b0)) - (skp by1 L b0)))])), (qb, .inl (eI E, 120, .inl by1))] := hD
        refine lv_goto (tgt := 163) F.1 F.2.1 dX1_step_136 (by decide) ?_
        exact g_retv F hr hlk hS hP hD (()) (by first | (obtain ⟨z1, z2, z3⟩ := tok3 (by1 := by1) hpL; rw [z1, z2, z3]; done) | (obtain ⟨z1, z2, z3⟩ := tok0 (by1 := by1) hpL k3; rw [z1, z2, z3]; done) | (obtain ⟨z1, z2, z3⟩ := tok1 (by1 := by1) hpL k2 k3; rw [z1, z2, z3]; done) | (obtain ⟨z1, z2, z3⟩ := tok2 (by1 := by1) hpL k2 k3; rw [z1, z2, z3]; done)) (trivial) dX1_step_163
    · refine lv_aload_n F.1 F.2.1 dX1_step_68 rfl (lv_at hl 0 rfl) ?_
      refine lv_iconst (v := 0) F.1 F.2.1 dX1_step_69 (by decide) ?_
      refine g_put F hX hP hD hS hin1 tyX1 tyX1_ok nmX1 0 rfl rfl 5 (by decide) (mm 4 rfl) rfl (rfl) (rfl) (Nat.le_of_ble_eq_true rfl) dX1_step_70 (fun H locs hP hD hS => ?_)
      have hP : va_P (eD E) vwCl [(tp, .inr (1, [.ref qb, .int (nI L), .int it1_, .int (nI (skp by1 L b0)), .int (nI ((skp by1 L b0) + 1)), .int 0, .int va1])), (qb, .inl (eI E, 120, .inl by1))] H := hP
      have hD : va_D A [(tp, .inr (1, [.ref qb, .int (nI L), .int it1_, .int (nI (skp by1 L b0)), .int (nI ((skp by1 L b0) + 1)), .int 0, .int va1])), (qb, .inl (eI E, 120, .inl by1))] := hD
      refine lv_aload_n F.1 F.2.1 dX1_step_73 rfl (lv_at hl 0 rfl) ?_
      refine lv_aload_n F.1 F.2.1 dX1_step_74 rfl (lv_at hl 0 rfl) ?_
      refine lv_aload_n F.1 F.2.1 dX1_step_75 rfl (lv_at hl 0 rfl) ?_
      refine g_get F hX hP hin1 0 rfl rfl 3 (by decide) (mm 2 rfl) rfl dX1_step_76 ?_
      refine lv_bipush (v := 97) F.1 F.2.1 dX1_step_79 (by decide) ?_
      refine lv_bipush (v := 122) F.1 F.2.1 dX1_step_81 (by decide) ?_
      refine g_goIr (g_runV (As := [.int (nI (skp by1 L b0)), .int 97, .int 122]) (rest := [.ref tp]) F hX hP hD hS hA (c_X1_endOfRun l E tp qb L it1_ (nI (skp by1 L b0)) (nI ((skp by1 L b0) + 1)) 0 va1 by1 (skp by1 L b0) 97 122 (by first | assumption | omega) (by first | assumption | omega) H.size) (cwV 3 F.2.2.2.2 gX1_step_X1_endOfRun rfl rfl rfl (by decide +kernel) ⟨Nat.le_of_ble_eq_true rfl, Nat.le_of_ble_eq_true rfl⟩) [0, 1] rfl rfl (q0 := 0) (ci := 1) rfl rfl rfl hl.1 rfl (Nat.le_of_ble_eq_true rfl) dX1_step_83 ⟨Nat.le_refl _, Nat.le_refl _⟩) hP hD hS hA [0, 1] rfl (fun r _ H locs hq hP hS => ?_)
      subst hq
      refine g_put F hX hP hD hS hin1 tyX1 tyX1_ok nmX1 0 rfl rfl 4 (by decide) (mm 1 rfl) rfl (rfl) (rfl) (Nat.le_of_ble_eq_true rfl) dX1_step_86 (fun H locs hP hD hS => ?_)
      have hP : va_P (eD E) vwCl [(tp, .inr (1, [.ref qb, .int (nI L), .int it1_, .int (nI (skp by1 L b0)), .int (nI (er by1 97 122 (L - (skp by1 L b0)) (skp by1 L b0))), .int 0, .int va1])), (qb, .inl (eI E, 120, .inl by1))] H := hP
      have hD : va_D A [(tp, .inr (1, [.ref qb, .int (nI L), .int it1_, .int (nI (skp by1 L b0)), .int (nI (er by1 97 122 (L - (skp by1 L b0)) (skp by1 L b0))), .int 0, .int va1])), (qb, .inl (eI E, 120, .inl by1))] := hD
      refine lv_goto (tgt := 163) F.1 F.2.1 dX1_step_89 (by decide) ?_
      exact g_retv F hr hlk hS hP hD (()) (by first | (obtain ⟨z1, z2, z3⟩ := tok3 (by1 := by1) hpL; rw [z1, z2, z3]; done) | (obtain ⟨z1, z2, z3⟩ := tok0 (by1 := by1) hpL k2; rw [z1, z2, z3]; done) | (obtain ⟨z1, z2, z3⟩ := tok1 (by1 := by1) hpL k1 k2; rw [z1, z2, z3]; done) | (obtain ⟨z1, z2, z3⟩ := tok2 (by1 := by1) hpL k1 k2; rw [z1, z2, z3]; done)) (trivial) dX1_step_163
  · have hpL : ¬ (skp by1 L b0) < L := fun h => k1 (nI_lt h (by omega))
    refine lv_aload_n F.1 F.2.1 dX1_step_37 rfl (lv_at hl 0 rfl) ?_
    refine lv_iconst (v := 3) F.1 F.2.1 dX1_step_38 (by decide) ?_
    refine g_put F hX hP hD hS hin1 tyX1 tyX1_ok nmX1 0 rfl rfl 5 (by decide) (mm 4 rfl) rfl (rfl) (rfl) (Nat.le_of_ble_eq_true rfl) dX1_step_39 (fun H locs hP hD hS => ?_)
    have hP : va_P (eD E) vwCl [(tp, .inr (1, [.ref qb, .int (nI L), .int it1_, .int (nI (skp by1 L b0)), .int (nI ((skp by1 L b0) + 1)), .int 3, .int va1])), (qb, .inl (eI E, 120, .inl by1))] H := hP
    have hD : va_D A [(tp, .inr (1, [.ref qb, .int (nI L), .int it1_, .int (nI (skp by1 L b0)), .int (nI ((skp by1 L b0) + 1)), .int 3, .int va1])), (qb, .inl (eI E, 120, .inl by1))] := hD
    refine lv_aload_n F.1 F.2.1 dX1_step_42 rfl (lv_at hl 0 rfl) ?_
    refine lv_aload_n F.1 F.2.1 dX1_step_43 rfl (lv_at hl 0 rfl) ?_
    refine g_get F hX hP hin1 0 rfl rfl 3 (by decide) (mm 2 rfl) rfl dX1_step_44 ?_
    refine g_put F hX hP hD hS hin1 tyX1 tyX1_ok nmX1 0 rfl rfl 4 (by decide) (mm 1 rfl) rfl (rfl) (rfl) (Nat.le_of_ble_eq_true rfl) dX1_step_47 (fun H locs hP hD hS => ?_)
    have hP : va_P (eD E) vwCl [(tp, .inr (1, [.ref qb, .int (nI L), .int it1_, .int (nI (skp by1 L b0)), .int (nI (skp by1 L b0)), .int 3, .int va1])), (qb, .inl (eI E, 120, .inl by1))] H := hP
    have hD : va_D A [(tp, .inr (1, [.ref qb, .int (nI L), .int it1_, .int (nI (skp by1 L b0)), .int (nI (skp by1 L b0)), .int 3, .int va1])), (qb, .inl (eI E, 120, .inl by1))] := hD
    refine lv_goto (tgt := 163) F.1 F.2.1 dX1_step_50 (by decide) ?_
    exact g_retv F hr hlk hS hP hD (()) (by first | (obtain ⟨z1, z2, z3⟩ := tok3 (by1 := by1) hpL; rw [z1, z2, z3]; done) | (obtain ⟨z1, z2, z3⟩ := tok0 (by1 := by1) hpL k1; rw [z1, z2, z3]; done) | (obtain ⟨z1, z2, z3⟩ := tok1 (by1 := by1) hpL k1 k1; rw [z1, z2, z3]; done) | (obtain ⟨z1, z2, z3⟩ := tok2 (by1 := by1) hpL k1 k1; rw [z1, z2, z3]; done)) (trivial) dX1_step_163
