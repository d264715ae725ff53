set_option maxHeartbeats 4000000 in
set_option maxRecDepth 100000 in
theorem c_X4_whoAt (l : Launch) (E : gE) (h : Nat) (fs : List Value) (qm : Nat) (m : Nat → Int32) (P : Nat) (g : Int32) (hf0 : fs[0]? = some (.ref qm)) (hm4 : m 4 = nI P) (hP8 : P ≤ 8) : gI l yX4_whoAt wsX4_whoAt ({ frames := 1, cells := 0, slots := 0, locals := 22 }) E [(h, .inr (4, fs)), (qm, .inl (eI E, 75, .inl m))] (fun _ : Unit => [(h, .inr (4, fs)), (qm, .inl (eI E, 75, .inl m))]) [.ref h, .int g] (fun (r : Int32) (_ : Unit) => r = whoC (fun j => decide (pf m j 1 = g)) P) := by
  have hin4 : ∀ w ∈ wsX40, w ∈ wsX4_whoAt := (fun _ h => (List.mem_cons_of_mem _ (List.mem_append_right _ h)))
  refine gI.of (cc := cX4_whoAt) (maxL := 4) (by decide) rfl (Nat.le_of_ble_eq_true rfl) ?_
  intro pG eG sG mG below meth cG A ls H locs F hr hlk hX hP hD hA hS hl
  have hl : lv_has ls 4 [(0, .ref h), (1, .int g)] := hl
  refine lv_iconst (v := 0) F.1 F.2.1 dX4_whoAt_0 (by decide) ?_
  refine lv_istore_n (lv' := [(2, .int 0), (0, .ref h), (1, .int g)]) F.1 F.2.1 dX4_whoAt_1 rfl hl (by decide) rfl (fun ls hl => ?_)
  refine lv_iconst (v := 0) F.1 F.2.1 dX4_whoAt_2 (by decide) ?_
  refine lv_istore_n (lv' := [(3, .int 0), (2, .int 0), (0, .ref h), (1, .int g)]) F.1 F.2.1 dX4_whoAt_3 rfl hl (by decide) rfl (fun ls hl => ?_)
  have lp4 : ∀ (fu i : Nat), i ≤ P → P + 1 ≤ i + fu → ∀ (H : Heap) (locs : List Loc) (ls : Array Slot), va_P (eD E) vwCl [(h, .inr (4, fs)), (qm, .inl (eI E, 75, .inl m))] H → va_D A [(h, .inr (4, fs)), (qm, .inl (eI E, 75, .inl m))] → va_S A sG.heap H locs → lv_has ls 4 [(3, .int (nI i)), (2, .int (whoC (fun j => decide (pf m j 1 = g)) i)), (0, .ref h), (1, .int g)] → W pG l eG { frames := 1, cells := 0, slots := 0, locals := 22 } sG mG [.ref h, .int g].toArray below meth cG H locs 0 0 (MQ below (va_Qi (fun (r : Int32) (_ : Unit) => r = whoC (fun j => decide (pf m j 1 = g)) P) (gR E (fun _ : Unit => [(h, .inr (4, fs)), (qm, .inl (eI E, 75, .inl m))]) A) A) [.ref h, .int g].toArray sG 0 0 A) (F0 mG 4 ls []) := by
    intro fu
    induction fu with
    | zero => intro i h1 h2; exact absurd h2 (by omega)
    | succ fu ih =>
      intro i hi hin   H locs ls hP hD hS hl
      refine lv_iload_n F.1 F.2.1 dX4_whoAt_4 rfl (lv_at hl 0 rfl) ?_
      refine lv_aload_n F.1 F.2.1 dX4_whoAt_5 rfl (lv_at hl 2 rfl) ?_
      refine g_get F hX hP hin4 0 rfl rfl 0 (by decide) (mm 1 rfl) hf0 dX4_whoAt_6 ?_
      refine lv_iconst (v := 4) F.1 F.2.1 dX4_whoAt_9 (by decide) ?_
      refine g_iald F hX hP 1 rfl (j := 4) (rfl) (by decide) (by decide) dX4_whoAt_10 ?_
      refine g_top (nI P) (hm4) ?_
      refine lv_icmp_ge (tgt := 40) F.1 F.2.1 dX4_whoAt_11 (by decide) (fun k1 => ?_) (fun k1 => ?_)
      · have hiN : P = i := Nat.le_antisymm ((nI_leI (by omega) (by omega)).mp k1) hi
        subst hiN
        refine lv_iload_n F.1 F.2.1 dX4_whoAt_40 rfl (lv_at hl 1 rfl) ?_
        exact g_reti F hr hlk (vp_nar_int _) hS hP hD (()) (rfl) (rfl) dX4_whoAt_41
      · have hiN : i < P := Nat.lt_of_not_le (fun h => k1 (nI_le h (by omega)))
        refine lv_iload_n F.1 F.2.1 dX4_whoAt_14 rfl (lv_at hl 1 rfl) ?_
        refine lv_aload_n F.1 F.2.1 dX4_whoAt_15 rfl (lv_at hl 2 rfl) ?_
        refine lv_iload_n F.1 F.2.1 dX4_whoAt_16 rfl (lv_at hl 0 rfl) ?_
        refine lv_iconst (v := 1) F.1 F.2.1 dX4_whoAt_17 (by decide) ?_
        refine g_goIr (g_runV (As := [.int (nI i), .int 1]) (rest := [.int (whoC (fun j => decide (pf m j 1 = g)) i)]) F hX hP hD hS hA (c_X4_it l E h fs qm m i 1 (by first | assumption | rfl) (by omega) (by decide) H.size) (cwV 2 F.2.2.2.2 gX4_whoAt_X4_it rfl rfl rfl (by decide +kernel) ⟨Nat.le_of_ble_eq_true rfl, Nat.le_of_ble_eq_true rfl⟩) [0, 1] rfl rfl (q0 := 0) (ci := 4) rfl rfl rfl hl.1 rfl (Nat.le_of_ble_eq_true rfl) dX4_whoAt_18 ⟨Nat.le_refl _, Nat.le_refl _⟩) hP hD hS hA [0, 1] rfl (fun r _ H locs hq hP hS => ?_)
        subst hq
        refine lv_iload_n F.1 F.2.1 dX4_whoAt_21 rfl (lv_at hl 3 rfl) ?_
        have jn32 : ∀ (H : Heap) (locs : List Loc) (ls : Array Slot), va_P (eD E) vwCl [(h, .inr (4, fs)), (qm, .inl (eI E, 75, .inl m))] H → va_D A [(h, .inr (4, fs)), (qm, .inl (eI E, 75, .inl m))] → va_S A sG.heap H locs → lv_has ls 4 [(3, .int (nI i)), (2, .int (whoC (fun j => decide (pf m j 1 = g)) i)), (0, .ref h), (1, .int g)] → W pG l eG { frames := 1, cells := 0, slots := 0, locals := 22 } sG mG [.ref h, .int g].toArray below meth cG H locs 0 0 (MQ below (va_Qi (fun (r : Int32) (_ : Unit) => r = whoC (fun j => decide (pf m j 1 = g)) P) (gR E (fun _ : Unit => [(h, .inr (4, fs)), (qm, .inl (eI E, 75, .inl m))]) A) A) [.ref h, .int g].toArray sG 0 0 A) (F0 mG 32 ls [.int (bif decide (pf m i 1 = g) then 1 <<< (nI i &&& 31) else 0), .int (whoC (fun j => decide (pf m j 1 = g)) i)]) := by
          intro H locs ls hP hD hS hl
          refine lv_ior F.1 F.2.1 dX4_whoAt_32 ?_
          refine lv_istore_n (lv' := [(2, .int ((whoC (fun j => decide (pf m j 1 = g)) i) ||| (bif decide (pf m i 1 = g) then 1 <<< (nI i &&& 31) else 0))), (3, .int (nI i)), (0, .ref h), (1, .int g)]) F.1 F.2.1 dX4_whoAt_33 rfl hl (by decide) rfl (fun ls hl => ?_)
          refine lv_iinc (v := nI (i + 1)) (lv' := [(3, .int (nI (i + 1))), (2, .int ((whoC (fun j => decide (pf m j 1 = g)) i) ||| (bif decide (pf m i 1 = g) then 1 <<< (nI i &&& 31) else 0))), (0, .ref h), (1, .int g)]) F.1 F.2.1 dX4_whoAt_34 hl (k := 1) rfl (nI_1 _) (by decide) rfl (fun ls hl => ?_)
          refine lv_goto (tgt := 4) F.1 F.2.1 dX4_whoAt_37 (by decide) ?_
          exact ih (i + 1) (by omega) (by omega)  _ _ _ hP hD hS (lv_sub hl [0, 1, 2, 3] rfl)
        refine lv_icmp_ne (tgt := 31) F.1 F.2.1 dX4_whoAt_22 (by decide) (fun k2 => ?_) (fun k2 => ?_)
        · refine lv_iconst (v := 0) F.1 F.2.1 dX4_whoAt_31 (by decide) ?_
          refine g_top (bif decide (pf m i 1 = g) then 1 <<< (nI i &&& 31) else 0) (by simp [k2]) ?_
          exact jn32 _ _ _ hP hD hS (lv_sub hl [0, 1, 2, 3] rfl)
        · refine lv_iconst (v := 1) F.1 F.2.1 dX4_whoAt_25 (by decide) ?_
          refine lv_iload_n F.1 F.2.1 dX4_whoAt_26 rfl (lv_at hl 0 rfl) ?_
          refine lv_ishl F.1 F.2.1 dX4_whoAt_27 ?_
          refine lv_goto (tgt := 32) F.1 F.2.1 dX4_whoAt_28 (by decide) ?_
          refine g_top (bif decide (pf m i 1 = g) then 1 <<< (nI i &&& 31) else 0) (by simp [k2]) ?_
          exact jn32 _ _ _ hP hD hS (lv_sub hl [0, 1, 2, 3] rfl)
  exact lp4 (P + 1) 0 (by omega) (by omega)  _ _ _ hP hD hS (lv_sub hl [0, 1, 2, 3] rfl)
set_option maxHeartbeats 4000000 in
set_option maxRecDepth 100000 in
theorem c_X4_insiders (l : Launch) (E : gE) (h : Nat) (fs : List Value) (qm : Nat) (m : Nat → Int32) (P : Nat) (hf0 : fs[0]? = some (.ref qm)) (hm4 : m 4 = nI P) (hP8 : P ≤ 8) : gI l yX4_insiders wsX4_insiders ({ frames := 5, cells := 0, slots := 0, locals := 102 }) E [(h, .inr (4, fs)), (qm, .inl (eI E, 75, .inl m))] (fun _ : Unit => [(h, .inr (4, fs)), (qm, .inl (eI E, 75, .inl m))]) [.ref h] (fun (r : Int32) (_ : Unit) => r = whM m P) := by
  have hin4 : ∀ w ∈ wsX40, w ∈ wsX4_insiders := (fun _ h => (List.mem_cons_of_mem _ (List.mem_append_right _ h)))
  refine gI.of (cc := cX4_insiders) (maxL := 3) (by decide) rfl (Nat.le_of_ble_eq_true rfl) ?_
  intro pG eG sG mG below meth cG A ls H locs F hr hlk hX hP hD hA hS hl
  have hl : lv_has ls 3 [(0, .ref h)] := hl
  refine lv_iconst (v := 0) F.1 F.2.1 dX4_insiders_0 (by decide) ?_
  refine lv_istore_n (lv' := [(1, .int 0), (0, .ref h)]) F.1 F.2.1 dX4_insiders_1 rfl hl (by decide) rfl (fun ls hl => ?_)
  refine lv_iconst (v := 0) F.1 F.2.1 dX4_insiders_2 (by decide) ?_
  refine lv_istore_n (lv' := [(2, .int 0), (1, .int 0), (0, .ref h)]) F.1 F.2.1 dX4_insiders_3 rfl hl (by decide) rfl (fun ls hl => ?_)
  have lp4 : ∀ (fu i : Nat), i ≤ P → P + 1 ≤ i + fu → ∀ (H : Heap) (locs : List Loc) (ls : Array Slot), va_P (eD E) vwCl [(h, .inr (4, fs)), (qm, .inl (eI E, 75, .inl m))] H → va_D A [(h, .inr (4, fs)), (qm, .inl (eI E, 75, .inl m))] → va_S A sG.heap H locs → lv_has ls 3 [(2, .int (nI i)), (1, .int (whoC (fun j => isInM m j) i)), (0, .ref h)] → W pG l eG { frames := 5, cells := 0, slots := 0, locals := 102 } sG mG [.ref h].toArray below meth cG H locs 0 0 (MQ below (va_Qi (fun (r : Int32) (_ : Unit) => r = whM m P) (gR E (fun _ : Unit => [(h, .inr (4, fs)), (qm, .inl (eI E, 75, .inl m))]) A) A) [.ref h].toArray sG 0 0 A) (F0 mG 4 ls []) := by
    intro fu
    induction fu with
    | zero => intro i h1 h2; exact absurd h2 (by omega)
    | succ fu ih =>
      intro i hi hin   H locs ls hP hD hS hl
      refine lv_iload_n F.1 F.2.1 dX4_insiders_4 rfl (lv_at hl 0 rfl) ?_
      refine lv_aload_n F.1 F.2.1 dX4_insiders_5 rfl (lv_at hl 2 rfl) ?_
      refine g_get F hX hP hin4 0 rfl rfl 0 (by decide) (mm 1 rfl) hf0 dX4_insiders_6 ?_
      refine lv_iconst (v := 4) F.1 F.2.1 dX4_insiders_9 (by decide) ?_
      refine g_iald F hX hP 1 rfl (j := 4) (rfl) (by decide) (by decide) dX4_insiders_10 ?_
      refine g_top (nI P) (hm4) ?_
      refine lv_icmp_ge (tgt := 38) F.1 F.2.1 dX4_insiders_11 (by decide) (fun k1 => ?_) (fun k1 => ?_)
      · have hiN : P = i := Nat.le_antisymm ((nI_leI (by omega) (by omega)).mp k1) hi
        subst hiN
        refine lv_iload_n F.1 F.2.1 dX4_insiders_38 rfl (lv_at hl 1 rfl) ?_
        exact g_reti F hr hlk (vp_nar_int _) hS hP hD (()) (rfl) (rfl) dX4_insiders_39
      · have hiN : i < P := Nat.lt_of_not_le (fun h => k1 (nI_le h (by omega)))
        refine lv_iload_n F.1 F.2.1 dX4_insiders_14 rfl (lv_at hl 1 rfl) ?_
        refine lv_aload_n F.1 F.2.1 dX4_insiders_15 rfl (lv_at hl 2 rfl) ?_
        refine lv_iload_n F.1 F.2.1 dX4_insiders_16 rfl (lv_at hl 0 rfl) ?_
        refine g_goIr (g_runV (As := [.int (nI i)]) (rest := [.int (whoC (fun j => isInM m j) i)]) F hX hP hD hS hA (c_X4_isIn l E h fs qm m i (by first | assumption | rfl) (by omega) H.size) (cwV 1 F.2.2.2.2 gX4_insiders_X4_isIn rfl rfl rfl (by decide +kernel) ⟨Nat.le_of_ble_eq_true rfl, Nat.le_of_ble_eq_true rfl⟩) [0, 1] rfl rfl (q0 := 0) (ci := 4) rfl rfl rfl hl.1 rfl (Nat.le_of_ble_eq_true rfl) dX4_insiders_17 ⟨Nat.le_refl _, Nat.le_refl _⟩) hP hD hS hA [0, 1] rfl (fun r _ H locs hq hP hS => ?_)
        subst hq
        have jn30 : ∀ (H : Heap) (locs : List Loc) (ls : Array Slot), va_P (eD E) vwCl [(h, .inr (4, fs)), (qm, .inl (eI E, 75, .inl m))] H → va_D A [(h, .inr (4, fs)), (qm, .inl (eI E, 75, .inl m))] → va_S A sG.heap H locs → lv_has ls 3 [(2, .int (nI i)), (1, .int (whoC (fun j => isInM m j) i)), (0, .ref h)] → W pG l eG { frames := 5, cells := 0, slots := 0, locals := 102 } sG mG [.ref h].toArray below meth cG H locs 0 0 (MQ below (va_Qi (fun (r : Int32) (_ : Unit) => r = whM m P) (gR E (fun _ : Unit => [(h, .inr (4, fs)), (qm, .inl (eI E, 75, .inl m))]) A) A) [.ref h].toArray sG 0 0 A) (F0 mG 30 ls [.int (bif isInM m i then 1 <<< (nI i &&& 31) else 0), .int (whoC (fun j => isInM m j) i)]) := by
          intro H locs ls hP hD hS hl
          refine lv_ior F.1 F.2.1 dX4_insiders_30 ?_
          refine lv_istore_n (lv' := [(1, .int ((whoC (fun j => isInM m j) i) ||| (bif isInM m i then 1 <<< (nI i &&& 31) else 0))), (2, .int (nI i)), (0, .ref h)]) F.1 F.2.1 dX4_insiders_31 rfl hl (by decide) rfl (fun ls hl => ?_)
          refine lv_iinc (v := nI (i + 1)) (lv' := [(2, .int (nI (i + 1))), (1, .int ((whoC (fun j => isInM m j) i) ||| (bif isInM m i then 1 <<< (nI i &&& 31) else 0))), (0, .ref h)]) F.1 F.2.1 dX4_insiders_32 hl (k := 1) rfl (nI_1 _) (by decide) rfl (fun ls hl => ?_)
          refine lv_goto (tgt := 4) F.1 F.2.1 dX4_insiders_35 (by decide) ?_
          exact ih (i + 1) (by omega) (by omega)  _ _ _ hP hD hS (lv_sub hl [0, 1, 2] rfl)
        refine g_beq (tgt := 29) F dX4_insiders_20 (by decide) (fun k2 => ?_) (fun k2 => ?_)
        · refine lv_iconst (v := 0) F.1 F.2.1 dX4_insiders_29 (by decide) ?_
          refine g_top (bif isInM m i then 1 <<< (nI i &&& 31) else 0) (by simp only [k2, cond_true, cond_false]) ?_
          exact jn30 _ _ _ hP hD hS (lv_sub hl [0, 1, 2] rfl)
        · refine lv_iconst (v := 1) F.1 F.2.1 dX4_insiders_23 (by decide) ?_
          refine lv_iload_n F.1 F.2.1 dX4_insiders_24 rfl (lv_at hl 0 rfl) ?_
          refine lv_ishl F.1 F.2.1 dX4_insiders_25 ?_
          refine lv_goto (tgt := 30) F.1 F.2.1 dX4_insiders_26 (by decide) ?_
          refine g_top (bif isInM m i then 1 <<< (nI i &&& 31) else 0) (by simp only [k2, cond_true, cond_false]) ?_
          exact jn30 _ _ _ hP hD hS (lv_sub hl [0, 1, 2] rfl)
  exact lp4 (P + 1) 0 (by omega) (by omega)  _ _ _ hP hD hS (lv_sub hl [0, 1, 2] rfl)
set_option maxHeartbeats 4000000 in
set_option maxRecDepth 100000 in
theorem c_X4_isHeard (l : Launch) (E : gE) (h : Nat) (fs : List Value) (qm : Nat) (m : Nat → Int32) (P : Nat) (hf0 : fs[0]? = some (.ref qm)) (hm4 : m 4 = nI P) (hP8 : P ≤ 8) : gI l yX4_isHeard wsX4_isHeard ({ frames := 6, cells := 0, slots := 0, locals := 124 }) E [(h, .inr (4, fs)), (qm, .inl (eI E, 75, .inl m))] (fun _ : Unit => [(h, .inr (4, fs)), (qm, .inl (eI E, 75, .inl m))]) [.ref h] (fun (r : Int32) (_ : Unit) => r = hdM m P) := by
  have hin4 : ∀ w ∈ wsX40, w ∈ wsX4_isHeard := (fun _ h => (List.mem_cons_of_mem _ (List.mem_append_right _ h)))
  refine gI.of (cc := cX4_isHeard) (maxL := 3) (by decide) rfl (Nat.le_of_ble_eq_true rfl) ?_
  intro pG eG sG mG below meth cG A ls H locs F hr hlk hX hP hD hA hS hl
  have hl : lv_has ls 3 [(0, .ref h)] := hl
  refine lv_iconst (v := 0) F.1 F.2.1 dX4_isHeard_0 (by decide) ?_
  refine lv_istore_n (lv' := [(1, .int 0), (0, .ref h)]) F.1 F.2.1 dX4_isHeard_1 rfl hl (by decide) rfl (fun ls hl => ?_)
  refine lv_iconst (v := 0) F.1 F.2.1 dX4_isHeard_2 (by decide) ?_
  refine lv_istore_n (lv' := [(2, .int 0), (1, .int 0), (0, .ref h)]) F.1 F.2.1 dX4_isHeard_3 rfl hl (by decide) rfl (fun ls hl => ?_)
  have lp4 : ∀ (fu i : Nat), i ≤ 30 → 30 + 1 ≤ i + fu → ∀ (H : Heap) (locs : List Loc) (ls : Array Slot), va_P (eD E) vwCl [(h, .inr (4, fs)), (qm, .inl (eI E, 75, .inl m))] H → va_D A [(h, .inr (4, fs)), (qm, .inl (eI E, 75, .inl m))] → va_S A sG.heap H locs → lv_has ls 3 [(2, .int (nI i)), (1, .int (sumF 0 (fun g => bif tkM (m 0) (m 1) (m 2) (m 3) (nI g) then 0 else m (5 + g)) i)), (0, .ref h)] → W pG l eG { frames := 6, cells := 0, slots := 0, locals := 124 } sG mG [.ref h].toArray below meth cG H locs 0 0 (MQ below (va_Qi (fun (r : Int32) (_ : Unit) => r = hdM m P) (gR E (fun _ : Unit => [(h, .inr (4, fs)), (qm, .inl (eI E, 75, .inl m))]) A) A) [.ref h].toArray sG 0 0 A) (F0 mG 4 ls []) := by
    intro fu
    induction fu with
    | zero => intro i h1 h2; exact absurd h2 (by omega)
    | succ fu ih =>
      intro i hi hin   H locs ls hP hD hS hl
      refine lv_iload_n F.1 F.2.1 dX4_isHeard_4 rfl (lv_at hl 0 rfl) ?_
      refine lv_bipush (v := 30) F.1 F.2.1 dX4_isHeard_5 (by decide) ?_
      refine lv_icmp_ge (tgt := 39) F.1 F.2.1 dX4_isHeard_7 (by decide) (fun k1 => ?_) (fun k1 => ?_)
      · have hiN : 30 = i := Nat.le_antisymm ((nI_leI (by omega) (by omega)).mp k1) hi
        subst hiN
        refine lv_iconst (v := 0) F.1 F.2.1 dX4_isHeard_39 (by decide) ?_
        refine lv_istore_n (lv' := [(2, .int 0), (1, .int (sumF 0 (fun g => bif tkM (m 0) (m 1) (m 2) (m 3) (nI g) then 0 else m (5 + g)) 30)), (0, .ref h)]) F.1 F.2.1 dX4_isHeard_40 rfl hl (by decide) rfl (fun ls hl => ?_)
        have lp41 : ∀ (fu i : Nat), i ≤ P → P + 1 ≤ i + fu → ∀ (H : Heap) (locs : List Loc) (ls : Array Slot), va_P (eD E) vwCl [(h, .inr (4, fs)), (qm, .inl (eI E, 75, .inl m))] H → va_D A [(h, .inr (4, fs)), (qm, .inl (eI E, 75, .inl m))] → va_S A sG.heap H locs → lv_has ls 3 [(2, .int (nI i)), (1, .int (sumF (sumF 0 (fun g => bif tkM (m 0) (m 1) (m 2) (m 3) (nI g) then 0 else m (5 + g)) 30) (fun j => taM (m 0) (m 1) (m 2) (m 3) (pf m j 0) (pf m j 1)) i)), (0, .ref h)] → W pG l eG { frames := 6, cells := 0, slots := 0, locals := 124 } sG mG [.ref h].toArray below meth cG H locs 0 0 (MQ below (va_Qi (fun (r : Int32) (_ : Unit) => r = hdM m P) (gR E (fun _ : Unit => [(h, .inr (4, fs)), (qm, .inl (eI E, 75, .inl m))]) A) A) [.ref h].toArray sG 0 0 A) (F0 mG 41 ls []) := by
          intro fu
          induction fu with
          | zero => intro i h1 h2; exact absurd h2 (by omega)
          | succ fu ih =>
            intro i hi hin   H locs ls hP hD hS hl
            refine lv_iload_n F.1 F.2.1 dX4_isHeard_41 rfl (lv_at hl 0 rfl) ?_
            refine lv_aload_n F.1 F.2.1 dX4_isHeard_42 rfl (lv_at hl 2 rfl) ?_
            refine g_get F hX hP hin4 0 rfl rfl 0 (by decide) (mm 1 rfl) hf0 dX4_isHeard_43 ?_
            refine lv_iconst (v := 4) F.1 F.2.1 dX4_isHeard_46 (by decide) ?_
            refine g_iald F hX hP 1 rfl (j := 4) (rfl) (by decide) (by decide) dX4_isHeard_47 ?_
            refine g_top (nI P) (hm4) ?_
            refine lv_icmp_ge (tgt := 65) F.1 F.2.1 dX4_isHeard_48 (by decide) (fun k2 => ?_) (fun k2 => ?_)
            · have hiN : P = i := Nat.le_antisymm ((nI_leI (by omega) (by omega)).mp k2) hi
              subst hiN
              refine lv_iload_n F.1 F.2.1 dX4_isHeard_65 rfl (lv_at hl 1 rfl) ?_
              exact g_reti F hr hlk (vp_nar_int _) hS hP hD (()) (rfl) (rfl) dX4_isHeard_66
            · have hiN : i < P := Nat.lt_of_not_le (fun h => k2 (nI_le h (by omega)))
              refine lv_iload_n F.1 F.2.1 dX4_isHeard_51 rfl (lv_at hl 1 rfl) ?_
              refine lv_aload_n F.1 F.2.1 dX4_isHeard_52 rfl (lv_at hl 2 rfl) ?_
              refine lv_iload_n F.1 F.2.1 dX4_isHeard_53 rfl (lv_at hl 0 rfl) ?_
              refine g_goIr (g_runV (As := [.int (nI i)]) (rest := [.int (sumF (sumF 0 (fun g => bif tkM (m 0) (m 1) (m 2) (m 3) (nI g) then 0 else m (5 + g)) 30) (fun j => taM (m 0) (m 1) (m 2) (m 3) (pf m j 0) (pf m j 1)) i)]) F hX hP hD hS hA (c_X4_talks l E h fs qm m i (by first | assumption | rfl) (by omega) H.size) (cwV 1 F.2.2.2.2 gX4_isHeard_X4_talks rfl rfl rfl (by decide +kernel) ⟨Nat.le_of_ble_eq_true rfl, Nat.le_of_ble_eq_true rfl⟩) [0, 1] rfl rfl (q0 := 0) (ci := 4) rfl rfl rfl hl.1 rfl (Nat.le_of_ble_eq_true rfl) dX4_isHeard_54 ⟨Nat.le_refl _, Nat.le_refl _⟩) hP hD hS hA [0, 1] rfl (fun r _ H locs hq hP hS => ?_)
              subst hq
              refine lv_iadd F.1 F.2.1 dX4_isHeard_57 ?_
              refine lv_istore_n (lv' := [(1, .int ((sumF (sumF 0 (fun g => bif tkM (m 0) (m 1) (m 2) (m 3) (nI g) then 0 else m (5 + g)) 30) (fun j => taM (m 0) (m 1) (m 2) (m 3) (pf m j 0) (pf m j 1)) i) + (taM (m 0) (m 1) (m 2) (m 3) (pf m i 0) (pf m i 1)))), (2, .int (nI i)), (0, .ref h)]) F.1 F.2.1 dX4_isHeard_58 rfl hl (by decide) rfl (fun ls hl => ?_)
              refine lv_iinc (v := nI (i + 1)) (lv' := [(2, .int (nI (i + 1))), (1, .int ((sumF (sumF 0 (fun g => bif tkM (m 0) (m 1) (m 2) (m 3) (nI g) then 0 else m (5 + g)) 30) (fun j => taM (m 0) (m 1) (m 2) (m 3) (pf m j 0) (pf m j 1)) i) + (taM (m 0) (m 1) (m 2) (m 3) (pf m i 0) (pf m i 1)))), (0, .ref h)]) F.1 F.2.1 dX4_isHeard_59 hl (k := 1) rfl (nI_1 _) (by decide) rfl (fun ls hl => ?_)
              refine lv_goto (tgt := 41) F.1 F.2.1 dX4_isHeard_62 (by decide) ?_
              exact ih (i + 1) (by omega) (by omega)  _ _ _ hP hD hS (lv_sub hl [0, 1, 2] rfl)
        exact lp41 (P + 1) 0 (by omega) (by omega)  _ _ _ hP hD hS (lv_sub hl [0, 1, 2] rfl)
      · have hiN : i < 30 := Nat.lt_of_not_le (fun h => k1 (nI_le h (by omega)))
        refine lv_iload_n F.1 F.2.1 dX4_isHeard_10 rfl (lv_at hl 1 rfl) ?_
        refine lv_aload_n F.1 F.2.1 dX4_isHeard_11 rfl (lv_at hl 2 rfl) ?_
        refine lv_iload_n F.1 F.2.1 dX4_isHeard_12 rfl (lv_at hl 0 rfl) ?_
        refine g_goIr (g_runV (As := [.int (nI i)]) (rest := [.int (sumF 0 (fun g => bif tkM (m 0) (m 1) (m 2) (m 3) (nI g) then 0 else m (5 + g)) i)]) F hX hP hD hS hA (c_X4_isTaken l E h fs qm m (nI i) (by first | assumption | rfl) H.size) (cwV 1 F.2.2.2.2 gX4_isHeard_X4_isTaken rfl rfl rfl (by decide +kernel) ⟨Nat.le_of_ble_eq_true rfl, Nat.le_of_ble_eq_true rfl⟩) [0, 1] rfl rfl (q0 := 0) (ci := 4) rfl rfl rfl hl.1 rfl (Nat.le_of_ble_eq_true rfl) dX4_isHeard_13 ⟨Nat.le_refl _, Nat.le_refl _⟩) hP hD hS hA [0, 1] rfl (fun r _ H locs hq hP hS => ?_)
        subst hq
        have jn31 : ∀ (H : Heap) (locs : List Loc) (ls : Array Slot), va_P (eD E) vwCl [(h, .inr (4, fs)), (qm, .inl (eI E, 75, .inl m))] H → va_D A [(h, .inr (4, fs)), (qm, .inl (eI E, 75, .inl m))] → va_S A sG.heap H locs → lv_has ls 3 [(2, .int (nI i)), (1, .int (sumF 0 (fun g => bif tkM (m 0) (m 1) (m 2) (m 3) (nI g) then 0 else m (5 + g)) i)), (0, .ref h)] → W pG l eG { frames := 6, cells := 0, slots := 0, locals := 124 } sG mG [.ref h].toArray below meth cG H locs 0 0 (MQ below (va_Qi (fun (r : Int32) (_ : Unit) => r = hdM m P) (gR E (fun _ : Unit => [(h, .inr (4, fs)), (qm, .inl (eI E, 75, .inl m))]) A) A) [.ref h].toArray sG 0 0 A) (F0 mG 31 ls [.int (bif tkM (m 0) (m 1) (m 2) (m 3) (nI i) then 0 else m (5 + i)), .int (sumF 0 (fun g => bif tkM (m 0) (m 1) (m 2) (m 3) (nI g) then 0 else m (5 + g)) i)]) := by
          intro H locs ls hP hD hS hl
          refine lv_iadd F.1 F.2.1 dX4_isHeard_31 ?_
          refine lv_istore_n (lv' := [(1, .int ((sumF 0 (fun g => bif tkM (m 0) (m 1) (m 2) (m 3) (nI g) then 0 else m (5 + g)) i) + (bif tkM (m 0) (m 1) (m 2) (m 3) (nI i) then 0 else m (5 + i)))), (2, .int (nI i)), (0, .ref h)]) F.1 F.2.1 dX4_isHeard_32 rfl hl (by decide) rfl (fun ls hl => ?_)
          refine lv_iinc (v := nI (i + 1)) (lv' := [(2, .int (nI (i + 1))), (1, .int ((sumF 0 (fun g => bif tkM (m 0) (m 1) (m 2) (m 3) (nI g) then 0 else m (5 + g)) i) + (bif tkM (m 0) (m 1) (m 2) (m 3) (nI i) then 0 else m (5 + i)))), (0, .ref h)]) F.1 F.2.1 dX4_isHeard_33 hl (k := 1) rfl (nI_1 _) (by decide) rfl (fun ls hl => ?_)
          refine lv_goto (tgt := 4) F.1 F.2.1 dX4_isHeard_36 (by decide) ?_
          exact ih (i + 1) (by omega) (by omega)  _ _ _ hP hD hS (lv_sub hl [0, 1, 2] rfl)
        refine g_beq (tgt := 23) F dX4_isHeard_16 (by decide) (fun k3 => ?_) (fun k3 => ?_)
        · refine lv_aload_n F.1 F.2.1 dX4_isHeard_23 rfl (lv_at hl 2 rfl) ?_
          refine g_get F hX hP hin4 0 rfl rfl 0 (by decide) (mm 1 rfl) hf0 dX4_isHeard_24 ?_
          refine lv_iconst (v := 5) F.1 F.2.1 dX4_isHeard_27 (by decide) ?_
          refine lv_iload_n F.1 F.2.1 dX4_isHeard_28 rfl (lv_at hl 0 rfl) ?_
          refine lv_iadd F.1 F.2.1 dX4_isHeard_29 ?_
          refine g_iald F hX hP 1 rfl (j := 5 + i) (nI_add 5 i) (by omega) (by decide) dX4_isHeard_30 ?_
          refine g_top (bif tkM (m 0) (m 1) (m 2) (m 3) (nI i) then 0 else m (5 + i)) (by simp only [k3, cond_true, cond_false]) ?_
          exact jn31 _ _ _ hP hD hS (lv_sub hl [0, 1, 2] rfl)
        · refine lv_iconst (v := 0) F.1 F.2.1 dX4_isHeard_19 (by decide) ?_
          refine lv_goto (tgt := 31) F.1 F.2.1 dX4_isHeard_20 (by decide) ?_
          refine g_top (bif tkM (m 0) (m 1) (m 2) (m 3) (nI i) then 0 else m (5 + i)) (by simp only [k3, cond_true, cond_false]) ?_
          exact jn31 _ _ _ hP hD hS (lv_sub hl [0, 1, 2] rfl)
  exact lp4 (30 + 1) 0 (by omega) (by omega)  _ _ _ hP hD hS (lv_sub hl [0, 1, 2] rfl)
set_option maxHeartbeats 4000000 in
set_option maxRecDepth 100000 in
theorem c_X4_isHushed (l : Launch) (E : gE) (h : Nat) (fs : List Value) (qm : Nat) (m : Nat → Int32) (j : Nat) (hf0 : fs[0]? = some (.ref qm)) (hj8 : j < 8) : gV l yX4_isHushed wsX4_isHushed ({ frames := 5, cells := 0, slots := 0, locals := 102 }) E [(h, .inr (4, fs)), (qm, .inl (eI E, 75, .inl m))] (fun _ : Unit => [(h, .inr (4, fs)), (qm, .inl (eI E, 75, .inl (hs1 m j)))]) [.ref h, .int (nI j)] (fun (_ : Unit) => True) := by
  refine gV.of (cc := cX4_isHushed) (maxL := 4) (by decide) rfl (Nat.le_of_ble_eq_true rfl) ?_
  intro pG eG sG mG below meth cG A ls H locs F hr hlk hX hP hD hA hS hl
  have hl : lv_has ls 4 [(0, .ref h), (1, .int (nI j))] := hl
  refine lv_aload_n F.1 F.2.1 dX4_isHushed_0 rfl (lv_at hl 0 rfl) ?_
  refine lv_iload_n F.1 F.2.1 dX4_isHushed_1 rfl (lv_at hl 1 rfl) ?_
  refine g_goIr (g_runV (As := [.int (nI j)]) (rest := []) F hX hP hD hS hA (c_X4_isIn l E h fs qm m j (by first | assumption | rfl) (by omega) H.size) (cwV 1 F.2.2.2.2 gX4_isHushed_X4_isIn rfl rfl rfl (by decide +kernel) ⟨Nat.le_of_ble_eq_true rfl, Nat.le_of_ble_eq_true rfl⟩) [0, 1] rfl rfl (q0 := 0) (ci := 4) rfl rfl rfl hl.1 rfl (Nat.le_of_ble_eq_true rfl) dX4_isHushed_2 ⟨Nat.le_refl _, Nat.le_refl _⟩) hP hD hS hA [0, 1] rfl (fun r _ H locs hq hP hS => ?_)
  subst hq
  refine lv_istore_n (lv' := [(2, .int (bi (isInM m j))), (0, .ref h), (1, .int (nI j))]) F.1 F.2.1 dX4_isHushed_5 rfl hl (by decide) rfl (fun ls hl => ?_)
  refine lv_iload_n F.1 F.2.1 dX4_isHushed_6 rfl (lv_at hl 0 rfl) ?_
  have jn32 : ∀ (H : Heap) (locs : List Loc) (ls : Array Slot), va_P (eD E) vwCl [(h, .inr (4, fs)), (qm, .inl (eI E, 75, .inl m))] H → va_D A [(h, .inr (4, fs)), (qm, .inl (eI E, 75, .inl m))] → va_S A sG.heap H locs → lv_has ls 4 [(2, .int (bi (isInM m j))), (0, .ref h), (1, .int (nI j))] → W pG l eG { frames := 5, cells := 0, slots := 0, locals := 102 } sG mG [.ref h, .int (nI j)].toArray below meth cG H locs 0 0 (MQ below (va_Qv (fun (_ : Unit) => True) (gR E (fun _ : Unit => [(h, .inr (4, fs)), (qm, .inl (eI E, 75, .inl (hs1 m j)))]) A) A) [.ref h, .int (nI j)].toArray sG 0 0 A) (F0 mG 32 ls [.int (bi (cauM m j))]) := by
    intro H locs ls hP hD hS hl
    refine lv_istore_n (lv' := [(3, .int (bi (cauM m j))), (2, .int (bi (isInM m j))), (0, .ref h), (1, .int (nI j))]) F.1 F.2.1 dX4_isHushed_32 rfl hl (by decide) rfl (fun ls hl => ?_)
    refine lv_aload_n F.1 F.2.1 dX4_isHushed_33 rfl (lv_at hl 2 rfl) ?_
    refine lv_iload_n F.1 F.2.1 dX4_isHushed_34 rfl (lv_at hl 3 rfl) ?_
    refine lv_iconst (v := 2) F.1 F.2.1 dX4_isHushed_35 (by decide) ?_
    refine lv_aload_n F.1 F.2.1 dX4_isHushed_36 rfl (lv_at hl 2 rfl) ?_
    refine lv_iload_n F.1 F.2.1 dX4_isHushed_37 rfl (lv_at hl 3 rfl) ?_
    refine lv_iconst (v := 2) F.1 F.2.1 dX4_isHushed_38 (by decide) ?_
    refine g_goIr (g_runV (As := [.int (nI j), .int 2]) (rest := [.int 2, .int (nI j), .ref h]) F hX hP hD hS hA (c_X4_it l E h fs qm m j 2 (by first | assumption | rfl) (by omega) (by decide) H.size) (cwV 2 F.2.2.2.2 gX4_isHushed_X4_it rfl rfl rfl (by decide +kernel) ⟨Nat.le_of_ble_eq_true rfl, Nat.le_of_ble_eq_true rfl⟩) [0, 1] rfl rfl (q0 := 0) (ci := 4) rfl rfl rfl hl.1 rfl (Nat.le_of_ble_eq_true rfl) dX4_isHushed_39 ⟨Nat.le_refl _, Nat.le_refl _⟩) hP hD hS hA [0, 1] rfl (fun r _ H locs hq hP hS => ?_)
    subst hq
    refine lv_iload_n F.1 F.2.1 dX4_isHushed_42 rfl (lv_at hl 1 rfl) ?_
    have jn51 : ∀ (H : Heap) (locs : List Loc) (ls : Array Slot), va_P (eD E) vwCl [(h, .inr (4, fs)), (qm, .inl (eI E, 75, .inl m))] H → va_D A [(h, .inr (4, fs)), (qm, .inl (eI E, 75, .inl m))] → va_S A sG.heap H locs → lv_has ls 4 [(3, .int (bi (cauM m j))), (2, .int (bi (isInM m j))), (0, .ref h), (1, .int (nI j))] → W pG l eG { frames := 5, cells := 0, slots := 0, locals := 102 } sG mG [.ref h, .int (nI j)].toArray below meth cG H locs 0 0 (MQ below (va_Qv (fun (_ : Unit) => True) (gR E (fun _ : Unit => [(h, .inr (4, fs)), (qm, .inl (eI E, 75, .inl (hs1 m j)))]) A) A) [.ref h, .int (nI j)].toArray sG 0 0 A) (F0 mG 51 ls [.int (bi (isInM m j)), .int (pf m j 2), .int 2, .int (nI j), .ref h]) := by
      intro H locs ls hP hD hS hl
      refine lv_iadd F.1 F.2.1 dX4_isHushed_51 ?_
      refine lv_iconst (v := 0) F.1 F.2.1 dX4_isHushed_52 (by decide) ?_
      refine lv_sipush (v := 9999) F.1 F.2.1 dX4_isHushed_53 (by decide) ?_
      refine g_goIr (g_runS (As := [.int ((pf m j 2) + (bi (isInM m j))), .int 0, .int 9999]) (rest := [.int 2, .int (nI j), .ref h]) F hX hP hD hS hA (c_X4_held l E ((pf m j 2) + (bi (isInM m j))) 0 9999 H.size) (va_cwS 3 F.2.2.2.2 gX4_isHushed_X4_held rfl rfl rfl (by decide +kernel) ⟨Nat.le_of_ble_eq_true rfl, Nat.le_of_ble_eq_true rfl⟩) [] rfl rfl rfl hl.1 rfl (Nat.le_of_ble_eq_true rfl) dX4_isHushed_56 ⟨Nat.le_refl _, Nat.le_refl _⟩) hP hD hS hA [] rfl (fun r _ H locs hq hP hS => ?_)
      subst hq
      refine g_goV (wr := []) (g_runV (As := [.int (nI j), .int 2, .int (heldM ((pf m j 2) + (bi (isInM m j))) 0 9999)]) (rest := []) F hX hP hD hS hA (c_X4_put l E h fs qm m j 2 (heldM ((pf m j 2) + (bi (isInM m j))) 0 9999) (by first | assumption | rfl) (by omega) (by decide) H.size) (cwV 3 F.2.2.2.2 gX4_isHushed_X4_put rfl rfl rfl (by decide +kernel) ⟨Nat.le_of_ble_eq_true rfl, Nat.le_of_ble_eq_true rfl⟩) [0, 1] rfl rfl (q0 := 0) (ci := 4) rfl rfl rfl hl.1 rfl (Nat.le_of_ble_eq_true rfl) dX4_isHushed_59 ⟨Nat.le_refl _, Nat.le_refl _⟩) hP hD hS hA [0, 1] [] rfl rfl rfl (by decide) (fun _ H locs hq hP hD hS => ?_)
      have hP : va_P (eD E) vwCl [(h, .inr (4, fs)), (qm, .inl (eI E, 75, .inl (pu m j 2 (heldM ((pf m j 2) + (bi (isInM m j))) 0 9999))))] H := hP.sub [0, 1] rfl
      have hD : va_D A [(h, .inr (4, fs)), (qm, .inl (eI E, 75, .inl (pu m j 2 (heldM ((pf m j 2) + (bi (isInM m j))) 0 9999))))] := hD.sub [0, 1] (by decide) rfl
      refine lv_aload_n F.1 F.2.1 dX4_isHushed_62 rfl (lv_at hl 2 rfl) ?_
      refine lv_iload_n F.1 F.2.1 dX4_isHushed_63 rfl (lv_at hl 3 rfl) ?_
      refine lv_iconst (v := 3) F.1 F.2.1 dX4_isHushed_64 (by decide) ?_
      refine lv_aload_n F.1 F.2.1 dX4_isHushed_65 rfl (lv_at hl 2 rfl) ?_
      refine lv_iload_n F.1 F.2.1 dX4_isHushed_66 rfl (lv_at hl 3 rfl) ?_
      refine lv_iconst (v := 3) F.1 F.2.1 dX4_isHushed_67 (by decide) ?_
      refine g_goIr (g_runV (As := [.int (nI j), .int 3]) (rest := [.int 3, .int (nI j), .ref h]) F hX hP hD hS hA (c_X4_it l E h fs qm (pu m j 2 (heldM ((pf m j 2) + (bi (isInM m j))) 0 9999)) j 3 (by first | assumption | rfl) (by omega) (by decide) H.size) (cwV 2 F.2.2.2.2 gX4_isHushed_X4_it rfl rfl rfl (by decide +kernel) ⟨Nat.le_of_ble_eq_true rfl, Nat.le_of_ble_eq_true rfl⟩) [0, 1] rfl rfl (q0 := 0) (ci := 4) rfl rfl rfl hl.1 rfl (Nat.le_of_ble_eq_true rfl) dX4_isHushed_68 ⟨Nat.le_refl _, Nat.le_refl _⟩) hP hD hS hA [0, 1] rfl (fun r _ H locs hq hP hS => ?_)
      subst hq
      refine g_top (pf m j 3) (pf_pu_k (by decide)) ?_
      refine lv_iload_n F.1 F.2.1 dX4_isHushed_71 rfl (lv_at hl 0 rfl) ?_
      have jn80 : ∀ (H : Heap) (locs : List Loc) (ls : Array Slot), va_P (eD E) vwCl [(h, .inr (4, fs)), (qm, .inl (eI E, 75, .inl (pu m j 2 (heldM ((pf m j 2) + (bi (isInM m j))) 0 9999))))] H → va_D A [(h, .inr (4, fs)), (qm, .inl (eI E, 75, .inl (pu m j 2 (heldM ((pf m j 2) + (bi (isInM m j))) 0 9999))))] → va_S A sG.heap H locs → lv_has ls 4 [(3, .int (bi (cauM m j))), (2, .int (bi (isInM m j))), (0, .ref h), (1, .int (nI j))] → W pG l eG { frames := 5, cells := 0, slots := 0, locals := 102 } sG mG [.ref h, .int (nI j)].toArray below meth cG H locs 0 0 (MQ below (va_Qv (fun (_ : Unit) => True) (gR E (fun _ : Unit => [(h, .inr (4, fs)), (qm, .inl (eI E, 75, .inl (hs1 m j)))]) A) A) [.ref h, .int (nI j)].toArray sG 0 0 A) (F0 mG 80 ls [.int (bi (cauM m j)), .int (pf m j 3), .int 3, .int (nI j), .ref h]) := by
        intro H locs ls hP hD hS hl
        refine lv_iadd F.1 F.2.1 dX4_isHushed_80 ?_
        refine lv_iconst (v := 0) F.1 F.2.1 dX4_isHushed_81 (by decide) ?_
        refine lv_sipush (v := 9999) F.1 F.2.1 dX4_isHushed_82 (by decide) ?_
        refine g_goIr (g_runS (As := [.int ((pf m j 3) + (bi (cauM m j))), .int 0, .int 9999]) (rest := [.int 3, .int (nI j), .ref h]) F hX hP hD hS hA (c_X4_held l E ((pf m j 3) + (bi (cauM m j))) 0 9999 H.size) (va_cwS 3 F.2.2.2.2 gX4_isHushed_X4_held rfl rfl rfl (by decide +kernel) ⟨Nat.le_of_ble_eq_true rfl, Nat.le_of_ble_eq_true rfl⟩) [] rfl rfl rfl hl.1 rfl (Nat.le_of_ble_eq_true rfl) dX4_isHushed_85 ⟨Nat.le_refl _, Nat.le_refl _⟩) hP hD hS hA [] rfl (fun r _ H locs hq hP hS => ?_)
        subst hq
        refine g_goV (wr := []) (g_runV (As := [.int (nI j), .int 3, .int (heldM ((pf m j 3) + (bi (cauM m j))) 0 9999)]) (rest := []) F hX hP hD hS hA (c_X4_put l E h fs qm (pu m j 2 (heldM ((pf m j 2) + (bi (isInM m j))) 0 9999)) j 3 (heldM ((pf m j 3) + (bi (cauM m j))) 0 9999) (by first | assumption | rfl) (by omega) (by decide) H.size) (cwV 3 F.2.2.2.2 gX4_isHushed_X4_put rfl rfl rfl (by decide +kernel) ⟨Nat.le_of_ble_eq_true rfl, Nat.le_of_ble_eq_true rfl⟩) [0, 1] rfl rfl (q0 := 0) (ci := 4) rfl rfl rfl hl.1 rfl (Nat.le_of_ble_eq_true rfl) dX4_isHushed_88 ⟨Nat.le_refl _, Nat.le_refl _⟩) hP hD hS hA [0, 1] [] rfl rfl rfl (by decide) (fun _ H locs hq hP hD hS => ?_)
        have hP : va_P (eD E) vwCl [(h, .inr (4, fs)), (qm, .inl (eI E, 75, .inl (pu (pu m j 2 (heldM ((pf m j 2) + (bi (isInM m j))) 0 9999)) j 3 (heldM ((pf m j 3) + (bi (cauM m j))) 0 9999))))] H := hP.sub [0, 1] rfl
        have hD : va_D A [(h, .inr (4, fs)), (qm, .inl (eI E, 75, .inl (pu (pu m j 2 (heldM ((pf m j 2) + (bi (isInM m j))) 0 9999)) j 3 (heldM ((pf m j 3) + (bi (cauM m j))) 0 9999))))] := hD.sub [0, 1] (by decide) rfl
        refine lv_aload_n F.1 F.2.1 dX4_isHushed_91 rfl (lv_at hl 2 rfl) ?_
        refine lv_iload_n F.1 F.2.1 dX4_isHushed_92 rfl (lv_at hl 3 rfl) ?_
        refine lv_iconst (v := 4) F.1 F.2.1 dX4_isHushed_93 (by decide) ?_
        refine lv_iload_n F.1 F.2.1 dX4_isHushed_94 rfl (lv_at hl 1 rfl) ?_
        have jn103 : ∀ (H : Heap) (locs : List Loc) (ls : Array Slot), va_P (eD E) vwCl [(h, .inr (4, fs)), (qm, .inl (eI E, 75, .inl (pu (pu m j 2 (heldM ((pf m j 2) + (bi (isInM m j))) 0 9999)) j 3 (heldM ((pf m j 3) + (bi (cauM m j))) 0 9999))))] H → va_D A [(h, .inr (4, fs)), (qm, .inl (eI E, 75, .inl (pu (pu m j 2 (heldM ((pf m j 2) + (bi (isInM m j))) 0 9999)) j 3 (heldM ((pf m j 3) + (bi (cauM m j))) 0 9999))))] → va_S A sG.heap H locs → lv_has ls 4 [(3, .int (bi (cauM m j))), (2, .int (bi (isInM m j))), (0, .ref h), (1, .int (nI j))] → W pG l eG { frames := 5, cells := 0, slots := 0, locals := 102 } sG mG [.ref h, .int (nI j)].toArray below meth cG H locs 0 0 (MQ below (va_Qv (fun (_ : Unit) => True) (gR E (fun _ : Unit => [(h, .inr (4, fs)), (qm, .inl (eI E, 75, .inl (hs1 m j)))]) A) A) [.ref h, .int (nI j)].toArray sG 0 0 A) (F0 mG 103 ls [.int (bi (isInM m j)), .int 4, .int (nI j), .ref h]) := by
          intro H locs ls hP hD hS hl
          refine g_goV (wr := []) (g_runV (As := [.int (nI j), .int 4, .int (bi (isInM m j))]) (rest := []) F hX hP hD hS hA (c_X4_put l E h fs qm (pu (pu m j 2 (heldM ((pf m j 2) + (bi (isInM m j))) 0 9999)) j 3 (heldM ((pf m j 3) + (bi (cauM m j))) 0 9999)) j 4 (bi (isInM m j)) (by first | assumption | rfl) (by omega) (by decide) H.size) (cwV 3 F.2.2.2.2 gX4_isHushed_X4_put rfl rfl rfl (by decide +kernel) ⟨Nat.le_of_ble_eq_true rfl, Nat.le_of_ble_eq_true rfl⟩) [0, 1] rfl rfl (q0 := 0) (ci := 4) rfl rfl rfl hl.1 rfl (Nat.le_of_ble_eq_true rfl) dX4_isHushed_103 ⟨Nat.le_refl _, Nat.le_refl _⟩) hP hD hS hA [0, 1] [] rfl rfl rfl (by decide) (fun _ H locs hq hP hD hS => ?_)
          have hP : va_P (eD E) vwCl [(h, .inr (4, fs)), (qm, .inl (eI E, 75, .inl (pu (pu (pu m j 2 (heldM ((pf m j 2) + (bi (isInM m j))) 0 9999)) j 3 (heldM ((pf m j 3) + (bi (cauM m j))) 0 9999)) j 4 (bi (isInM m j)))))] H := hP.sub [0, 1] rfl
          have hD : va_D A [(h, .inr (4, fs)), (qm, .inl (eI E, 75, .inl (pu (pu (pu m j 2 (heldM ((pf m j 2) + (bi (isInM m j))) 0 9999)) j 3 (heldM ((pf m j 3) + (bi (cauM m j))) 0 9999)) j 4 (bi (isInM m j)))))] := hD.sub [0, 1] (by decide) rfl
          exact g_retv F hr hlk hS hP hD (()) (rfl) (trivial) dX4_isHushed_106
        refine g_beq (tgt := 102) F dX4_isHushed_95 (by decide) (fun k1 => ?_) (fun k1 => ?_)
        · refine lv_iconst (v := 0) F.1 F.2.1 dX4_isHushed_102 (by decide) ?_
          refine g_top (bi (isInM m j)) (by simp [bi, k1]) ?_
          exact jn103 _ _ _ hP hD hS (lv_sub hl [0, 1, 2, 3] rfl)
        · refine lv_iconst (v := 1) F.1 F.2.1 dX4_isHushed_98 (by decide) ?_
          refine lv_goto (tgt := 103) F.1 F.2.1 dX4_isHushed_99 (by decide) ?_
          refine g_top (bi (isInM m j)) (by simp [bi, k1]) ?_
          exact jn103 _ _ _ hP hD hS (lv_sub hl [0, 1, 2, 3] rfl)
      refine g_beq (tgt := 79) F dX4_isHushed_72 (by decide) (fun k2 => ?_) (fun k2 => ?_)
      · refine lv_iconst (v := 0) F.1 F.2.1 dX4_isHushed_79 (by decide) ?_
        refine g_top (bi (cauM m j)) (by simp [bi, k2]) ?_
        exact jn80 _ _ _ hP hD hS (lv_sub hl [0, 1, 2, 3] rfl)
      · refine lv_iconst (v := 1) F.1 F.2.1 dX4_isHushed_75 (by decide) ?_
        refine lv_goto (tgt := 80) F.1 F.2.1 dX4_isHushed_76 (by decide) ?_
        refine g_top (bi (cauM m j)) (by simp [bi, k2]) ?_
        exact jn80 _ _ _ hP hD hS (lv_sub hl [0, 1, 2, 3] rfl)
    refine g_beq (tgt := 50) F dX4_isHushed_43 (by decide) (fun k3 => ?_) (fun k3 => ?_)
    · refine lv_iconst (v := 0) F.1 F.2.1 dX4_isHushed_50 (by decide) ?_
      refine g_top (bi (isInM m j)) (by simp [bi, k3]) ?_
      exact jn51 _ _ _ hP hD hS (lv_sub hl [0, 1, 2, 3] rfl)
    · refine lv_iconst (v := 1) F.1 F.2.1 dX4_isHushed_46 (by decide) ?_
      refine lv_goto (tgt := 51) F.1 F.2.1 dX4_isHushed_47 (by decide) ?_
      refine g_top (bi (isInM m j)) (by simp [bi, k3]) ?_
      exact jn51 _ _ _ hP hD hS (lv_sub hl [0, 1, 2, 3] rfl)
  refine g_beq (tgt := 31) F dX4_isHushed_7 (by decide) (fun k4 => ?_) (fun k4 => ?_)
  · refine lv_iconst (v := 0) F.1 F.2.1 dX4_isHushed_31 (by decide) ?_
    refine g_top (bi (cauM m j)) (by simp [cauM, bi, k4]) ?_
    exact jn32 _ _ _ hP hD hS (lv_sub hl [0, 1, 2] rfl)
  · refine lv_aload_n F.1 F.2.1 dX4_isHushed_10 rfl (lv_at hl 1 rfl) ?_
    refine lv_iload_n F.1 F.2.1 dX4_isHushed_11 rfl (lv_at hl 2 rfl) ?_
    refine lv_iconst (v := 4) F.1 F.2.1 dX4_isHushed_12 (by decide) ?_
    refine g_goIr (g_runV (As := [.int (nI j), .int 4]) (rest := []) F hX hP hD hS hA (c_X4_it l E h fs qm m j 4 (by first | assumption | rfl) (by omega) (by decide) H.size) (cwV 2 F.2.2.2.2 gX4_isHushed_X4_it rfl rfl rfl (by decide +kernel) ⟨Nat.le_of_ble_eq_true rfl, Nat.le_of_ble_eq_true rfl⟩) [0, 1] rfl rfl (q0 := 0) (ci := 4) rfl rfl rfl hl.1 rfl (Nat.le_of_ble_eq_true rfl) dX4_isHushed_13 ⟨Nat.le_refl _, Nat.le_refl _⟩) hP hD hS hA [0, 1] rfl (fun r _ H locs hq hP hS => ?_)
    subst hq
    refine lv_if_ne (tgt := 31) F.1 F.2.1 dX4_isHushed_16 (by decide) (fun k5 => ?_) (fun k5 => ?_)
    · refine lv_iconst (v := 0) F.1 F.2.1 dX4_isHushed_31 (by decide) ?_
      refine g_top (bi (cauM m j)) (by simp [cauM, bi, k4, k5]) ?_
      exact jn32 _ _ _ hP hD hS (lv_sub hl [0, 1, 2] rfl)
    · refine lv_aload_n F.1 F.2.1 dX4_isHushed_19 rfl (lv_at hl 1 rfl) ?_
      refine lv_iload_n F.1 F.2.1 dX4_isHushed_20 rfl (lv_at hl 2 rfl) ?_
      refine g_goIr (g_runV (As := [.int (nI j)]) (rest := []) F hX hP hD hS hA (c_X4_stepsOver l E h fs qm m j (by first | assumption | rfl) (by omega) H.size) (cwV 1 F.2.2.2.2 gX4_isHushed_X4_stepsOver rfl rfl rfl (by decide +kernel) ⟨Nat.le_of_ble_eq_true rfl, Nat.le_of_ble_eq_true rfl⟩) [0, 1] rfl rfl (q0 := 0) (ci := 4) rfl rfl rfl hl.1 rfl (Nat.le_of_ble_eq_true rfl) dX4_isHushed_21 ⟨Nat.le_refl _, Nat.le_refl _⟩) hP hD hS hA [0, 1] rfl (fun r _ H locs hq hP hS => ?_)
      subst hq
      refine g_bne (tgt := 31) F dX4_isHushed_24 (by decide) (fun k6 => ?_) (fun k6 => ?_)
      · refine lv_iconst (v := 0) F.1 F.2.1 dX4_isHushed_31 (by decide) ?_
        refine g_top (bi (cauM m j)) (by simp [cauM, bi, k4, k5, k6]) ?_
        exact jn32 _ _ _ hP hD hS (lv_sub hl [0, 1, 2] rfl)
      · refine lv_iconst (v := 1) F.1 F.2.1 dX4_isHushed_27 (by decide) ?_
        refine lv_goto (tgt := 32) F.1 F.2.1 dX4_isHushed_28 (by decide) ?_
        refine g_top (bi (cauM m j)) (by simp [cauM, bi, k4, k5, k6]) ?_
        exact jn32 _ _ _ hP hD hS (lv_sub hl [0, 1, 2] rfl)
set_option maxHeartbeats 4000000 in
set_option maxRecDepth 100000 in
theorem c_X4_goes (l : Launch) (E : gE) (h : Nat) (fs : List Value) (qm : Nat) (m : Nat → Int32) (P : Nat) (hf0 : fs[0]? = some (.ref qm)) (hm4 : m 4 = nI P) (hP8 : P ≤ 8) : gV l yX4_goes wsX4_goes ({ frames := 6, cells := 0, slots := 0, locals := 126 }) E [(h, .inr (4, fs)), (qm, .inl (eI E, 75, .inl m))] (fun _ : Unit => [(h, .inr (4, fs)), (qm, .inl (eI E, 75, .inl (goM P m)))]) [.ref h] (fun (_ : Unit) => True) := by
  have hin4 : ∀ w ∈ wsX40, w ∈ wsX4_goes := (fun _ h => (List.mem_cons_of_mem _ (List.mem_append_right _ h)))
  refine gV.of (cc := cX4_goes) (maxL := 2) (by decide) rfl (Nat.le_of_ble_eq_true rfl) ?_
  intro pG eG sG mG below meth cG A ls H locs F hr hlk hX hP hD hA hS hl
  have hl : lv_has ls 2 [(0, .ref h)] := hl
  refine lv_iconst (v := 0) F.1 F.2.1 dX4_goes_0 (by decide) ?_
  refine lv_istore_n (lv' := [(1, .int 0), (0, .ref h)]) F.1 F.2.1 dX4_goes_1 rfl hl (by decide) rfl (fun ls hl => ?_)
  have lp2 : ∀ (fu i : Nat), i ≤ P → P + 1 ≤ i + fu → ∀ (H : Heap) (locs : List Loc) (ls : Array Slot), va_P (eD E) vwCl [(h, .inr (4, fs)), (qm, .inl (eI E, 75, .inl (hsM m i)))] H → va_D A [(h, .inr (4, fs)), (qm, .inl (eI E, 75, .inl (hsM m i)))] → va_S A sG.heap H locs → lv_has ls 2 [(1, .int (nI i)), (0, .ref h)] → W pG l eG { frames := 6, cells := 0, slots := 0, locals := 126 } sG mG [.ref h].toArray below meth cG H locs 0 0 (MQ below (va_Qv (fun (_ : Unit) => True) (gR E (fun _ : Unit => [(h, .inr (4, fs)), (qm, .inl (eI E, 75, .inl (goM P m)))]) A) A) [.ref h].toArray sG 0 0 A) (F0 mG 2 ls []) := by
    intro fu
    induction fu with
    | zero => intro i h1 h2; exact absurd h2 (by omega)
    | succ fu ih =>
      intro i hi hin   H locs ls hP hD hS hl
      refine lv_iload_n F.1 F.2.1 dX4_goes_2 rfl (lv_at hl 0 rfl) ?_
      refine lv_aload_n F.1 F.2.1 dX4_goes_3 rfl (lv_at hl 1 rfl) ?_
      refine g_get F hX hP hin4 0 rfl rfl 0 (by decide) (mm 1 rfl) hf0 dX4_goes_4 ?_
      refine lv_iconst (v := 4) F.1 F.2.1 dX4_goes_7 (by decide) ?_
      refine g_iald F hX hP 1 rfl (j := 4) (rfl) (by decide) (by decide) dX4_goes_8 ?_
      refine g_top (nI P) ((hsM_lo m (by decide) i).trans hm4) ?_
      refine lv_icmp_ge (tgt := 23) F.1 F.2.1 dX4_goes_9 (by decide) (fun k1 => ?_) (fun k1 => ?_)
      · have hiN : P = i := Nat.le_antisymm ((nI_leI (by omega) (by omega)).mp k1) hi
        subst hiN
        refine lv_iconst (v := 0) F.1 F.2.1 dX4_goes_23 (by decide) ?_
        refine lv_istore_n (lv' := [(1, .int 0), (0, .ref h)]) F.1 F.2.1 dX4_goes_24 rfl hl (by decide) rfl (fun ls hl => ?_)
        have lp25 : ∀ (fu i : Nat), i ≤ P → P + 1 ≤ i + fu → ∀ (H : Heap) (locs : List Loc) (ls : Array Slot), va_P (eD E) vwCl [(h, .inr (4, fs)), (qm, .inl (eI E, 75, .inl (mvM (hsM m P) i)))] H → va_D A [(h, .inr (4, fs)), (qm, .inl (eI E, 75, .inl (mvM (hsM m P) i)))] → va_S A sG.heap H locs → lv_has ls 2 [(1, .int (nI i)), (0, .ref h)] → W pG l eG { frames := 6, cells := 0, slots := 0, locals := 126 } sG mG [.ref h].toArray below meth cG H locs 0 0 (MQ below (va_Qv (fun (_ : Unit) => True) (gR E (fun _ : Unit => [(h, .inr (4, fs)), (qm, .inl (eI E, 75, .inl (goM P m)))]) A) A) [.ref h].toArray sG 0 0 A) (F0 mG 25 ls []) := by
          intro fu
          induction fu with
          | zero => intro i h1 h2; exact absurd h2 (by omega)
          | succ fu ih =>
            intro i hi hin   H locs ls hP hD hS hl
            refine lv_iload_n F.1 F.2.1 dX4_goes_25 rfl (lv_at hl 0 rfl) ?_
            refine lv_aload_n F.1 F.2.1 dX4_goes_26 rfl (lv_at hl 1 rfl) ?_
            refine g_get F hX hP hin4 0 rfl rfl 0 (by decide) (mm 1 rfl) hf0 dX4_goes_27 ?_
            refine lv_iconst (v := 4) F.1 F.2.1 dX4_goes_30 (by decide) ?_
            refine g_iald F hX hP 1 rfl (j := 4) (rfl) (by decide) (by decide) dX4_goes_31 ?_
            refine g_top (nI P) ((mvM_lo _ (by decide) i).trans ((hsM_lo m (by decide) P).trans hm4)) ?_
            refine lv_icmp_ge (tgt := 65) F.1 F.2.1 dX4_goes_32 (by decide) (fun k2 => ?_) (fun k2 => ?_)
            · have hiN : P = i := Nat.le_antisymm ((nI_leI (by omega) (by omega)).mp k2) hi
              subst hiN
              refine lv_aload_n F.1 F.2.1 dX4_goes_65 rfl (lv_at hl 1 rfl) ?_
              refine g_get F hX hP hin4 0 rfl rfl 0 (by decide) (mm 1 rfl) hf0 dX4_goes_66 ?_
              refine lv_iconst (v := 0) F.1 F.2.1 dX4_goes_69 (by decide) ?_
              refine lv_dup2_11 F.1 F.2.1 dX4_goes_70 rfl rfl ?_
              refine g_iald F hX hP 1 rfl (j := 0) (rfl) (by decide) (by decide) dX4_goes_71 ?_
              refine lv_iconst (v := 1) F.1 F.2.1 dX4_goes_72 (by decide) ?_
              refine lv_iadd F.1 F.2.1 dX4_goes_73 ?_
              refine g_iast F hX hP hD hS 1 rfl (j := 0) (rfl) (by decide) (by decide) dX4_goes_74 (fun H locs hP hD hS => ?_)
              have hP : va_P (eD E) vwCl [(h, .inr (4, fs)), (qm, .inl (eI E, 75, .inl (upd (mvM (hsM m P) P) 0 (((mvM (hsM m P) P) 0) + 1))))] H := hP
              have hD : va_D A [(h, .inr (4, fs)), (qm, .inl (eI E, 75, .inl (upd (mvM (hsM m P) P) 0 (((mvM (hsM m P) P) 0) + 1))))] := hD
              exact g_retv F hr hlk hS hP hD (()) (rfl) (trivial) dX4_goes_75
            · have hiN : i < P := Nat.lt_of_not_le (fun h => k2 (nI_le h (by omega)))
              refine lv_aload_n F.1 F.2.1 dX4_goes_35 rfl (lv_at hl 1 rfl) ?_
              refine lv_iload_n F.1 F.2.1 dX4_goes_36 rfl (lv_at hl 0 rfl) ?_
              refine lv_iconst (v := 1) F.1 F.2.1 dX4_goes_37 (by decide) ?_
              refine lv_aload_n F.1 F.2.1 dX4_goes_38 rfl (lv_at hl 1 rfl) ?_
              refine lv_iload_n F.1 F.2.1 dX4_goes_39 rfl (lv_at hl 0 rfl) ?_
              refine lv_iconst (v := 1) F.1 F.2.1 dX4_goes_40 (by decide) ?_
              refine g_goIr (g_runV (As := [.int (nI i), .int 1]) (rest := [.int 1, .int (nI i), .ref h]) F hX hP hD hS hA (c_X4_it l E h fs qm (mvM (hsM m P) i) i 1 (by first | assumption | rfl) (by omega) (by decide) H.size) (cwV 2 F.2.2.2.2 gX4_goes_X4_it rfl rfl rfl (by decide +kernel) ⟨Nat.le_of_ble_eq_true rfl, Nat.le_of_ble_eq_true rfl⟩) [0, 1] rfl rfl (q0 := 0) (ci := 4) rfl rfl rfl hl.1 rfl (Nat.le_of_ble_eq_true rfl) dX4_goes_41 ⟨Nat.le_refl _, Nat.le_refl _⟩) hP hD hS hA [0, 1] rfl (fun r _ H locs hq hP hS => ?_)
              subst hq
              refine lv_aload_n F.1 F.2.1 dX4_goes_44 rfl (lv_at hl 1 rfl) ?_
              refine lv_iload_n F.1 F.2.1 dX4_goes_45 rfl (lv_at hl 0 rfl) ?_
              refine g_goIr (g_runV (As := [.int (nI i)]) (rest := [.int (pf (mvM (hsM m P) i) i 1), .int 1, .int (nI i), .ref h]) F hX hP hD hS hA (c_X4_goesBy l E h fs qm (mvM (hsM m P) i) i (by first | assumption | rfl) (by omega) H.size) (cwV 1 F.2.2.2.2 gX4_goes_X4_goesBy rfl rfl rfl (by decide +kernel) ⟨Nat.le_of_ble_eq_true rfl, Nat.le_of_ble_eq_true rfl⟩) [0, 1] rfl rfl (q0 := 0) (ci := 4) rfl rfl rfl hl.1 rfl (Nat.le_of_ble_eq_true rfl) dX4_goes_46 ⟨Nat.le_refl _, Nat.le_refl _⟩) hP hD hS hA [0, 1] rfl (fun r _ H locs hq hP hS => ?_)
              subst hq
              refine lv_iadd F.1 F.2.1 dX4_goes_49 ?_
              refine lv_iconst (v := 0) F.1 F.2.1 dX4_goes_50 (by decide) ?_
              refine lv_bipush (v := 29) F.1 F.2.1 dX4_goes_51 (by decide) ?_
              refine g_goIr (g_runS (As := [.int ((pf (mvM (hsM m P) i) i 1) + (gqM ((mvM (hsM m P) i) 0) ((mvM (hsM m P) i) 1) ((mvM (hsM m P) i) 2) ((mvM (hsM m P) i) 3) (pf (mvM (hsM m P) i) i 0) (pf (mvM (hsM m P) i) i 1))), .int 0, .int 29]) (rest := [.int 1, .int (nI i), .ref h]) F hX hP hD hS hA (c_X4_held l E ((pf (mvM (hsM m P) i) i 1) + (gqM ((mvM (hsM m P) i) 0) ((mvM (hsM m P) i) 1) ((mvM (hsM m P) i) 2) ((mvM (hsM m P) i) 3) (pf (mvM (hsM m P) i) i 0) (pf (mvM (hsM m P) i) i 1))) 0 29 H.size) (va_cwS 3 F.2.2.2.2 gX4_goes_X4_held rfl rfl rfl (by decide +kernel) ⟨Nat.le_of_ble_eq_true rfl, Nat.le_of_ble_eq_true rfl⟩) [] rfl rfl rfl hl.1 rfl (Nat.le_of_ble_eq_true rfl) dX4_goes_53 ⟨Nat.le_refl _, Nat.le_refl _⟩) hP hD hS hA [] rfl (fun r _ H locs hq hP hS => ?_)
              subst hq
              refine g_goV (wr := []) (g_runV (As := [.int (nI i), .int 1, .int (heldM ((pf (mvM (hsM m P) i) i 1) + (gqM ((mvM (hsM m P) i) 0) ((mvM (hsM m P) i) 1) ((mvM (hsM m P) i) 2) ((mvM (hsM m P) i) 3) (pf (mvM (hsM m P) i) i 0) (pf (mvM (hsM m P) i) i 1))) 0 29)]) (rest := []) F hX hP hD hS hA (c_X4_put l E h fs qm (mvM (hsM m P) i) i 1 (heldM ((pf (mvM (hsM m P) i) i 1) + (gqM ((mvM (hsM m P) i) 0) ((mvM (hsM m P) i) 1) ((mvM (hsM m P) i) 2) ((mvM (hsM m P) i) 3) (pf (mvM (hsM m P) i) i 0) (pf (mvM (hsM m P) i) i 1))) 0 29) (by first | assumption | rfl) (by omega) (by decide) H.size) (cwV 3 F.2.2.2.2 gX4_goes_X4_put rfl rfl rfl (by decide +kernel) ⟨Nat.le_of_ble_eq_true rfl, Nat.le_of_ble_eq_true rfl⟩) [0, 1] rfl rfl (q0 := 0) (ci := 4) rfl rfl rfl hl.1 rfl (Nat.le_of_ble_eq_true rfl) dX4_goes_56 ⟨Nat.le_refl _, Nat.le_refl _⟩) hP hD hS hA [0, 1] [] rfl rfl rfl (by decide) (fun _ H locs hq hP hD hS => ?_)
              have hP : va_P (eD E) vwCl [(h, .inr (4, fs)), (qm, .inl (eI E, 75, .inl (pu (mvM (hsM m P) i) i 1 (heldM ((pf (mvM (hsM m P) i) i 1) + (gqM ((mvM (hsM m P) i) 0) ((mvM (hsM m P) i) 1) ((mvM (hsM m P) i) 2) ((mvM (hsM m P) i) 3) (pf (mvM (hsM m P) i) i 0) (pf (mvM (hsM m P) i) i 1))) 0 29))))] H := hP.sub [0, 1] rfl
              have hD : va_D A [(h, .inr (4, fs)), (qm, .inl (eI E, 75, .inl (pu (mvM (hsM m P) i) i 1 (heldM ((pf (mvM (hsM m P) i) i 1) + (gqM ((mvM (hsM m P) i) 0) ((mvM (hsM m P) i) 1) ((mvM (hsM m P) i) 2) ((mvM (hsM m P) i) 3) (pf (mvM (hsM m P) i) i 0) (pf (mvM (hsM m P) i) i 1))) 0 29))))] := hD.sub [0, 1] (by decide) rfl
              refine lv_iinc (v := nI (i + 1)) (lv' := [(1, .int (nI (i + 1))), (0, .ref h)]) F.1 F.2.1 dX4_goes_59 hl (k := 0) rfl (nI_1 _) (by decide) rfl (fun ls hl => ?_)
              refine lv_goto (tgt := 25) F.1 F.2.1 dX4_goes_62 (by decide) ?_
              have hP : va_P (eD E) vwCl [(h, .inr (4, fs)), (qm, .inl (eI E, 75, .inl (mvM (hsM m P) (i + 1))))] H := hP
              have hD : va_D A [(h, .inr (4, fs)), (qm, .inl (eI E, 75, .inl (mvM (hsM m P) (i + 1))))] := hD
              exact ih (i + 1) (by omega) (by omega)  _ _ _ hP hD hS (lv_sub hl [0, 1] rfl)
        have hP : va_P (eD E) vwCl [(h, .inr (4, fs)), (qm, .inl (eI E, 75, .inl (mvM (hsM m P) 0)))] H := hP
        have hD : va_D A [(h, .inr (4, fs)), (qm, .inl (eI E, 75, .inl (mvM (hsM m P) 0)))] := hD
        exact lp25 (P + 1) 0 (by omega) (by omega)  _ _ _ hP hD hS (lv_sub hl [0, 1] rfl)
      · have hiN : i < P := Nat.lt_of_not_le (fun h => k1 (nI_le h (by omega)))
        refine lv_aload_n F.1 F.2.1 dX4_goes_12 rfl (lv_at hl 1 rfl) ?_
        refine lv_iload_n F.1 F.2.1 dX4_goes_13 rfl (lv_at hl 0 rfl) ?_
        refine g_goV (wr := []) (g_runV (As := [.int (nI i)]) (rest := []) F hX hP hD hS hA (c_X4_isHushed l E h fs qm (hsM m i) i (by first | assumption | rfl) (by omega) H.size) (cwV 1 F.2.2.2.2 gX4_goes_X4_isHushed rfl rfl rfl (by decide +kernel) ⟨Nat.le_of_ble_eq_true rfl, Nat.le_of_ble_eq_true rfl⟩) [0, 1] rfl rfl (q0 := 0) (ci := 4) rfl rfl rfl hl.1 rfl (Nat.le_of_ble_eq_true rfl) dX4_goes_14 ⟨Nat.le_refl _, Nat.le_refl _⟩) hP hD hS hA [0, 1] [] rfl rfl rfl (by decide) (fun _ H locs hq hP hD hS => ?_)
        have hP : va_P (eD E) vwCl [(h, .inr (4, fs)), (qm, .inl (eI E, 75, .inl (hs1 (hsM m i) i)))] H := hP.sub [0, 1] rfl
        have hD : va_D A [(h, .inr (4, fs)), (qm, .inl (eI E, 75, .inl (hs1 (hsM m i) i)))] := hD.sub [0, 1] (by decide) rfl
        refine lv_iinc (v := nI (i + 1)) (lv' := [(1, .int (nI (i + 1))), (0, .ref h)]) F.1 F.2.1 dX4_goes_17 hl (k := 0) rfl (nI_1 _) (by decide) rfl (fun ls hl => ?_)
        refine lv_goto (tgt := 2) F.1 F.2.1 dX4_goes_20 (by decide) ?_
        have hP : va_P (eD E) vwCl [(h, .inr (4, fs)), (qm, .inl (eI E, 75, .inl (hsM m (i + 1))))] H := hP
        have hD : va_D A [(h, .inr (4, fs)), (qm, .inl (eI E, 75, .inl (hsM m (i + 1))))] := hD
        exact ih (i + 1) (by omega) (by omega)  _ _ _ hP hD hS (lv_sub hl [0, 1] rfl)
  have hP : va_P (eD E) vwCl [(h, .inr (4, fs)), (qm, .inl (eI E, 75, .inl (hsM m 0)))] H := hP
  have hD : va_D A [(h, .inr (4, fs)), (qm, .inl (eI E, 75, .inl (hsM m 0)))] := hD
  exact lp2 (P + 1) 0 (by omega) (by omega)  _ _ _ hP hD hS (lv_sub hl [0, 1] rfl)
set_option maxHeartbeats 4000000 in
set_option maxRecDepth 100000 in
theorem c_X4_goesFor (l : Launch) (E : gE) (h : Nat) (fs : List Value) (qm : Nat) (m : Nat → Int32) (P : Nat) (N : Nat) (hf0 : fs[0]? = some (.ref qm)) (hm4 : m 4 = nI P) (hP8 : P ≤ 8) (hN : N < 2 ^ 31) : gV l yX4_goesFor wsX4_goesFor ({ frames := 7, cells := 0, slots := 0, locals := 147 }) E [(h, .inr (4, fs)), (qm, .inl (eI E, 75, .inl m))] (fun _ : Unit => [(h, .inr (4, fs)), (qm, .inl (eI E, 75, .inl (itM P m N)))]) [.ref h, .int (nI N)] (fun (_ : Unit) => True) := by
  refine gV.of (cc := cX4_goesFor) (maxL := 3) (by decide) rfl (Nat.le_of_ble_eq_true rfl) ?_
  intro pG eG sG mG below meth cG A ls H locs F hr hlk hX hP hD hA hS hl
  have hl : lv_has ls 3 [(0, .ref h), (1, .int (nI N))] := hl
  refine lv_iconst (v := 0) F.1 F.2.1 dX4_goesFor_0 (by decide) ?_
  refine lv_istore_n (lv' := [(2, .int 0), (0, .ref h), (1, .int (nI N))]) F.1 F.2.1 dX4_goesFor_1 rfl hl (by decide) rfl (fun ls hl => ?_)
  have lp2 : ∀ (fu i : Nat), i ≤ N → N + 1 ≤ i + fu → ∀ (H : Heap) (locs : List Loc) (ls : Array Slot), va_P (eD E) vwCl [(h, .inr (4, fs)), (qm, .inl (eI E, 75, .inl (itM P m i)))] H → va_D A [(h, .inr (4, fs)), (qm, .inl (eI E, 75, .inl (itM P m i)))] → va_S A sG.heap H locs → lv_has ls 3 [(2, .int (nI i)), (0, .ref h), (1, .int (nI N))] → W pG l eG { frames := 7, cells := 0, slots := 0, locals := 147 } sG mG [.ref h, .int (nI N)].toArray below meth cG H locs 0 0 (MQ below (va_Qv (fun (_ : Unit) => True) (gR E (fun _ : Unit => [(h, .inr (4, fs)), (qm, .inl (eI E, 75, .inl (itM P m N)))]) A) A) [.ref h, .int (nI N)].toArray sG 0 0 A) (F0 mG 2 ls []) := by
    intro fu
    induction fu with
    | zero => intro i h1 h2; exact absurd h2 (by omega)
    | succ fu ih =>
      intro i hi hin   H locs ls hP hD hS hl
      refine lv_iload_n F.1 F.2.1 dX4_goesFor_2 rfl (lv_at hl 0 rfl) ?_
      refine lv_iload_n F.1 F.2.1 dX4_goesFor_3 rfl (lv_at hl 2 rfl) ?_
      refine lv_icmp_ge (tgt := 17) F.1 F.2.1 dX4_goesFor_4 (by decide) (fun k1 => ?_) (fun k1 => ?_)
      · have hiN : N = i := Nat.le_antisymm ((nI_leI (by omega) (by omega)).mp k1) hi
        subst hiN
        exact g_retv F hr hlk hS hP hD (()) (rfl) (trivial) dX4_goesFor_17
      · have hiN : i < N := Nat.lt_of_not_le (fun h => k1 (nI_le h (by omega)))
        refine lv_aload_n F.1 F.2.1 dX4_goesFor_7 rfl (lv_at hl 1 rfl) ?_
        refine g_goV (wr := []) (g_runV (As := []) (rest := []) F hX hP hD hS hA (c_X4_goes l E h fs qm (itM P m i) P (by first | assumption | rfl) ((itM_lo P m (by decide) (by decide) i).trans hm4) (by assumption) H.size) (cwV 0 F.2.2.2.2 gX4_goesFor_X4_goes rfl rfl rfl (by decide +kernel) ⟨Nat.le_of_ble_eq_true rfl, Nat.le_of_ble_eq_true rfl⟩) [0, 1] rfl rfl (q0 := 0) (ci := 4) rfl rfl rfl hl.1 rfl (Nat.le_of_ble_eq_true rfl) dX4_goesFor_8 ⟨Nat.le_refl _, Nat.le_refl _⟩) hP hD hS hA [0, 1] [] rfl rfl rfl (by decide) (fun _ H locs hq hP hD hS => ?_)
        have hP : va_P (eD E) vwCl [(h, .inr (4, fs)), (qm, .inl (eI E, 75, .inl (goM P (itM P m i))))] H := hP.sub [0, 1] rfl
        have hD : va_D A [(h, .inr (4, fs)), (qm, .inl (eI E, 75, .inl (goM P (itM P m i))))] := hD.sub [0, 1] (by decide) rfl
        refine lv_iinc (v := nI (i + 1)) (lv' := [(2, .int (nI (i + 1))), (0, .ref h), (1, .int (nI N))]) F.1 F.2.1 dX4_goesFor_11 hl (k := 0) rfl (nI_1 _) (by decide) rfl (fun ls hl => ?_)
        refine lv_goto (tgt := 2) F.1 F.2.1 dX4_goesFor_14 (by decide) ?_
        have hP : va_P (eD E) vwCl [(h, .inr (4, fs)), (qm, .inl (eI E, 75, .inl (itM P m (i + 1))))] H := hP
        have hD : va_D A [(h, .inr (4, fs)), (qm, .inl (eI E, 75, .inl (itM P m (i + 1))))] := hD
        exact ih (i + 1) (by omega) (by omega)  _ _ _ hP hD hS (lv_sub hl [0, 1, 2] rfl)
  have hP : va_P (eD E) vwCl [(h, .inr (4, fs)), (qm, .inl (eI E, 75, .inl (itM P m 0)))] H := hP
  have hD : va_D A [(h, .inr (4, fs)), (qm, .inl (eI E, 75, .inl (itM P m 0)))] := hD
  exact lp2 (N + 1) 0 (by omega) (by omega)  _ _ _ hP hD hS (lv_sub hl [0, 1, 2] rfl)
set_option maxHeartbeats 4000000 in
set_option maxRecDepth 100000 in
theorem c_X4_sums (l : Launch) (E : gE) (h : Nat) (fs : List Value) (qm : Nat) (m : Nat → Int32) (P : Nat) (k : Nat) (hf0 : fs[0]? = some (.ref qm)) (hm4 : m 4 = nI P) (hP8 : P ≤ 8) (hk5 : k < 5) : gI l yX4_sums wsX4_sums ({ frames := 1, cells := 0, slots := 0, locals := 22 }) E [(h, .inr (4, fs)), (qm, .inl (eI E, 75, .inl m))] (fun _ : Unit => [(h, .inr (4, fs)), (qm, .inl (eI E, 75, .inl m))]) [.ref h, .int (nI k)] (fun (r : Int32) (_ : Unit) => r = sumF 0 (fun j => pf m j k) P) := by
  have hin4 : ∀ w ∈ wsX40, w ∈ wsX4_sums := (fun _ h => (List.mem_cons_of_mem _ (List.mem_append_right _ h)))
  refine gI.of (cc := cX4_sums) (maxL := 4) (by decide) rfl (Nat.le_of_ble_eq_true rfl) ?_
  intro pG eG sG mG below meth cG A ls H locs F hr hlk hX hP hD hA hS hl
  have hl : lv_has ls 4 [(0, .ref h), (1, .int (nI k))] := hl
  refine lv_iconst (v := 0) F.1 F.2.1 dX4_sums_0 (by decide) ?_
  refine lv_istore_n (lv' := [(2, .int 0), (0, .ref h), (1, .int (nI k))]) F.1 F.2.1 dX4_sums_1 rfl hl (by decide) rfl (fun ls hl => ?_)
  refine lv_iconst (v := 0) F.1 F.2.1 dX4_sums_2 (by decide) ?_
  refine lv_istore_n (lv' := [(3, .int 0), (2, .int 0), (0, .ref h), (1, .int (nI k))]) F.1 F.2.1 dX4_sums_3 rfl hl (by decide) rfl (fun ls hl => ?_)
  have lp4 : ∀ (fu i : Nat), i ≤ P → P + 1 ≤ i + fu → ∀ (H : Heap) (locs : List Loc) (ls : Array Slot), va_P (eD E) vwCl [(h, .inr (4, fs)), (qm, .inl (eI E, 75, .inl m))] H → va_D A [(h, .inr (4, fs)), (qm, .inl (eI E, 75, .inl m))] → va_S A sG.heap H locs → lv_has ls 4 [(3, .int (nI i)), (2, .int (sumF 0 (fun j => pf m j k) i)), (0, .ref h), (1, .int (nI k))] → W pG l eG { frames := 1, cells := 0, slots := 0, locals := 22 } sG mG [.ref h, .int (nI k)].toArray below meth cG H locs 0 0 (MQ below (va_Qi (fun (r : Int32) (_ : Unit) => r = sumF 0 (fun j => pf m j k) P) (gR E (fun _ : Unit => [(h, .inr (4, fs)), (qm, .inl (eI E, 75, .inl m))]) A) A) [.ref h, .int (nI k)].toArray sG 0 0 A) (F0 mG 4 ls []) := by
    intro fu
    induction fu with
    | zero => intro i h1 h2; exact absurd h2 (by omega)
    | succ fu ih =>
      intro i hi hin   H locs ls hP hD hS hl
      refine lv_iload_n F.1 F.2.1 dX4_sums_4 rfl (lv_at hl 0 rfl) ?_
      refine lv_aload_n F.1 F.2.1 dX4_sums_5 rfl (lv_at hl 2 rfl) ?_
      refine g_get F hX hP hin4 0 rfl rfl 0 (by decide) (mm 1 rfl) hf0 dX4_sums_6 ?_
      refine lv_iconst (v := 4) F.1 F.2.1 dX4_sums_9 (by decide) ?_
      refine g_iald F hX hP 1 rfl (j := 4) (rfl) (by decide) (by decide) dX4_sums_10 ?_
      refine g_top (nI P) (hm4) ?_
      refine lv_icmp_ge (tgt := 29) F.1 F.2.1 dX4_sums_11 (by decide) (fun k1 => ?_) (fun k1 => ?_)
      · have hiN : P = i := Nat.le_antisymm ((nI_leI (by omega) (by omega)).mp k1) hi
        subst hiN
        refine lv_iload_n F.1 F.2.1 dX4_sums_29 rfl (lv_at hl 1 rfl) ?_
        exact g_reti F hr hlk (vp_nar_int _) hS hP hD (()) (rfl) (rfl) dX4_sums_30
      · have hiN : i < P := Nat.lt_of_not_le (fun h => k1 (nI_le h (by omega)))
        refine lv_iload_n F.1 F.2.1 dX4_sums_14 rfl (lv_at hl 1 rfl) ?_
        refine lv_aload_n F.1 F.2.1 dX4_sums_15 rfl (lv_at hl 2 rfl) ?_
        refine lv_iload_n F.1 F.2.1 dX4_sums_16 rfl (lv_at hl 0 rfl) ?_
        refine lv_iload_n F.1 F.2.1 dX4_sums_17 rfl (lv_at hl 3 rfl) ?_
        refine g_goIr (g_runV (As := [.int (nI i), .int (nI k)]) (rest := [.int (sumF 0 (fun j => pf m j k) i)]) F hX hP hD hS hA (c_X4_it l E h fs qm m i k (by first | assumption | rfl) (by omega) (hk5) H.size) (cwV 2 F.2.2.2.2 gX4_sums_X4_it rfl rfl rfl (by decide +kernel) ⟨Nat.le_of_ble_eq_true rfl, Nat.le_of_ble_eq_true rfl⟩) [0, 1] rfl rfl (q0 := 0) (ci := 4) rfl rfl rfl hl.1 rfl (Nat.le_of_ble_eq_true rfl) dX4_sums_18 ⟨Nat.le_refl _, Nat.le_refl _⟩) hP hD hS hA [0, 1] rfl (fun r _ H locs hq hP hS => ?_)
        subst hq
        refine lv_iadd F.1 F.2.1 dX4_sums_21 ?_
        refine lv_istore_n (lv' := [(2, .int ((sumF 0 (fun j => pf m j k) i) + (pf m i k))), (3, .int (nI i)), (0, .ref h), (1, .int (nI k))]) F.1 F.2.1 dX4_sums_22 rfl hl (by decide) rfl (fun ls hl => ?_)
        refine lv_iinc (v := nI (i + 1)) (lv' := [(3, .int (nI (i + 1))), (2, .int ((sumF 0 (fun j => pf m j k) i) + (pf m i k))), (0, .ref h), (1, .int (nI k))]) F.1 F.2.1 dX4_sums_23 hl (k := 1) rfl (nI_1 _) (by decide) rfl (fun ls hl => ?_)
        refine lv_goto (tgt := 4) F.1 F.2.1 dX4_sums_26 (by decide) ?_
        exact ih (i + 1) (by omega) (by omega)  _ _ _ hP hD hS (lv_sub hl [0, 1, 2, 3] rfl)
  exact lp4 (P + 1) 0 (by omega) (by omega)  _ _ _ hP hD hS (lv_sub hl [0, 1, 2, 3] rfl)
set_option maxHeartbeats 4000000 in
set_option maxRecDepth 100000 in
theorem c_X4_thinks (l : Launch) (E : gE) (h : Nat) (fs : List Value) (qm : Nat) (qw : Nat) (m : Nat → Int32) (w : Nat → Int32) (hf0 : fs[0]? = some (.ref qm)) (hf2 : fs[2]? = some (.ref qw)) : gV l yX4_thinks wsX4_thinks ({ frames := 1, cells := 0, slots := 0, locals := 22 }) E [(h, .inr (4, fs)), (qm, .inl (eI E, 75, .inl m)), (qw, .inl (eI E, 75, .inl w))] (fun _ : Unit => [(h, .inr (4, fs)), (qm, .inl (eI E, 75, .inl m)), (qw, .inl (eI E, 75, .inl m))]) [.ref h] (fun (_ : Unit) => True) := by
  have hin4 : ∀ w ∈ wsX40, w ∈ wsX4_thinks := (fun _ h => (List.mem_cons_of_mem _ (List.mem_append_right _ h)))
  refine gV.of (cc := cX4_thinks) (maxL := 1) (by decide) rfl (Nat.le_of_ble_eq_true rfl) ?_
  intro pG eG sG mG below meth cG A ls H locs F hr hlk hX hP hD hA hS hl
  have hl : lv_has ls 1 [(0, .ref h)] := hl
  refine lv_aload_n F.1 F.2.1 dX4_thinks_0 rfl (lv_at hl 0 rfl) ?_
  refine g_get F hX hP hin4 0 rfl rfl 0 (by decide) (mm 1 rfl) hf0 dX4_thinks_1 ?_
  refine lv_aload_n F.1 F.2.1 dX4_thinks_4 rfl (lv_at hl 0 rfl) ?_
  refine g_get F hX hP hin4 0 rfl rfl 2 (by decide) (mm 2 rfl) hf2 dX4_thinks_5 ?_
  refine g_goV (wr := [(h, .inr (4, fs))]) (g_runS (As := [.ref qm, .ref qw]) (rest := []) F hX hP hD hS hA (c_X4_copyAll l E qm qw m w H.size) (va_cwS 2 F.2.2.2.2 gX4_thinks_X4_copyAll rfl rfl rfl (by decide +kernel) ⟨Nat.le_of_ble_eq_true rfl, Nat.le_of_ble_eq_true rfl⟩) [1, 2] rfl rfl rfl hl.1 rfl (Nat.le_of_ble_eq_true rfl) dX4_thinks_8 ⟨Nat.le_refl _, Nat.le_refl _⟩) hP hD hS hA [1, 2] [0] rfl rfl rfl (by decide) (fun _ H locs hq hP hD hS => ?_)
  have hP : va_P (eD E) vwCl [(h, .inr (4, fs)), (qm, .inl (eI E, 75, .inl m)), (qw, .inl (eI E, 75, .inl m))] H := hP.sub [0, 1, 2] rfl
  have hD : va_D A [(h, .inr (4, fs)), (qm, .inl (eI E, 75, .inl m)), (qw, .inl (eI E, 75, .inl m))] := hD.sub [0, 1, 2] (by decide) rfl
  exact g_retv F hr hlk hS hP hD (()) (rfl) (trivial) dX4_thinks_11
set_option maxHeartbeats 4000000 in
set_option maxRecDepth 100000 in
theorem c_X4_putsBack (l : Launch) (E : gE) (h : Nat) (fs : List Value) (qm : Nat) (qw : Nat) (m : Nat → Int32) (w : Nat → Int32) (hf0 : fs[0]? = some (.ref qm)) (hf2 : fs[2]? = some (.ref qw)) : gV l yX4_putsBack wsX4_putsBack ({ frames := 1, cells := 0, slots := 0, locals := 22 }) E [(h, .inr (4, fs)), (qm, .inl (eI E, 75, .inl m)), (qw, .inl (eI E, 75, .inl w))] (fun _ : Unit => [(h, .inr (4, fs)), (qm, .inl (eI E, 75, .inl w)), (qw, .inl (eI E, 75, .inl w))]) [.ref h] (fun (_ : Unit) => True) := by
  have hin4 : ∀ w ∈ wsX40, w ∈ wsX4_putsBack := (fun _ h => (List.mem_cons_of_mem _ (List.mem_append_right _ h)))
  refine gV.of (cc := cX4_putsBack) (maxL := 1) (by decide) rfl (Nat.le_of_ble_eq_true rfl) ?_
  intro pG eG sG mG below meth cG A ls H locs F hr hlk hX hP hD hA hS hl
  have hl : lv_has ls 1 [(0, .ref h)] := hl
  refine lv_aload_n F.1 F.2.1 dX4_putsBack_0 rfl (lv_at hl 0 rfl) ?_
  refine g_get F hX hP hin4 0 rfl rfl 2 (by decide) (mm 1 rfl) hf2 dX4_putsBack_1 ?_
  refine lv_aload_n F.1 F.2.1 dX4_putsBack_4 rfl (lv_at hl 0 rfl) ?_
  refine g_get F hX hP hin4 0 rfl rfl 0 (by decide) (mm 2 rfl) hf0 dX4_putsBack_5 ?_
  refine g_goV (wr := [(h, .inr (4, fs))]) (g_runS (As := [.ref qw, .ref qm]) (rest := []) F hX hP hD hS hA (c_X4_copyAll l E qw qm w m H.size) (va_cwS 2 F.2.2.2.2 gX4_putsBack_X4_copyAll rfl rfl rfl (by decide +kernel) ⟨Nat.le_of_ble_eq_true rfl, Nat.le_of_ble_eq_true rfl⟩) [2, 1] rfl rfl rfl hl.1 rfl (Nat.le_of_ble_eq_true rfl) dX4_putsBack_8 ⟨Nat.le_refl _, Nat.le_refl _⟩) hP hD hS hA [2, 1] [0] rfl rfl rfl (by decide) (fun _ H locs hq hP hD hS => ?_)
  have hP : va_P (eD E) vwCl [(h, .inr (4, fs)), (qm, .inl (eI E, 75, .inl w)), (qw, .inl (eI E, 75, .inl w))] H := hP.sub [0, 2, 1] rfl
  have hD : va_D A [(h, .inr (4, fs)), (qm, .inl (eI E, 75, .inl w)), (qw, .inl (eI E, 75, .inl w))] := hD.sub [0, 2, 1] (by decide) rfl
  exact g_retv F hr hlk hS hP hD (()) (rfl) (trivial) dX4_putsBack_11
set_option maxHeartbeats 4000000 in
set_option maxRecDepth 100000 in
theorem c_X4_heardOn (l : Launch) (E : gE) (h : Nat) (fs : List Value) (qm : Nat) (qw : Nat) (m : Nat → Int32) (w : Nat → Int32) (P : Nat) (N : Nat) (hf0 : fs[0]? = some (.ref qm)) (hf2 : fs[2]? = some (.ref qw)) (hm4 : m 4 = nI P) (hP8 : P ≤ 8) (hN : N < 2 ^ 31) : gI l yX4_heardOn wsX4_heardOn ({ frames := 8, cells := 0, slots := 0, locals := 169 }) E [(h, .inr (4, fs)), (qm, .inl (eI E, 75, .inl m)), (qw, .inl (eI E, 75, .inl w))] (fun _ : Unit => [(h, .inr (4, fs)), (qm, .inl (eI E, 75, .inl w)), (qw, .inl (eI E, 75, .inl w))]) [.ref h, .int (nI N)] (fun (r : Int32) (_ : Unit) => r = hdM (itM P m N) P) := by
  refine gI.of (cc := cX4_heardOn) (maxL := 3) (by decide) rfl (Nat.le_of_ble_eq_true rfl) ?_
  intro pG eG sG mG below meth cG A ls H locs F hr hlk hX hP hD hA hS hl
  have hl : lv_has ls 3 [(0, .ref h), (1, .int (nI N))] := hl
  refine lv_aload_n F.1 F.2.1 dX4_heardOn_0 rfl (lv_at hl 0 rfl) ?_
  refine lv_iload_n F.1 F.2.1 dX4_heardOn_1 rfl (lv_at hl 1 rfl) ?_
  refine g_goV (wr := [(qw, .inl (eI E, 75, .inl w))]) (g_runV (As := [.int (nI N)]) (rest := []) F hX hP hD hS hA (c_X4_goesFor l E h fs qm m P N (by first | assumption | rfl) (by assumption) (by assumption) (by omega) H.size) (cwV 1 F.2.2.2.2 gX4_heardOn_X4_goesFor rfl rfl rfl (by decide +kernel) ⟨Nat.le_of_ble_eq_true rfl, Nat.le_of_ble_eq_true rfl⟩) [0, 1] rfl rfl (q0 := 0) (ci := 4) rfl rfl rfl hl.1 rfl (Nat.le_of_ble_eq_true rfl) dX4_heardOn_2 ⟨Nat.le_refl _, Nat.le_refl _⟩) hP hD hS hA [0, 1] [2] rfl rfl rfl (by decide) (fun _ H locs hq hP hD hS => ?_)
  have hP : va_P (eD E) vwCl [(h, .inr (4, fs)), (qm, .inl (eI E, 75, .inl (itM P m N))), (qw, .inl (eI E, 75, .inl w))] H := hP.sub [1, 2, 0] rfl
  have hD : va_D A [(h, .inr (4, fs)), (qm, .inl (eI E, 75, .inl (itM P m N))), (qw, .inl (eI E, 75, .inl w))] := hD.sub [1, 2, 0] (by decide) rfl
  refine lv_aload_n F.1 F.2.1 dX4_heardOn_5 rfl (lv_at hl 0 rfl) ?_
  refine g_goIr (g_runV (As := []) (rest := []) F hX hP hD hS hA (c_X4_isHeard l E h fs qm (itM P m N) P (by first | assumption | rfl) ((itM_lo P m (by decide) (by decide) N).trans hm4) (by assumption) H.size) (cwV 0 F.2.2.2.2 gX4_heardOn_X4_isHeard rfl rfl rfl (by decide +kernel) ⟨Nat.le_of_ble_eq_true rfl, Nat.le_of_ble_eq_true rfl⟩) [0, 1] rfl rfl (q0 := 0) (ci := 4) rfl rfl rfl hl.1 rfl (Nat.le_of_ble_eq_true rfl) dX4_heardOn_6 ⟨Nat.le_refl _, Nat.le_refl _⟩) hP hD hS hA [0, 1] rfl (fun r _ H locs hq hP hS => ?_)
  subst hq
  refine lv_istore_n (lv' := [(2, .int (hdM (itM P m N) P)), (0, .ref h), (1, .int (nI N))]) F.1 F.2.1 dX4_heardOn_9 rfl hl (by decide) rfl (fun ls hl => ?_)
  refine lv_aload_n F.1 F.2.1 dX4_heardOn_10 rfl (lv_at hl 1 rfl) ?_
  refine g_goV (wr := []) (g_runV (As := []) (rest := []) F hX hP hD hS hA (c_X4_putsBack l E h fs qm qw (itM P m N) w (by first | assumption | rfl) (by first | assumption | rfl) H.size) (cwV 0 F.2.2.2.2 gX4_heardOn_X4_putsBack rfl rfl rfl (by decide +kernel) ⟨Nat.le_of_ble_eq_true rfl, Nat.le_of_ble_eq_true rfl⟩) [0, 1, 2] rfl rfl (q0 := 0) (ci := 4) rfl rfl rfl hl.1 rfl (Nat.le_of_ble_eq_true rfl) dX4_heardOn_11 ⟨Nat.le_refl _, Nat.le_refl _⟩) hP hD hS hA [0, 1, 2] [] rfl rfl rfl (by decide) (fun _ H locs hq hP hD hS => ?_)
  have hP : va_P (eD E) vwCl [(h, .inr (4, fs)), (qm, .inl (eI E, 75, .inl w)), (qw, .inl (eI E, 75, .inl w))] H := hP.sub [0, 1, 2] rfl
  have hD : va_D A [(h, .inr (4, fs)), (qm, .inl (eI E, 75, .inl w)), (qw, .inl (eI E, 75, .inl w))] := hD.sub [0, 1, 2] (by decide) rfl
  refine lv_iload_n F.1 F.2.1 dX4_heardOn_14 rfl (lv_at hl 0 rfl) ?_
  exact g_reti F hr hlk (vp_nar_int _) hS hP hD (()) (rfl) (rfl) dX4_heardOn_15
set_option maxHeartbeats 4000000 in
set_option maxRecDepth 100000 in
theorem c_X4_comesAs (l : Launch) (E : gE) (h : Nat) (fs : List Value) (qm : Nat) (m : Nat → Int32) (P : Nat) (k : Int32) (g : Int32) (hf0 : fs[0]? = some (.ref qm)) (hm4 : m 4 = nI P) (hP8 : P < 8) : gI l yX4_comesAs wsX4_comesAs ({ frames := 1, cells := 0, slots := 0, locals := 23 }) E [(h, .inr (4, fs)), (qm, .inl (eI E, 75, .inl m))] (fun _ : Unit => [(h, .inr (4, fs)), (qm, .inl (eI E, 75, .inl (pu (pu (pu (pu (pu (upd m 4 (nI (P + 1))) P 0 k) P 1 g) P 2 0) P 3 0) P 4 0)))]) [.ref h, .int k, .int g] (fun (r : Int32) (_ : Unit) => r = nI P) := by
  have hin4 : ∀ w ∈ wsX40, w ∈ wsX4_comesAs := (fun _ h => (List.mem_cons_of_mem _ (List.mem_append_right _ h)))
  refine gI.of (cc := cX4_comesAs) (maxL := 4) (by decide) rfl (Nat.le_of_ble_eq_true rfl) ?_
  intro pG eG sG mG below meth cG A ls H locs F hr hlk hX hP hD hA hS hl
  have hl : lv_has ls 4 [(0, .ref h), (1, .int k), (2, .int g)] := hl
  refine lv_aload_n F.1 F.2.1 dX4_comesAs_0 rfl (lv_at hl 0 rfl) ?_
  refine g_get F hX hP hin4 0 rfl rfl 0 (by decide) (mm 1 rfl) hf0 dX4_comesAs_1 ?_
  refine lv_iconst (v := 4) F.1 F.2.1 dX4_comesAs_4 (by decide) ?_
  refine g_iald F hX hP 1 rfl (j := 4) (rfl) (by decide) (by decide) dX4_comesAs_5 ?_
  refine g_top (nI P) (hm4) ?_
  refine lv_istore_n (lv' := [(3, .int (nI P)), (0, .ref h), (1, .int k), (2, .int g)]) F.1 F.2.1 dX4_comesAs_6 rfl hl (by decide) rfl (fun ls hl => ?_)
  refine lv_aload_n F.1 F.2.1 dX4_comesAs_7 rfl (lv_at hl 1 rfl) ?_
  refine g_get F hX hP hin4 0 rfl rfl 0 (by decide) (mm 1 rfl) hf0 dX4_comesAs_8 ?_
  refine lv_iconst (v := 4) F.1 F.2.1 dX4_comesAs_11 (by decide) ?_
  refine lv_dup2_11 F.1 F.2.1 dX4_comesAs_12 rfl rfl ?_
  refine g_iald F hX hP 1 rfl (j := 4) (rfl) (by decide) (by decide) dX4_comesAs_13 ?_
  refine lv_iconst (v := 1) F.1 F.2.1 dX4_comesAs_14 (by decide) ?_
  refine lv_iadd F.1 F.2.1 dX4_comesAs_15 ?_
  refine g_top (nI (P + 1)) (by rw [hm4]; exact nI_1 _) ?_
  refine g_iast F hX hP hD hS 1 rfl (j := 4) (rfl) (by decide) (by decide) dX4_comesAs_16 (fun H locs hP hD hS => ?_)
  have hP : va_P (eD E) vwCl [(h, .inr (4, fs)), (qm, .inl (eI E, 75, .inl (upd m 4 (nI (P + 1)))))] H := hP
  have hD : va_D A [(h, .inr (4, fs)), (qm, .inl (eI E, 75, .inl (upd m 4 (nI (P + 1)))))] := hD
  refine lv_aload_n F.1 F.2.1 dX4_comesAs_17 rfl (lv_at hl 1 rfl) ?_
  refine lv_iload_n F.1 F.2.1 dX4_comesAs_18 rfl (lv_at hl 0 rfl) ?_
  refine lv_iconst (v := 0) F.1 F.2.1 dX4_comesAs_19 (by decide) ?_
  refine lv_iload_n F.1 F.2.1 dX4_comesAs_20 rfl (lv_at hl 2 rfl) ?_
  refine g_goV (wr := []) (g_runV (As := [.int (nI P), .int 0, .int k]) (rest := []) F hX hP hD hS hA (c_X4_put l E h fs qm (upd m 4 (nI (P + 1))) P 0 k (by first | assumption | rfl) (by omega) (by decide) H.size) (cwV 3 F.2.2.2.2 gX4_comesAs_X4_put rfl rfl rfl (by decide +kernel) ⟨Nat.le_of_ble_eq_true rfl, Nat.le_of_ble_eq_true rfl⟩) [0, 1] rfl rfl (q0 := 0) (ci := 4) rfl rfl rfl hl.1 rfl (Nat.le_of_ble_eq_true rfl) dX4_comesAs_21 ⟨Nat.le_refl _, Nat.le_refl _⟩) hP hD hS hA [0, 1] [] rfl rfl rfl (by decide) (fun _ H locs hq hP hD hS => ?_)
  have hP : va_P (eD E) vwCl [(h, .inr (4, fs)), (qm, .inl (eI E, 75, .inl (pu (upd m 4 (nI (P + 1))) P 0 k)))] H := hP.sub [0, 1] rfl
  have hD : va_D A [(h, .inr (4, fs)), (qm, .inl (eI E, 75, .inl (pu (upd m 4 (nI (P + 1))) P 0 k)))] := hD.sub [0, 1] (by decide) rfl
  refine lv_aload_n F.1 F.2.1 dX4_comesAs_24 rfl (lv_at hl 1 rfl) ?_
  refine lv_iload_n F.1 F.2.1 dX4_comesAs_25 rfl (lv_at hl 0 rfl) ?_
  refine lv_iconst (v := 1) F.1 F.2.1 dX4_comesAs_26 (by decide) ?_
  refine lv_iload_n F.1 F.2.1 dX4_comesAs_27 rfl (lv_at hl 3 rfl) ?_
  refine g_goV (wr := []) (g_runV (As := [.int (nI P), .int 1, .int g]) (rest := []) F hX hP hD hS hA (c_X4_put l E h fs qm (pu (upd m 4 (nI (P + 1))) P 0 k) P 1 g (by first | assumption | rfl) (by omega) (by decide) H.size) (cwV 3 F.2.2.2.2 gX4_comesAs_X4_put rfl rfl rfl (by decide +kernel) ⟨Nat.le_of_ble_eq_true rfl, Nat.le_of_ble_eq_true rfl⟩) [0, 1] rfl rfl (q0 := 0) (ci := 4) rfl rfl rfl hl.1 rfl (Nat.le_of_ble_eq_true rfl) dX4_comesAs_28 ⟨Nat.le_refl _, Nat.le_refl _⟩) hP hD hS hA [0, 1] [] rfl rfl rfl (by decide) (fun _ H locs hq hP hD hS => ?_)
  have hP : va_P (eD E) vwCl [(h, .inr (4, fs)), (qm, .inl (eI E, 75, .inl (pu (pu (upd m 4 (nI (P + 1))) P 0 k) P 1 g)))] H := hP.sub [0, 1] rfl
  have hD : va_D A [(h, .inr (4, fs)), (qm, .inl (eI E, 75, .inl (pu (pu (upd m 4 (nI (P + 1))) P 0 k) P 1 g)))] := hD.sub [0, 1] (by decide) rfl
  refine lv_aload_n F.1 F.2.1 dX4_comesAs_31 rfl (lv_at hl 1 rfl) ?_
  refine lv_iload_n F.1 F.2.1 dX4_comesAs_32 rfl (lv_at hl 0 rfl) ?_
  refine lv_iconst (v := 2) F.1 F.2.1 dX4_comesAs_33 (by decide) ?_
  refine lv_iconst (v := 0) F.1 F.2.1 dX4_comesAs_34 (by decide) ?_
  refine g_goV (wr := []) (g_runV (As := [.int (nI P), .int 2, .int 0]) (rest := []) F hX hP hD hS hA (c_X4_put l E h fs qm (pu (pu (upd m 4 (nI (P + 1))) P 0 k) P 1 g) P 2 0 (by first | assumption | rfl) (by omega) (by decide) H.size) (cwV 3 F.2.2.2.2 gX4_comesAs_X4_put rfl rfl rfl (by decide +kernel) ⟨Nat.le_of_ble_eq_true rfl, Nat.le_of_ble_eq_true rfl⟩) [0, 1] rfl rfl (q0 := 0) (ci := 4) rfl rfl rfl hl.1 rfl (Nat.le_of_ble_eq_true rfl) dX4_comesAs_35 ⟨Nat.le_refl _, Nat.le_refl _⟩) hP hD hS hA [0, 1] [] rfl rfl rfl (by decide) (fun _ H locs hq hP hD hS => ?_)
  have hP : va_P (eD E) vwCl [(h, .inr (4, fs)), (qm, .inl (eI E, 75, .inl (pu (pu (pu (upd m 4 (nI (P + 1))) P 0 k) P 1 g) P 2 0)))] H := hP.sub [0, 1] rfl
  have hD : va_D A [(h, .inr (4, fs)), (qm, .inl (eI E, 75, .inl (pu (pu (pu (upd m 4 (nI (P + 1))) P 0 k) P 1 g) P 2 0)))] := hD.sub [0, 1] (by decide) rfl
  refine lv_aload_n F.1 F.2.1 dX4_comesAs_38 rfl (lv_at hl 1 rfl) ?_
  refine lv_iload_n F.1 F.2.1 dX4_comesAs_39 rfl (lv_at hl 0 rfl) ?_
  refine lv_iconst (v := 3) F.1 F.2.1 dX4_comesAs_40 (by decide) ?_
  refine lv_iconst (v := 0) F.1 F.2.1 dX4_comesAs_41 (by decide) ?_
  refine g_goV (wr := []) (g_runV (As := [.int (nI P), .int 3, .int 0]) (rest := []) F hX hP hD hS hA (c_X4_put l E h fs qm (pu (pu (pu (upd m 4 (nI (P + 1))) P 0 k) P 1 g) P 2 0) P 3 0 (by first | assumption | rfl) (by omega) (by decide) H.size) (cwV 3 F.2.2.2.2 gX4_comesAs_X4_put rfl rfl rfl (by decide +kernel) ⟨Nat.le_of_ble_eq_true rfl, Nat.le_of_ble_eq_true rfl⟩) [0, 1] rfl rfl (q0 := 0) (ci := 4) rfl rfl rfl hl.1 rfl (Nat.le_of_ble_eq_true rfl) dX4_comesAs_42 ⟨Nat.le_refl _, Nat.le_refl _⟩) hP hD hS hA [0, 1] [] rfl rfl rfl (by decide) (fun _ H locs hq hP hD hS => ?_)
  have hP : va_P (eD E) vwCl [(h, .inr (4, fs)), (qm, .inl (eI E, 75, .inl (pu (pu (pu (pu (upd m 4 (nI (P + 1))) P 0 k) P 1 g) P 2 0) P 3 0)))] H := hP.sub [0, 1] rfl
  have hD : va_D A [(h, .inr (4, fs)), (qm, .inl (eI E, 75, .inl (pu (pu (pu (pu (upd m 4 (nI (P + 1))) P 0 k) P 1 g) P 2 0) P 3 0)))] := hD.sub [0, 1] (by decide) rfl
  refine lv_aload_n F.1 F.2.1 dX4_comesAs_45 rfl (lv_at hl 1 rfl) ?_
  refine lv_iload_n F.1 F.2.1 dX4_comesAs_46 rfl (lv_at hl 0 rfl) ?_
  refine lv_iconst (v := 4) F.1 F.2.1 dX4_comesAs_47 (by decide) ?_
  refine lv_iconst (v := 0) F.1 F.2.1 dX4_comesAs_48 (by decide) ?_
  refine g_goV (wr := []) (g_runV (As := [.int (nI P), .int 4, .int 0]) (rest := []) F hX hP hD hS hA (c_X4_put l E h fs qm (pu (pu (pu (pu (upd m 4 (nI (P + 1))) P 0 k) P 1 g) P 2 0) P 3 0) P 4 0 (by first | assumption | rfl) (by omega) (by decide) H.size) (cwV 3 F.2.2.2.2 gX4_comesAs_X4_put rfl rfl rfl (by decide +kernel) ⟨Nat.le_of_ble_eq_true rfl, Nat.le_of_ble_eq_true rfl⟩) [0, 1] rfl rfl (q0 := 0) (ci := 4) rfl rfl rfl hl.1 rfl (Nat.le_of_ble_eq_true rfl) dX4_comesAs_49 ⟨Nat.le_refl _, Nat.le_refl _⟩) hP hD hS hA [0, 1] [] rfl rfl rfl (by decide) (fun _ H locs hq hP hD hS => ?_)
  have hP : va_P (eD E) vwCl [(h, .inr (4, fs)), (qm, .inl (eI E, 75, .inl (pu (pu (pu (pu (pu (upd m 4 (nI (P + 1))) P 0 k) P 1 g) P 2 0) P 3 0) P 4 0)))] H := hP.sub [0, 1] rfl
  have hD : va_D A [(h, .inr (4, fs)), (qm, .inl (eI E, 75, .inl (pu (pu (pu (pu (pu (upd m 4 (nI (P + 1))) P 0 k) P 1 g) P 2 0) P 3 0) P 4 0)))] := hD.sub [0, 1] (by decide) rfl
  refine lv_iload_n F.1 F.2.1 dX4_comesAs_52 rfl (lv_at hl 0 rfl) ?_
  exact g_reti F hr hlk (vp_nar_int _) hS hP hD (()) (rfl) (rfl) dX4_comesAs_53
