/-! sheets: the class -/
def mixL (f g : Nat → Int64) (i : Nat) : Nat → Int64 := fun j => if j < i then f j else g j
theorem mixL_0 (f g : Nat → Int64) : g = mixL f g 0 := funext fun j => (if_neg (Nat.not_lt_zero j)).symm
theorem mixL_step (f g : Nat → Int64) (i : Nat) (x : Int64) (h : x = f i) : vp_updL (mixL f g i) i x = mixL f g (i + 1) := funext fun j => by
  unfold vp_updL mixL
  by_cases e : j = i
  · subst e
    rw [if_pos rfl, if_pos (Nat.lt_succ_self j), h]
  · rw [if_neg e]
    by_cases q : j < i
    · rw [if_pos q, if_pos (by omega)]
    · rw [if_neg q, if_neg (by omega)]
def cutC (b : Int32) (v : Int64) : Int64 := if b = 8 then v.toInt32.toInt8.toInt32.toInt64 else if b = 16 then v.toInt32.toInt16.toInt32.toInt64 else v
def hrC (f n : Int32) (Z : Nat) : Bool := !decide (f < 0) && (!decide (n < 0) && (!decide (nI Z < n) && !decide (nI Z - n < f)))
def isW (b : Int32) : Bool := decide (b = 0) || (decide (b = 8) || (decide (b = 16) || decide (b = 64)))
set_option maxHeartbeats 4000000 in
set_option maxRecDepth 100000 in
theorem c_X0_isMissing (l : Launch) (E : gE) (sa : Nat) (bt_ : Int32) (Z : Nat) (nb : Nat) : gI l yX0_isMissing wsX0_isMissing ({ frames := 0, cells := 0, slots := 0, locals := 0 }) E [(sa, .inr (0, [.int bt_, .int (nI Z), .ref nb]))] (fun _ : Unit => [(sa, .inr (0, [.int bt_, .int (nI Z), .ref nb]))]) [.ref sa] (fun (r : Int32) (_ : Unit) => r = bi (decide (bt_ = 0))) := by
  have hin0 : ∀ w ∈ wsX00, w ∈ wsX0_isMissing := (fun _ h => (List.mem_cons_of_mem _ (List.mem_append_right _ h)))
  refine gI.of (cc := cX0_isMissing) (maxL := 1) (by decide) rfl (Nat.le_of_ble_eq_true rfl) ?_
  intro pG eG sG mG below meth cG A ls H locs F hr hlk hX hP hD hA hS hl
  have hl : lv_has ls 1 [(0, .ref sa)] := hl
  refine lv_aload_n F.1 F.2.1 dX0_isMissing_0 rfl (lv_at hl 0 rfl) ?_
  refine g_get F hX hP hin0 0 rfl rfl 0 (by decide) (mm 1 rfl) rfl dX0_isMissing_1 ?_
  refine lv_if_ne (tgt := 11) F.1 F.2.1 dX0_isMissing_4 (by decide) (fun k1 => ?_) (fun k1 => ?_)
  · refine lv_iconst (v := 0) F.1 F.2.1 dX0_isMissing_11 (by decide) ?_
    exact g_reti F hr hlk rfl hS hP hD (()) (rfl) (by simp [bi, k1]) dX0_isMissing_12
  · refine lv_iconst (v := 1) F.1 F.2.1 dX0_isMissing_7 (by decide) ?_
    refine lv_goto (tgt := 12) F.1 F.2.1 dX0_isMissing_8 (by decide) ?_
    exact g_reti F hr hlk rfl hS hP hD (()) (rfl) (by simp [bi, k1]) dX0_isMissing_12
set_option maxHeartbeats 4000000 in
set_option maxRecDepth 100000 in
theorem c_X0_begin (l : Launch) (E : gE) (sa : Nat) (bt_ : Int32) (Z : Nat) (nb : Nat) (nu : Nat → Int64) (b : Int32) (Z2 : Nat) : gV l yX0_begin wsX0_begin ({ frames := 0, cells := 0, slots := 0, locals := 0 }) E [(sa, .inr (0, [.int bt_, .int (nI Z), .ref nb])), (nb, .inl (eJ E, 40, .inr (.inl nu)))] (fun _ : Unit => [(sa, .inr (0, [.int b, .int (nI Z2), .ref nb])), (nb, .inl (eJ E, 40, .inr (.inl (fun _ => 0))))]) [.ref sa, .int b, .int (nI Z2)] (fun (_ : Unit) => True) := by
  have hin0 : ∀ w ∈ wsX00, w ∈ wsX0_begin := (fun _ h => (List.mem_cons_of_mem _ (List.mem_append_right _ h)))
  refine gV.of (cc := cX0_begin) (maxL := 4) (by decide) rfl (Nat.le_of_ble_eq_true rfl) ?_
  intro pG eG sG mG below meth cG A ls H locs F hr hlk hX hP hD hA hS hl
  have hl : lv_has ls 4 [(0, .ref sa), (1, .int b), (2, .int (nI Z2))] := hl
  refine lv_aload_n F.1 F.2.1 dX0_begin_0 rfl (lv_at hl 0 rfl) ?_
  refine lv_iload_n F.1 F.2.1 dX0_begin_1 rfl (lv_at hl 1 rfl) ?_
  refine g_put F hX hP hD hS hin0 tyX0 tyX0_ok nmX0 0 rfl rfl 0 (by decide) (mm 1 rfl) rfl (rfl) (rfl) (Nat.le_of_ble_eq_true rfl) dX0_begin_2 (fun H locs hP hD hS => ?_)
  have hP : va_P (eD E) vwCl [(sa, .inr (0, [.int b, .int (nI Z), .ref nb])), (nb, .inl (eJ E, 40, .inr (.inl nu)))] H := hP
  have hD : va_D A [(sa, .inr (0, [.int b, .int (nI Z), .ref nb])), (nb, .inl (eJ E, 40, .inr (.inl nu)))] := hD
  refine lv_aload_n F.1 F.2.1 dX0_begin_5 rfl (lv_at hl 0 rfl) ?_
  refine lv_iload_n F.1 F.2.1 dX0_begin_6 rfl (lv_at hl 2 rfl) ?_
  refine g_put F hX hP hD hS hin0 tyX0 tyX0_ok nmX0 0 rfl rfl 1 (by decide) (mm 2 rfl) rfl (rfl) (rfl) (Nat.le_of_ble_eq_true rfl) dX0_begin_7 (fun H locs hP hD hS => ?_)
  have hP : va_P (eD E) vwCl [(sa, .inr (0, [.int b, .int (nI Z2), .ref nb])), (nb, .inl (eJ E, 40, .inr (.inl nu)))] H := hP
  have hD : va_D A [(sa, .inr (0, [.int b, .int (nI Z2), .ref nb])), (nb, .inl (eJ E, 40, .inr (.inl nu)))] := hD
  refine lv_iconst (v := 0) F.1 F.2.1 dX0_begin_10 (by decide) ?_
  refine lv_istore_n (lv' := [(3, .int 0), (0, .ref sa), (1, .int b), (2, .int (nI Z2))]) F.1 F.2.1 dX0_begin_11 rfl hl (by decide) rfl (fun ls hl => ?_)
  have lp12 : ∀ (fu i : Nat), i ≤ 40 → 40 + 1 ≤ i + fu → ∀ (H : Heap) (locs : List Loc) (ls : Array Slot), va_P (eD E) vwCl [(sa, .inr (0, [.int b, .int (nI Z2), .ref nb])), (nb, .inl (eJ E, 40, .inr (.inl (mixL (fun _ => 0) nu i))))] H → va_D A [(sa, .inr (0, [.int b, .int (nI Z2), .ref nb])), (nb, .inl (eJ E, 40, .inr (.inl (mixL (fun _ => 0) nu i))))] → va_S A sG.heap H locs → lv_has ls 4 [(3, .int (nI i)), (0, .ref sa), (1, .int b), (2, .int (nI Z2))] → W pG l eG { frames := 0, cells := 0, slots := 0, locals := 0 } sG mG [.ref sa, .int b, .int (nI Z2)].toArray below meth cG H locs 0 0 (MQ below (va_Qv (fun (_ : Unit) => True) (gR E (fun _ : Unit => [(sa, .inr (0, [.int b, .int (nI Z2), .ref nb])), (nb, .inl (eJ E, 40, .inr (.inl (fun _ => 0))))]) A) A) [.ref sa, .int b, .int (nI Z2)].toArray sG 0 0 A) (F0 mG 12 ls []) := by
    intro fu
    induction fu with
    | zero => intro i h1 h2; exact absurd h2 (by omega)
    | succ fu ih =>
      intro i hi hin   H locs ls hP hD hS hl
      refine lv_iload_n F.1 F.2.1 dX0_begin_12 rfl (lv_at hl 0 rfl) ?_
      refine lv_bipush (v := 40) F.1 F.2.1 dX0_begin_13 (by decide) ?_
      refine lv_icmp_ge (tgt := 31) F.1 F.2.1 dX0_begin_15 (by decide) (fun k1 => ?_) (fun k1 => ?_)
      · have hiN : 40 = i := Nat.le_antisymm ((nI_leI (by omega) (by omega)).mp k1) hi
        subst hiN
        have hP : va_P (eD E) vwCl [(sa, .inr (0, [.int b, .int (nI Z2), .ref nb])), (nb, .inl (eJ E, 40, .inr (.inl (fun _ => 0))))] H := g_extL hP 1 ((fun _ => 0)) rfl (fun j hj => if_pos hj)
        have hD : va_D A [(sa, .inr (0, [.int b, .int (nI Z2), .ref nb])), (nb, .inl (eJ E, 40, .inr (.inl (fun _ => 0))))] := hD.set (p := 1) rfl
        exact g_retv F hr hlk hS hP hD (()) (rfl) (trivial) dX0_begin_31
      · have hiN : i < 40 := Nat.lt_of_not_le (fun h => k1 (nI_le h (by omega)))
        refine lv_aload_n F.1 F.2.1 dX0_begin_18 rfl (lv_at hl 1 rfl) ?_
        refine g_get F hX hP hin0 0 rfl rfl 2 (by decide) (mm 3 rfl) rfl dX0_begin_19 ?_
        refine lv_iload_n F.1 F.2.1 dX0_begin_22 rfl (lv_at hl 0 rfl) ?_
        refine lv_lconst (v := 0) F.1 F.2.1 dX0_begin_23 (by decide) ?_
        refine g_last F hX hP hD hS 1 rfl (j := i) (rfl) (by omega) (by decide) dX0_begin_24 (fun H locs hP hD hS => ?_)
        have hP : va_P (eD E) vwCl [(sa, .inr (0, [.int b, .int (nI Z2), .ref nb])), (nb, .inl (eJ E, 40, .inr (.inl (vp_updL (mixL (fun _ => 0) nu i) i 0))))] H := hP
        have hD : va_D A [(sa, .inr (0, [.int b, .int (nI Z2), .ref nb])), (nb, .inl (eJ E, 40, .inr (.inl (vp_updL (mixL (fun _ => 0) nu i) i 0))))] := hD
        refine lv_iinc (v := nI (i + 1)) (lv' := [(3, .int (nI (i + 1))), (0, .ref sa), (1, .int b), (2, .int (nI Z2))]) F.1 F.2.1 dX0_begin_25 hl (k := 0) rfl (nI_1 _) (by decide) rfl (fun ls hl => ?_)
        refine lv_goto (tgt := 12) F.1 F.2.1 dX0_begin_28 (by decide) ?_
        have ecell : (vp_updL (mixL (fun _ => 0) nu i) i 0) = (mixL (fun _ => 0) nu (i + 1)) := mixL_step _ _ _ _ rfl
        rw [ecell] at hP hD
        clear ecell
        have hP : va_P (eD E) vwCl [(sa, .inr (0, [.int b, .int (nI Z2), .ref nb])), (nb, .inl (eJ E, 40, .inr (.inl (mixL (fun _ => 0) nu (i + 1)))))] H := hP
        have hD : va_D A [(sa, .inr (0, [.int b, .int (nI Z2), .ref nb])), (nb, .inl (eJ E, 40, .inr (.inl (mixL (fun _ => 0) nu (i + 1)))))] := hD
        exact ih (i + 1) (by omega) (by omega)  _ _ _ hP hD hS (lv_sub hl [0, 1, 2, 3] rfl)
  have ecell : nu = (mixL (fun _ => 0) nu 0) := mixL_0 _ _
  rw [ecell] at hP hD
  clear ecell
  have hP : va_P (eD E) vwCl [(sa, .inr (0, [.int b, .int (nI Z2), .ref nb])), (nb, .inl (eJ E, 40, .inr (.inl (mixL (fun _ => 0) nu 0))))] H := hP
  have hD : va_D A [(sa, .inr (0, [.int b, .int (nI Z2), .ref nb])), (nb, .inl (eJ E, 40, .inr (.inl (mixL (fun _ => 0) nu 0))))] := hD
  exact lp12 (40 + 1) 0 (by omega) (by omega)  _ _ _ hP hD hS (lv_sub hl [0, 1, 2, 3] rfl)
set_option maxHeartbeats 4000000 in
set_option maxRecDepth 100000 in
theorem c_X0_put (l : Launch) (E : gE) (sa : Nat) (bt_ : Int32) (Z : Nat) (nb : Nat) (nu : Nat → Int64) (j : Nat) (v : Int64) (hj : j < 40) : gV l yX0_put wsX0_put ({ frames := 0, cells := 0, slots := 0, locals := 0 }) E [(sa, .inr (0, [.int bt_, .int (nI Z), .ref nb])), (nb, .inl (eJ E, 40, .inr (.inl nu)))] (fun _ : Unit => [(sa, .inr (0, [.int bt_, .int (nI Z), .ref nb])), (nb, .inl (eJ E, 40, .inr (.inl (vp_updL nu j (cutC bt_ v)))))]) [.ref sa, .int (nI j), .long v] (fun (_ : Unit) => True) := by
  have hin0 : ∀ w ∈ wsX00, w ∈ wsX0_put := (fun _ h => (List.mem_cons_of_mem _ (List.mem_append_right _ h)))
  refine gV.of (cc := cX0_put) (maxL := 4) (by decide) rfl (Nat.le_of_ble_eq_true rfl) ?_
  intro pG eG sG mG below meth cG A ls H locs F hr hlk hX hP hD hA hS hl
  have hl : lv_has ls 4 [(0, .ref sa), (1, .int (nI j)), (2, .long v)] := hl
  refine lv_aload_n F.1 F.2.1 dX0_put_0 rfl (lv_at hl 0 rfl) ?_
  refine g_get F hX hP hin0 0 rfl rfl 0 (by decide) (mm 1 rfl) rfl dX0_put_1 ?_
  refine lv_bipush (v := 8) F.1 F.2.1 dX0_put_4 (by decide) ?_
  refine lv_icmp_ne (tgt := 22) F.1 F.2.1 dX0_put_6 (by decide) (fun k1 => ?_) (fun k1 => ?_)
  · refine lv_aload_n F.1 F.2.1 dX0_put_22 rfl (lv_at hl 0 rfl) ?_
    refine g_get F hX hP hin0 0 rfl rfl 0 (by decide) (mm 1 rfl) rfl dX0_put_23 ?_
    refine lv_bipush (v := 16) F.1 F.2.1 dX0_put_26 (by decide) ?_
    refine lv_icmp_ne (tgt := 44) F.1 F.2.1 dX0_put_28 (by decide) (fun k2 => ?_) (fun k2 => ?_)
    · refine lv_aload_n F.1 F.2.1 dX0_put_44 rfl (lv_at hl 0 rfl) ?_
      refine g_get F hX hP hin0 0 rfl rfl 2 (by decide) (mm 2 rfl) rfl dX0_put_45 ?_
      refine lv_iload_n F.1 F.2.1 dX0_put_48 rfl (lv_at hl 1 rfl) ?_
      refine lv_lload_n F.1 F.2.1 dX0_put_49 rfl (lv_at hl 2 rfl) ?_
      refine g_last F hX hP hD hS 1 rfl (j := j) (rfl) (by omega) (by decide) dX0_put_50 (fun H locs hP hD hS => ?_)
      have hP : va_P (eD E) vwCl [(sa, .inr (0, [.int bt_, .int (nI Z), .ref nb])), (nb, .inl (eJ E, 40, .inr (.inl (vp_updL nu j v))))] H := hP
      have hD : va_D A [(sa, .inr (0, [.int bt_, .int (nI Z), .ref nb])), (nb, .inl (eJ E, 40, .inr (.inl (vp_updL nu j v))))] := hD
      exact g_retv F hr hlk hS hP hD (()) (by unfold cutC; first | (rw [if_pos k2]; done) | (rw [if_neg k1, if_pos k2]; done) | (rw [if_neg k1, if_neg k2]; done)) (trivial) dX0_put_51
    · refine lv_aload_n F.1 F.2.1 dX0_put_31 rfl (lv_at hl 0 rfl) ?_
      refine g_get F hX hP hin0 0 rfl rfl 2 (by decide) (mm 2 rfl) rfl dX0_put_32 ?_
      refine lv_iload_n F.1 F.2.1 dX0_put_35 rfl (lv_at hl 1 rfl) ?_
      refine lv_lload_n F.1 F.2.1 dX0_put_36 rfl (lv_at hl 2 rfl) ?_
      refine lv_l2i (v := (v : Int64).toInt32) F.1 F.2.1 dX0_put_37 rfl ?_
      refine lv_i2s (v := ((v : Int64).toInt32 : Int32).toInt16.toInt32) F.1 F.2.1 dX0_put_38 rfl ?_
      refine lv_i2l (v := (((v : Int64).toInt32 : Int32).toInt16.toInt32 : Int32).toInt64) F.1 F.2.1 dX0_put_39 rfl ?_
      refine g_last F hX hP hD hS 1 rfl (j := j) (rfl) (by omega) (by decide) dX0_put_40 (fun H locs hP hD hS => ?_)
      have hP : va_P (eD E) vwCl [(sa, .inr (0, [.int bt_, .int (nI Z), .ref nb])), (nb, .inl (eJ E, 40, .inr (.inl (vp_updL nu j ((((v : Int64).toInt32 : Int32).toInt16.toInt32 : Int32).toInt64)))))] H := hP
      have hD : va_D A [(sa, .inr (0, [.int bt_, .int (nI Z), .ref nb])), (nb, .inl (eJ E, 40, .inr (.inl (vp_updL nu j ((((v : Int64).toInt32 : Int32).toInt16.toInt32 : Int32).toInt64)))))] := hD
      refine lv_goto (tgt := 51) F.1 F.2.1 dX0_put_41 (by decide) ?_
      exact g_retv F hr hlk hS hP hD (()) (by unfold cutC; first | (rw [if_pos k2]; done) | (rw [if_neg k1, if_pos k2]; done) | (rw [if_neg k1, if_neg k2]; done)) (trivial) dX0_put_51
  · refine lv_aload_n F.1 F.2.1 dX0_put_9 rfl (lv_at hl 0 rfl) ?_
    refine g_get F hX hP hin0 0 rfl rfl 2 (by decide) (mm 2 rfl) rfl dX0_put_10 ?_
    refine lv_iload_n F.1 F.2.1 dX0_put_13 rfl (lv_at hl 1 rfl) ?_
    refine lv_lload_n F.1 F.2.1 dX0_put_14 rfl (lv_at hl 2 rfl) ?_
    refine lv_l2i (v := (v : Int64).toInt32) F.1 F.2.1 dX0_put_15 rfl ?_
    refine lv_i2b (v := ((v : Int64).toInt32 : Int32).toInt8.toInt32) F.1 F.2.1 dX0_put_16 rfl ?_
    refine lv_i2l (v := (((v : Int64).toInt32 : Int32).toInt8.toInt32 : Int32).toInt64) F.1 F.2.1 dX0_put_17 rfl ?_
    refine g_last F hX hP hD hS 1 rfl (j := j) (rfl) (by omega) (by decide) dX0_put_18 (fun H locs hP hD hS => ?_)
    have hP : va_P (eD E) vwCl [(sa, .inr (0, [.int bt_, .int (nI Z), .ref nb])), (nb, .inl (eJ E, 40, .inr (.inl (vp_updL nu j ((((v : Int64).toInt32 : Int32).toInt8.toInt32 : Int32).toInt64)))))] H := hP
    have hD : va_D A [(sa, .inr (0, [.int bt_, .int (nI Z), .ref nb])), (nb, .inl (eJ E, 40, .inr (.inl (vp_updL nu j ((((v : Int64).toInt32 : Int32).toInt8.toInt32 : Int32).toInt64)))))] := hD
    refine lv_goto (tgt := 51) F.1 F.2.1 dX0_put_19 (by decide) ?_
    exact g_retv F hr hlk hS hP hD (()) (by unfold cutC; first | (rw [if_pos k1]; done) | (rw [if_neg k1, if_pos k1]; done) | (rw [if_neg k1, if_neg k1]; done)) (trivial) dX0_put_51
set_option maxHeartbeats 4000000 in
set_option maxRecDepth 100000 in
theorem c_X0_hasRow (l : Launch) (E : gE) (sa : Nat) (bt_ : Int32) (Z : Nat) (nb : Nat) (f : Int32) (n : Int32) : gI l yX0_hasRow wsX0_hasRow ({ frames := 0, cells := 0, slots := 0, locals := 0 }) E [(sa, .inr (0, [.int bt_, .int (nI Z), .ref nb]))] (fun _ : Unit => [(sa, .inr (0, [.int bt_, .int (nI Z), .ref nb]))]) [.ref sa, .int f, .int n] (fun (r : Int32) (_ : Unit) => r = bi (hrC f n Z)) := by
  have hin0 : ∀ w ∈ wsX00, w ∈ wsX0_hasRow := (fun _ h => (List.mem_cons_of_mem _ (List.mem_append_right _ h)))
  refine gI.of (cc := cX0_hasRow) (maxL := 3) (by decide) rfl (Nat.le_of_ble_eq_true rfl) ?_
  intro pG eG sG mG below meth cG A ls H locs F hr hlk hX hP hD hA hS hl
  have hl : lv_has ls 3 [(0, .ref sa), (1, .int f), (2, .int n)] := hl
  refine lv_iload_n F.1 F.2.1 dX0_hasRow_0 rfl (lv_at hl 1 rfl) ?_
  refine lv_if_lt (tgt := 30) F.1 F.2.1 dX0_hasRow_1 (by decide) (fun k1 => ?_) (fun k1 => ?_)
  · refine lv_iconst (v := 0) F.1 F.2.1 dX0_hasRow_30 (by decide) ?_
    exact g_reti F hr hlk rfl hS hP hD (()) (rfl) (by simp [hrC, bi, k1]) dX0_hasRow_31
  · refine lv_iload_n F.1 F.2.1 dX0_hasRow_4 rfl (lv_at hl 2 rfl) ?_
    refine lv_if_lt (tgt := 30) F.1 F.2.1 dX0_hasRow_5 (by decide) (fun k2 => ?_) (fun k2 => ?_)
    · refine lv_iconst (v := 0) F.1 F.2.1 dX0_hasRow_30 (by decide) ?_
      exact g_reti F hr hlk rfl hS hP hD (()) (rfl) (by simp [hrC, bi, k1, k2]) dX0_hasRow_31
    · refine lv_iload_n F.1 F.2.1 dX0_hasRow_8 rfl (lv_at hl 2 rfl) ?_
      refine lv_aload_n F.1 F.2.1 dX0_hasRow_9 rfl (lv_at hl 0 rfl) ?_
      refine g_get F hX hP hin0 0 rfl rfl 1 (by decide) (mm 1 rfl) rfl dX0_hasRow_10 ?_
      refine lv_icmp_gt (tgt := 30) F.1 F.2.1 dX0_hasRow_13 (by decide) (fun k3 => ?_) (fun k3 => ?_)
      · refine lv_iconst (v := 0) F.1 F.2.1 dX0_hasRow_30 (by decide) ?_
        exact g_reti F hr hlk rfl hS hP hD (()) (rfl) (by simp [hrC, bi, k1, k2, k3]) dX0_hasRow_31
      · refine lv_iload_n F.1 F.2.1 dX0_hasRow_16 rfl (lv_at hl 1 rfl) ?_
        refine lv_aload_n F.1 F.2.1 dX0_hasRow_17 rfl (lv_at hl 0 rfl) ?_
        refine g_get F hX hP hin0 0 rfl rfl 1 (by decide) (mm 1 rfl) rfl dX0_hasRow_18 ?_
        refine lv_iload_n F.1 F.2.1 dX0_hasRow_21 rfl (lv_at hl 2 rfl) ?_
        refine lv_isub F.1 F.2.1 dX0_hasRow_22 ?_
        refine lv_icmp_gt (tgt := 30) F.1 F.2.1 dX0_hasRow_23 (by decide) (fun k4 => ?_) (fun k4 => ?_)
        · refine lv_iconst (v := 0) F.1 F.2.1 dX0_hasRow_30 (by decide) ?_
          exact g_reti F hr hlk rfl hS hP hD (()) (rfl) (by simp [hrC, bi, k1, k2, k3, k4]) dX0_hasRow_31
        · refine lv_iconst (v := 1) F.1 F.2.1 dX0_hasRow_26 (by decide) ?_
          refine lv_goto (tgt := 31) F.1 F.2.1 dX0_hasRow_27 (by decide) ?_
          exact g_reti F hr hlk rfl hS hP hD (()) (rfl) (by simp [hrC, bi, k1, k2, k3, k4]) dX0_hasRow_31
set_option maxHeartbeats 4000000 in
set_option maxRecDepth 100000 in
theorem c_X3_isWidthOfNumbers (l : Launch) (E : gE) (b : Int32) : gI l yX3_isWidthOfNumbers wsX3_isWidthOfNumbers ({ frames := 0, cells := 0, slots := 0, locals := 0 }) E [] (fun _ : Unit => []) [.int b] (fun (r : Int32) (_ : Unit) => r = bi (isW b)) := by
  refine gI.of (cc := cX3_isWidthOfNumbers) (maxL := 1) (by decide) rfl (Nat.le_of_ble_eq_true rfl) ?_
  intro pG eG sG mG below meth cG A ls H locs F hr hlk hX hP hD hA hS hl
  have hl : lv_has ls 1 [(0, .int b)] := hl
  refine lv_iload_n F.1 F.2.1 dX3_isWidthOfNumbers_0 rfl (lv_at hl 0 rfl) ?_
  refine lv_if_eq (tgt := 22) F.1 F.2.1 dX3_isWidthOfNumbers_1 (by decide) (fun k1 => ?_) (fun k1 => ?_)
  · refine lv_iconst (v := 1) F.1 F.2.1 dX3_isWidthOfNumbers_22 (by decide) ?_
    refine lv_goto (tgt := 27) F.1 F.2.1 dX3_isWidthOfNumbers_23 (by decide) ?_
    exact g_reti F hr hlk rfl hS hP hD (()) (rfl) (by simp [isW, bi, k1]) dX3_isWidthOfNumbers_27
  · refine lv_iload_n F.1 F.2.1 dX3_isWidthOfNumbers_4 rfl (lv_at hl 0 rfl) ?_
    refine lv_bipush (v := 8) F.1 F.2.1 dX3_isWidthOfNumbers_5 (by decide) ?_
    refine lv_icmp_eq (tgt := 22) F.1 F.2.1 dX3_isWidthOfNumbers_7 (by decide) (fun k2 => ?_) (fun k2 => ?_)
    · refine lv_iconst (v := 1) F.1 F.2.1 dX3_isWidthOfNumbers_22 (by decide) ?_
      refine lv_goto (tgt := 27) F.1 F.2.1 dX3_isWidthOfNumbers_23 (by decide) ?_
      exact g_reti F hr hlk rfl hS hP hD (()) (rfl) (by simp [isW, bi, k1, k2]) dX3_isWidthOfNumbers_27
    · refine lv_iload_n F.1 F.2.1 dX3_isWidthOfNumbers_10 rfl (lv_at hl 0 rfl) ?_
      refine lv_bipush (v := 16) F.1 F.2.1 dX3_isWidthOfNumbers_11 (by decide) ?_
      refine lv_icmp_eq (tgt := 22) F.1 F.2.1 dX3_isWidthOfNumbers_13 (by decide) (fun k3 => ?_) (fun k3 => ?_)
      · refine lv_iconst (v := 1) F.1 F.2.1 dX3_isWidthOfNumbers_22 (by decide) ?_
        refine lv_goto (tgt := 27) F.1 F.2.1 dX3_isWidthOfNumbers_23 (by decide) ?_
        exact g_reti F hr hlk rfl hS hP hD (()) (rfl) (by simp [isW, bi, k1, k2, k3]) dX3_isWidthOfNumbers_27
      · refine lv_iload_n F.1 F.2.1 dX3_isWidthOfNumbers_16 rfl (lv_at hl 0 rfl) ?_
        refine lv_bipush (v := 64) F.1 F.2.1 dX3_isWidthOfNumbers_17 (by decide) ?_
        refine lv_icmp_ne (tgt := 26) F.1 F.2.1 dX3_isWidthOfNumbers_19 (by decide) (fun k4 => ?_) (fun k4 => ?_)
        · refine lv_iconst (v := 0) F.1 F.2.1 dX3_isWidthOfNumbers_26 (by decide) ?_
          exact g_reti F hr hlk rfl hS hP hD (()) (rfl) (by simp [isW, bi, k1, k2, k3, k4]) dX3_isWidthOfNumbers_27
        · refine lv_iconst (v := 1) F.1 F.2.1 dX3_isWidthOfNumbers_22 (by decide) ?_
          refine lv_goto (tgt := 27) F.1 F.2.1 dX3_isWidthOfNumbers_23 (by decide) ?_
          exact g_reti F hr hlk rfl hS hP hD (()) (rfl) (by simp [isW, bi, k1, k2, k3, k4]) dX3_isWidthOfNumbers_27
