/-! small static methods of the class and of the reference -/
def inR (v a b : Int32) : Bool := !decide (v < a) && !decide (b < v)
set_option maxHeartbeats 4000000 in
set_option maxRecDepth 100000 in
theorem c_X3_isWithin (l : Launch) (E : gE) (v : Int32) (a : Int32) (b : Int32) : gI l yX3_isWithin wsX3_isWithin ({ frames := 0, cells := 0, slots := 0, locals := 0 }) E [] (fun _ : Unit => []) [.int v, .int a, .int b] (fun (r : Int32) (_ : Unit) => r = bi (inR v a b)) := by
  refine gI.of (cc := cX3_isWithin) (maxL := 3) (by decide) rfl (Nat.le_of_ble_eq_true rfl) ?_
  intro pG eG sG mG below meth cG A ls H locs F hr hlk hX hP hD hA hS hl
  have hl : lv_has ls 3 [(0, .int v), (1, .int a), (2, .int b)] := hl
  refine lv_iload_n F.1 F.2.1 dX3_isWithin_0 rfl (lv_at hl 0 rfl) ?_
  refine lv_iload_n F.1 F.2.1 dX3_isWithin_1 rfl (lv_at hl 1 rfl) ?_
  refine lv_icmp_lt (tgt := 14) F.1 F.2.1 dX3_isWithin_2 (by decide) (fun k1 => ?_) (fun k1 => ?_)
  · refine lv_iconst (v := 0) F.1 F.2.1 dX3_isWithin_14 (by decide) ?_
    exact g_reti F hr hlk rfl hS hP hD (()) (rfl) (by simp [inR, bi, k1]) dX3_isWithin_15
  · refine lv_iload_n F.1 F.2.1 dX3_isWithin_5 rfl (lv_at hl 0 rfl) ?_
    refine lv_iload_n F.1 F.2.1 dX3_isWithin_6 rfl (lv_at hl 2 rfl) ?_
    refine lv_icmp_gt (tgt := 14) F.1 F.2.1 dX3_isWithin_7 (by decide) (fun k2 => ?_) (fun k2 => ?_)
    · refine lv_iconst (v := 0) F.1 F.2.1 dX3_isWithin_14 (by decide) ?_
      exact g_reti F hr hlk rfl hS hP hD (()) (rfl) (by simp [inR, bi, k1, k2]) dX3_isWithin_15
    · refine lv_iconst (v := 1) F.1 F.2.1 dX3_isWithin_10 (by decide) ?_
      refine lv_goto (tgt := 15) F.1 F.2.1 dX3_isWithin_11 (by decide) ?_
      exact g_reti F hr hlk rfl hS hP hD (()) (rfl) (by simp [inR, bi, k1, k2]) dX3_isWithin_15
set_option maxHeartbeats 4000000 in
set_option maxRecDepth 100000 in
theorem c_X3_isHouse (l : Launch) (E : gE) (v : Int32) : gI l yX3_isHouse wsX3_isHouse ({ frames := 1, cells := 0, slots := 0, locals := 22 }) E [] (fun _ : Unit => []) [.int v] (fun (r : Int32) (_ : Unit) => r = bi (inR v 0 29)) := by
  refine gI.of (cc := cX3_isHouse) (maxL := 1) (by decide) rfl (Nat.le_of_ble_eq_true rfl) ?_
  intro pG eG sG mG below meth cG A ls H locs F hr hlk hX hP hD hA hS hl
  have hl : lv_has ls 1 [(0, .int v)] := hl
  refine lv_iload_n F.1 F.2.1 dX3_isHouse_0 rfl (lv_at hl 0 rfl) ?_
  refine lv_iconst (v := 0) F.1 F.2.1 dX3_isHouse_1 (by decide) ?_
  refine lv_bipush (v := 29) F.1 F.2.1 dX3_isHouse_2 (by decide) ?_
  refine g_goIr (g_runS (As := [.int v, .int 0, .int 29]) (rest := []) F hX hP hD hS hA (c_X3_isWithin l E v 0 29 H.size) (va_cwS 3 F.2.2.2.2 gX3_isHouse_X3_isWithin rfl rfl rfl (by decide +kernel) ⟨Nat.le_of_ble_eq_true rfl, Nat.le_of_ble_eq_true rfl⟩) [] rfl rfl rfl hl.1 rfl (Nat.le_of_ble_eq_true rfl) dX3_isHouse_4 ⟨Nat.le_refl _, Nat.le_refl _⟩) hP hD hS hA [] rfl (fun r _ H locs hq hP hS => ?_)
  subst hq
  exact g_reti F hr hlk (bi_nar _) hS hP hD (()) (rfl) (rfl) dX3_isHouse_7
set_option maxHeartbeats 4000000 in
set_option maxRecDepth 100000 in
theorem c_X3_isKind (l : Launch) (E : gE) (v : Int32) : gI l yX3_isKind wsX3_isKind ({ frames := 1, cells := 0, slots := 0, locals := 22 }) E [] (fun _ : Unit => []) [.int v] (fun (r : Int32) (_ : Unit) => r = bi (inR v 0 5)) := by
  refine gI.of (cc := cX3_isKind) (maxL := 1) (by decide) rfl (Nat.le_of_ble_eq_true rfl) ?_
  intro pG eG sG mG below meth cG A ls H locs F hr hlk hX hP hD hA hS hl
  have hl : lv_has ls 1 [(0, .int v)] := hl
  refine lv_iload_n F.1 F.2.1 dX3_isKind_0 rfl (lv_at hl 0 rfl) ?_
  refine lv_iconst (v := 0) F.1 F.2.1 dX3_isKind_1 (by decide) ?_
  refine lv_iconst (v := 5) F.1 F.2.1 dX3_isKind_2 (by decide) ?_
  refine g_goIr (g_runS (As := [.int v, .int 0, .int 5]) (rest := []) F hX hP hD hS hA (c_X3_isWithin l E v 0 5 H.size) (va_cwS 3 F.2.2.2.2 gX3_isKind_X3_isWithin rfl rfl rfl (by decide +kernel) ⟨Nat.le_of_ble_eq_true rfl, Nat.le_of_ble_eq_true rfl⟩) [] rfl rfl rfl hl.1 rfl (Nat.le_of_ble_eq_true rfl) dX3_isKind_3 ⟨Nat.le_refl _, Nat.le_refl _⟩) hP hD hS hA [] rfl (fun r _ H locs hq hP hS => ?_)
  subst hq
  exact g_reti F hr hlk (bi_nar _) hS hP hD (()) (rfl) (rfl) dX3_isKind_6
set_option maxHeartbeats 4000000 in
set_option maxRecDepth 100000 in
theorem c_X3_isSheet (l : Launch) (E : gE) (v : Int32) : gI l yX3_isSheet wsX3_isSheet ({ frames := 1, cells := 0, slots := 0, locals := 22 }) E [] (fun _ : Unit => []) [.int v] (fun (r : Int32) (_ : Unit) => r = bi (inR v 0 3)) := by
  refine gI.of (cc := cX3_isSheet) (maxL := 1) (by decide) rfl (Nat.le_of_ble_eq_true rfl) ?_
  intro pG eG sG mG below meth cG A ls H locs F hr hlk hX hP hD hA hS hl
  have hl : lv_has ls 1 [(0, .int v)] := hl
  refine lv_iload_n F.1 F.2.1 dX3_isSheet_0 rfl (lv_at hl 0 rfl) ?_
  refine lv_iconst (v := 0) F.1 F.2.1 dX3_isSheet_1 (by decide) ?_
  refine lv_iconst (v := 3) F.1 F.2.1 dX3_isSheet_2 (by decide) ?_
  refine g_goIr (g_runS (As := [.int v, .int 0, .int 3]) (rest := []) F hX hP hD hS hA (c_X3_isWithin l E v 0 3 H.size) (va_cwS 3 F.2.2.2.2 gX3_isSheet_X3_isWithin rfl rfl rfl (by decide +kernel) ⟨Nat.le_of_ble_eq_true rfl, Nat.le_of_ble_eq_true rfl⟩) [] rfl rfl rfl hl.1 rfl (Nat.le_of_ble_eq_true rfl) dX3_isSheet_3 ⟨Nat.le_refl _, Nat.le_refl _⟩) hP hD hS hA [] rfl (fun r _ H locs hq hP hS => ?_)
  subst hq
  exact g_reti F hr hlk (bi_nar _) hS hP hD (()) (rfl) (rfl) dX3_isSheet_6
set_option maxHeartbeats 4000000 in
set_option maxRecDepth 100000 in
theorem c_X3_held (l : Launch) (E : gE) (v : Int32) (a : Int32) (b : Int32) : gI l yX3_held wsX3_held ({ frames := 1, cells := 0, slots := 0, locals := 14 }) E [] (fun _ : Unit => []) [.int v, .int a, .int b] (fun (r : Int32) (_ : Unit) => r = iMax a (iMin b v)) := by
  refine gI.of (cc := cX3_held) (maxL := 3) (by decide) rfl (Nat.le_of_ble_eq_true rfl) ?_
  intro pG eG sG mG below meth cG A ls H locs F hr hlk hX hP hD hA hS hl
  have hl : lv_has ls 3 [(0, .int v), (1, .int a), (2, .int b)] := hl
  refine lv_iload_n F.1 F.2.1 dX3_held_0 rfl (lv_at hl 1 rfl) ?_
  refine lv_iload_n F.1 F.2.1 dX3_held_1 rfl (lv_at hl 2 rfl) ?_
  refine lv_iload_n F.1 F.2.1 dX3_held_2 rfl (lv_at hl 0 rfl) ?_
  refine g_mmin F hl (mm 1 rfl) (mm 2 rfl) (mm 3 rfl) (mm 4 rfl) (Nat.le_of_ble_eq_true rfl) (Nat.le_of_ble_eq_true rfl) dX3_held_3 ?_
  refine g_mmax F hl (mm 5 rfl) (mm 6 rfl) (mm 3 rfl) (mm 7 rfl) (Nat.le_of_ble_eq_true rfl) (Nat.le_of_ble_eq_true rfl) dX3_held_6 ?_
  exact g_reti F hr hlk (vp_nar_int _) hS hP hD (()) (rfl) (rfl) dX3_held_9
