set_option maxHeartbeats 4000000 in
set_option maxRecDepth 100000 in
theorem c_X2_init (l : Launch) (E : gE) (h : Nat) : gN l yX2_init wsX2_init ({ frames := 1, cells := 5, slots := 62, locals := 12 }) E [(h, .inr (2, [.int 0, .int 0, .int 0, .int 0, .null, .int 0, .null, .null, .null, .null, .int 0]))] (fun u : Nat × Nat × Nat × Nat × Nat => [(h, .inr (2, [.int 0, .int 30, .int 3, .int 1, .ref u.1, .int (nI 0), .ref u.2.1, .ref u.2.2.1, .ref u.2.2.2.1, .ref u.2.2.2.2, .int 0])), (u.1, .inl (eI E, 30, .inl no0)), (u.2.1, .inl (eI E, 8, .inl (fun _ => 0))), (u.2.2.1, .inl (eI E, 8, .inl (fun _ => 0))), (u.2.2.2.1, .inl (eI E, 8, .inl (fun _ => 0))), (u.2.2.2.2, .inl (eI E, 8, .inl (fun _ => 0)))]) [.ref h] 5 62 := by
  have hin2 : ∀ w ∈ wsX20, w ∈ wsX2_init := (fun _ h => (List.mem_cons_of_mem _ (List.mem_append_right _ h)))
  refine gN.of (cc := cX2_init) (maxL := 2) (by decide) rfl (Nat.le_of_ble_eq_true rfl) rfl ?_
  intro pG eG sG mG below meth cG A ls H locs F hr hlk hnm hX hAO hP hD hA hS hl
  have hl : lv_has ls 2 [(0, .ref h)] := hl
  refine lv_aload_n F.1 F.2.1 dX2_init_0 rfl (lv_at hl 0 rfl) ?_
  refine g_oinit F hl (mm 1 rfl) (mm 2 rfl) (mm 3 rfl) (Nat.le_of_ble_eq_true rfl) (Nat.le_of_ble_eq_true rfl) dX2_init_1 ?_
  refine lv_aload_n F.1 F.2.1 dX2_init_4 rfl (lv_at hl 0 rfl) ?_
  refine lv_iconst (v := 0) F.1 F.2.1 dX2_init_5 (by decide) ?_
  refine g_put F hX hP hD hS hin2 tyX2 tyX2_ok nmX2 0 rfl rfl 0 (by decide) (mm 4 rfl) rfl (rfl) (rfl) (Nat.le_of_ble_eq_true rfl) dX2_init_6 (fun H locs hP hD hS => ?_)
  have hP : va_P (eD E) vwCl [(h, .inr (2, [.int 0, .int 0, .int 0, .int 0, .null, .int 0, .null, .null, .null, .null, .int 0]))] H := hP
  have hD : va_D A [(h, .inr (2, [.int 0, .int 0, .int 0, .int 0, .null, .int 0, .null, .null, .null, .null, .int 0]))] := hD
  refine lv_aload_n F.1 F.2.1 dX2_init_9 rfl (lv_at hl 0 rfl) ?_
  refine lv_bipush (v := 30) F.1 F.2.1 dX2_init_10 (by decide) ?_
  refine g_put F hX hP hD hS hin2 tyX2 tyX2_ok nmX2 0 rfl rfl 1 (by decide) (mm 5 rfl) rfl (rfl) (rfl) (Nat.le_of_ble_eq_true rfl) dX2_init_12 (fun H locs hP hD hS => ?_)
  have hP : va_P (eD E) vwCl [(h, .inr (2, [.int 0, .int 30, .int 0, .int 0, .null, .int 0, .null, .null, .null, .null, .int 0]))] H := hP
  have hD : va_D A [(h, .inr (2, [.int 0, .int 30, .int 0, .int 0, .null, .int 0, .null, .null, .null, .null, .int 0]))] := hD
  refine lv_aload_n F.1 F.2.1 dX2_init_15 rfl (lv_at hl 0 rfl) ?_
  refine lv_iconst (v := 3) F.1 F.2.1 dX2_init_16 (by decide) ?_
  refine g_put F hX hP hD hS hin2 tyX2 tyX2_ok nmX2 0 rfl rfl 2 (by decide) (mm 6 rfl) rfl (rfl) (rfl) (Nat.le_of_ble_eq_true rfl) dX2_init_17 (fun H locs hP hD hS => ?_)
  have hP : va_P (eD E) vwCl [(h, .inr (2, [.int 0, .int 30, .int 3, .int 0, .null, .int 0, .null, .null, .null, .null, .int 0]))] H := hP
  have hD : va_D A [(h, .inr (2, [.int 0, .int 30, .int 3, .int 0, .null, .int 0, .null, .null, .null, .null, .int 0]))] := hD
  refine lv_aload_n F.1 F.2.1 dX2_init_20 rfl (lv_at hl 0 rfl) ?_
  refine lv_iconst (v := 1) F.1 F.2.1 dX2_init_21 (by decide) ?_
  refine g_put F hX hP hD hS hin2 tyX2 tyX2_ok nmX2 0 rfl rfl 3 (by decide) (mm 7 rfl) rfl (rfl) (rfl) (Nat.le_of_ble_eq_true rfl) dX2_init_22 (fun H locs hP hD hS => ?_)
  have hP : va_P (eD E) vwCl [(h, .inr (2, [.int 0, .int 30, .int 3, .int 1, .null, .int 0, .null, .null, .null, .null, .int 0]))] H := hP
  have hD : va_D A [(h, .inr (2, [.int 0, .int 30, .int 3, .int 1, .null, .int 0, .null, .null, .null, .null, .int 0]))] := hD
  refine lv_aload_n F.1 F.2.1 dX2_init_25 rfl (lv_at hl 0 rfl) ?_
  refine lv_bipush (v := 30) F.1 F.2.1 dX2_init_26 (by decide) ?_
  refine g_newI F hX hP hD hS hA (mm 8 rfl) (N := 30) (by decide) (by decide) (Nat.le_of_ble_eq_true rfl) (Nat.le_of_ble_eq_true rfl) dX2_init_28 (fun q_1 H hP hD hS => ?_)
  have hP : va_P (eD E) vwCl [(h, .inr (2, [.int 0, .int 30, .int 3, .int 1, .null, .int 0, .null, .null, .null, .null, .int 0])), (q_1, .inl (eI E, 30, .inl (fun _ => 0)))] H := hP
  have hD : va_D A [(h, .inr (2, [.int 0, .int 30, .int 3, .int 1, .null, .int 0, .null, .null, .null, .null, .int 0])), (q_1, .inl (eI E, 30, .inl (fun _ => 0)))] := hD
  refine W.widen (k := 1) (n := 30) (Nat.le_of_ble_eq_true rfl) (Nat.le_of_ble_eq_true rfl) ?_
  refine g_putF F hX hP hD hS hnm hin2 tyX2 tyX2_ok nmX2 0 rfl rfl 4 (by decide) (mm 9 rfl) rfl rfl rfl rfl (Nat.le_of_ble_eq_true rfl) dX2_init_30 (fun H locs hP hD hS => ?_)
  have hP : va_P (eD E) vwCl [(h, .inr (2, [.int 0, .int 30, .int 3, .int 1, .ref q_1, .int 0, .null, .null, .null, .null, .int 0])), (q_1, .inl (eI E, 30, .inl (fun _ => 0)))] H := hP
  have hD : va_D A [(h, .inr (2, [.int 0, .int 30, .int 3, .int 1, .ref q_1, .int 0, .null, .null, .null, .null, .int 0])), (q_1, .inl (eI E, 30, .inl (fun _ => 0)))] := hD
  refine lv_iconst (v := 0) F.1 F.2.1 dX2_init_33 (by decide) ?_
  refine lv_istore_n (lv' := [(1, .int 0), (0, .ref h)]) F.1 F.2.1 dX2_init_34 rfl hl (by decide) rfl (fun ls hl => ?_)
  have lp35 : ∀ (fu i : Nat), i ≤ 30 → 30 + 1 ≤ i + fu → ∀ (H : Heap) (locs : List Loc) (ls : Array Slot), va_P (eD E) vwCl [(h, .inr (2, [.int 0, .int 30, .int 3, .int 1, .ref q_1, .int 0, .null, .null, .null, .null, .int 0])), (q_1, .inl (eI E, 30, .inl (mix no0 (fun _ => 0) i)))] H → va_D A [(h, .inr (2, [.int 0, .int 30, .int 3, .int 1, .ref q_1, .int 0, .null, .null, .null, .null, .int 0])), (q_1, .inl (eI E, 30, .inl (mix no0 (fun _ => 0) i)))] → va_S A sG.heap H locs → lv_has ls 2 [(1, .int (nI i)), (0, .ref h)] → W pG l eG { frames := 1, cells := 5, slots := 62, locals := 12 } sG mG [.ref h].toArray below meth cG H locs 1 30 (MQ below (va_Qv (fun _ : Nat × Nat × Nat × Nat × Nat => True) (gR E (fun u : Nat × Nat × Nat × Nat × Nat => [(h, .inr (2, [.int 0, .int 30, .int 3, .int 1, .ref u.1, .int (nI 0), .ref u.2.1, .ref u.2.2.1, .ref u.2.2.2.1, .ref u.2.2.2.2, .int 0])), (u.1, .inl (eI E, 30, .inl no0)), (u.2.1, .inl (eI E, 8, .inl (fun _ => 0))), (u.2.2.1, .inl (eI E, 8, .inl (fun _ => 0))), (u.2.2.2.1, .inl (eI E, 8, .inl (fun _ => 0))), (u.2.2.2.2, .inl (eI E, 8, .inl (fun _ => 0)))]) A) A) [.ref h].toArray sG 5 62 A) (F0 mG 35 ls []) := by
    intro fu
    induction fu with
    | zero => intro i h1 h2; exact absurd h2 (by omega)
    | succ fu ih =>
      intro i hi hin   H locs ls hP hD hS hl
      refine lv_iload_n F.1 F.2.1 dX2_init_35 rfl (lv_at hl 0 rfl) ?_
      refine lv_bipush (v := 30) F.1 F.2.1 dX2_init_36 (by decide) ?_
      refine lv_icmp_ge (tgt := 59) F.1 F.2.1 dX2_init_38 (by decide) (fun k1 => ?_) (fun k1 => ?_)
      · have hiN : 30 = i := Nat.le_antisymm ((nI_leI (by omega) (by omega)).mp k1) hi
        subst hiN
        have hP : va_P (eD E) vwCl [(h, .inr (2, [.int 0, .int 30, .int 3, .int 1, .ref q_1, .int 0, .null, .null, .null, .null, .int 0])), (q_1, .inl (eI E, 30, .inl no0))] H := g_ext hP 1 (no0) rfl (fun j hj => if_pos hj)
        have hD : va_D A [(h, .inr (2, [.int 0, .int 30, .int 3, .int 1, .ref q_1, .int 0, .null, .null, .null, .null, .int 0])), (q_1, .inl (eI E, 30, .inl no0))] := hD.set (p := 1) rfl
        refine lv_aload_n F.1 F.2.1 dX2_init_59 rfl (lv_at hl 1 rfl) ?_
        refine lv_iconst (v := 0) F.1 F.2.1 dX2_init_60 (by decide) ?_
        refine g_put F hX hP hD hS hin2 tyX2 tyX2_ok nmX2 0 rfl rfl 5 (by decide) (mm 10 rfl) rfl (rfl) (rfl) (Nat.le_of_ble_eq_true rfl) dX2_init_61 (fun H locs hP hD hS => ?_)
        have hP : va_P (eD E) vwCl [(h, .inr (2, [.int 0, .int 30, .int 3, .int 1, .ref q_1, .int 0, .null, .null, .null, .null, .int 0])), (q_1, .inl (eI E, 30, .inl no0))] H := hP
        have hD : va_D A [(h, .inr (2, [.int 0, .int 30, .int 3, .int 1, .ref q_1, .int 0, .null, .null, .null, .null, .int 0])), (q_1, .inl (eI E, 30, .inl no0))] := hD
        refine lv_aload_n F.1 F.2.1 dX2_init_64 rfl (lv_at hl 1 rfl) ?_
        refine lv_bipush (v := 8) F.1 F.2.1 dX2_init_65 (by decide) ?_
        refine g_newI F hX hP hD hS hA (mm 8 rfl) (N := 8) (by decide) (by decide) (Nat.le_of_ble_eq_true rfl) (Nat.le_of_ble_eq_true rfl) dX2_init_67 (fun q_2 H hP hD hS => ?_)
        have hP : va_P (eD E) vwCl [(h, .inr (2, [.int 0, .int 30, .int 3, .int 1, .ref q_1, .int 0, .null, .null, .null, .null, .int 0])), (q_1, .inl (eI E, 30, .inl no0)), (q_2, .inl (eI E, 8, .inl (fun _ => 0)))] H := hP
        have hD : va_D A [(h, .inr (2, [.int 0, .int 30, .int 3, .int 1, .ref q_1, .int 0, .null, .null, .null, .null, .int 0])), (q_1, .inl (eI E, 30, .inl no0)), (q_2, .inl (eI E, 8, .inl (fun _ => 0)))] := hD
        refine W.widen (k := 2) (n := 38) (Nat.le_of_ble_eq_true rfl) (Nat.le_of_ble_eq_true rfl) ?_
        refine g_putF F hX hP hD hS hnm hin2 tyX2 tyX2_ok nmX2 0 rfl rfl 6 (by decide) (mm 11 rfl) rfl rfl rfl rfl (Nat.le_of_ble_eq_true rfl) dX2_init_69 (fun H locs hP hD hS => ?_)
        have hP : va_P (eD E) vwCl [(h, .inr (2, [.int 0, .int 30, .int 3, .int 1, .ref q_1, .int 0, .ref q_2, .null, .null, .null, .int 0])), (q_1, .inl (eI E, 30, .inl no0)), (q_2, .inl (eI E, 8, .inl (fun _ => 0)))] H := hP
        have hD : va_D A [(h, .inr (2, [.int 0, .int 30, .int 3, .int 1, .ref q_1, .int 0, .ref q_2, .null, .null, .null, .int 0])), (q_1, .inl (eI E, 30, .inl no0)), (q_2, .inl (eI E, 8, .inl (fun _ => 0)))] := hD
        refine lv_aload_n F.1 F.2.1 dX2_init_72 rfl (lv_at hl 1 rfl) ?_
        refine lv_bipush (v := 8) F.1 F.2.1 dX2_init_73 (by decide) ?_
        refine g_newI F hX hP hD hS hA (mm 8 rfl) (N := 8) (by decide) (by decide) (Nat.le_of_ble_eq_true rfl) (Nat.le_of_ble_eq_true rfl) dX2_init_75 (fun q_3 H hP hD hS => ?_)
        have hP : va_P (eD E) vwCl [(h, .inr (2, [.int 0, .int 30, .int 3, .int 1, .ref q_1, .int 0, .ref q_2, .null, .null, .null, .int 0])), (q_1, .inl (eI E, 30, .inl no0)), (q_2, .inl (eI E, 8, .inl (fun _ => 0))), (q_3, .inl (eI E, 8, .inl (fun _ => 0)))] H := hP
        have hD : va_D A [(h, .inr (2, [.int 0, .int 30, .int 3, .int 1, .ref q_1, .int 0, .ref q_2, .null, .null, .null, .int 0])), (q_1, .inl (eI E, 30, .inl no0)), (q_2, .inl (eI E, 8, .inl (fun _ => 0))), (q_3, .inl (eI E, 8, .inl (fun _ => 0)))] := hD
        refine W.widen (k := 3) (n := 46) (Nat.le_of_ble_eq_true rfl) (Nat.le_of_ble_eq_true rfl) ?_
        refine g_putF F hX hP hD hS hnm hin2 tyX2 tyX2_ok nmX2 0 rfl rfl 7 (by decide) (mm 12 rfl) rfl rfl rfl rfl (Nat.le_of_ble_eq_true rfl) dX2_init_77 (fun H locs hP hD hS => ?_)
        have hP : va_P (eD E) vwCl [(h, .inr (2, [.int 0, .int 30, .int 3, .int 1, .ref q_1, .int 0, .ref q_2, .ref q_3, .null, .null, .int 0])), (q_1, .inl (eI E, 30, .inl no0)), (q_2, .inl (eI E, 8, .inl (fun _ => 0))), (q_3, .inl (eI E, 8, .inl (fun _ => 0)))] H := hP
        have hD : va_D A [(h, .inr (2, [.int 0, .int 30, .int 3, .int 1, .ref q_1, .int 0, .ref q_2, .ref q_3, .null, .null, .int 0])), (q_1, .inl (eI E, 30, .inl no0)), (q_2, .inl (eI E, 8, .inl (fun _ => 0))), (q_3, .inl (eI E, 8, .inl (fun _ => 0)))] := hD
        refine lv_aload_n F.1 F.2.1 dX2_init_80 rfl (lv_at hl 1 rfl) ?_
        refine lv_bipush (v := 8) F.1 F.2.1 dX2_init_81 (by decide) ?_
        refine g_newI F hX hP hD hS hA (mm 8 rfl) (N := 8) (by decide) (by decide) (Nat.le_of_ble_eq_true rfl) (Nat.le_of_ble_eq_true rfl) dX2_init_83 (fun q_4 H hP hD hS => ?_)
        have hP : va_P (eD E) vwCl [(h, .inr (2, [.int 0, .int 30, .int 3, .int 1, .ref q_1, .int 0, .ref q_2, .ref q_3, .null, .null, .int 0])), (q_1, .inl (eI E, 30, .inl no0)), (q_2, .inl (eI E, 8, .inl (fun _ => 0))), (q_3, .inl (eI E, 8, .inl (fun _ => 0))), (q_4, .inl (eI E, 8, .inl (fun _ => 0)))] H := hP
        have hD : va_D A [(h, .inr (2, [.int 0, .int 30, .int 3, .int 1, .ref q_1, .int 0, .ref q_2, .ref q_3, .null, .null, .int 0])), (q_1, .inl (eI E, 30, .inl no0)), (q_2, .inl (eI E, 8, .inl (fun _ => 0))), (q_3, .inl (eI E, 8, .inl (fun _ => 0))), (q_4, .inl (eI E, 8, .inl (fun _ => 0)))] := hD
        refine W.widen (k := 4) (n := 54) (Nat.le_of_ble_eq_true rfl) (Nat.le_of_ble_eq_true rfl) ?_
        refine g_putF F hX hP hD hS hnm hin2 tyX2 tyX2_ok nmX2 0 rfl rfl 8 (by decide) (mm 13 rfl) rfl rfl rfl rfl (Nat.le_of_ble_eq_true rfl) dX2_init_85 (fun H locs hP hD hS => ?_)
        have hP : va_P (eD E) vwCl [(h, .inr (2, [.int 0, .int 30, .int 3, .int 1, .ref q_1, .int 0, .ref q_2, .ref q_3, .ref q_4, .null, .int 0])), (q_1, .inl (eI E, 30, .inl no0)), (q_2, .inl (eI E, 8, .inl (fun _ => 0))), (q_3, .inl (eI E, 8, .inl (fun _ => 0))), (q_4, .inl (eI E, 8, .inl (fun _ => 0)))] H := hP
        have hD : va_D A [(h, .inr (2, [.int 0, .int 30, .int 3, .int 1, .ref q_1, .int 0, .ref q_2, .ref q_3, .ref q_4, .null, .int 0])), (q_1, .inl (eI E, 30, .inl no0)), (q_2, .inl (eI E, 8, .inl (fun _ => 0))), (q_3, .inl (eI E, 8, .inl (fun _ => 0))), (q_4, .inl (eI E, 8, .inl (fun _ => 0)))] := hD
        refine lv_aload_n F.1 F.2.1 dX2_init_88 rfl (lv_at hl 1 rfl) ?_
        refine lv_bipush (v := 8) F.1 F.2.1 dX2_init_89 (by decide) ?_
        refine g_newI F hX hP hD hS hA (mm 8 rfl) (N := 8) (by decide) (by decide) (Nat.le_of_ble_eq_true rfl) (Nat.le_of_ble_eq_true rfl) dX2_init_91 (fun q_5 H hP hD hS => ?_)
        have hP : va_P (eD E) vwCl [(h, .inr (2, [.int 0, .int 30, .int 3, .int 1, .ref q_1, .int 0, .ref q_2, .ref q_3, .ref q_4, .null, .int 0])), (q_1, .inl (eI E, 30, .inl no0)), (q_2, .inl (eI E, 8, .inl (fun _ => 0))), (q_3, .inl (eI E, 8, .inl (fun _ => 0))), (q_4, .inl (eI E, 8, .inl (fun _ => 0))), (q_5, .inl (eI E, 8, .inl (fun _ => 0)))] H := hP
        have hD : va_D A [(h, .inr (2, [.int 0, .int 30, .int 3, .int 1, .ref q_1, .int 0, .ref q_2, .ref q_3, .ref q_4, .null, .int 0])), (q_1, .inl (eI E, 30, .inl no0)), (q_2, .inl (eI E, 8, .inl (fun _ => 0))), (q_3, .inl (eI E, 8, .inl (fun _ => 0))), (q_4, .inl (eI E, 8, .inl (fun _ => 0))), (q_5, .inl (eI E, 8, .inl (fun _ => 0)))] := hD
        refine W.widen (k := 5) (n := 62) (Nat.le_of_ble_eq_true rfl) (Nat.le_of_ble_eq_true rfl) ?_
        refine g_putF F hX hP hD hS hnm hin2 tyX2 tyX2_ok nmX2 0 rfl rfl 9 (by decide) (mm 14 rfl) rfl rfl rfl rfl (Nat.le_of_ble_eq_true rfl) dX2_init_93 (fun H locs hP hD hS => ?_)
        have hP : va_P (eD E) vwCl [(h, .inr (2, [.int 0, .int 30, .int 3, .int 1, .ref q_1, .int 0, .ref q_2, .ref q_3, .ref q_4, .ref q_5, .int 0])), (q_1, .inl (eI E, 30, .inl no0)), (q_2, .inl (eI E, 8, .inl (fun _ => 0))), (q_3, .inl (eI E, 8, .inl (fun _ => 0))), (q_4, .inl (eI E, 8, .inl (fun _ => 0))), (q_5, .inl (eI E, 8, .inl (fun _ => 0)))] H := hP
        have hD : va_D A [(h, .inr (2, [.int 0, .int 30, .int 3, .int 1, .ref q_1, .int 0, .ref q_2, .ref q_3, .ref q_4, .ref q_5, .int 0])), (q_1, .inl (eI E, 30, .inl no0)), (q_2, .inl (eI E, 8, .inl (fun _ => 0))), (q_3, .inl (eI E, 8, .inl (fun _ => 0))), (q_4, .inl (eI E, 8, .inl (fun _ => 0))), (q_5, .inl (eI E, 8, .inl (fun _ => 0)))] := hD
        refine lv_aload_n F.1 F.2.1 dX2_init_96 rfl (lv_at hl 1 rfl) ?_
        refine lv_iconst (v := 0) F.1 F.2.1 dX2_init_97 (by decide) ?_
        refine g_put F hX hP hD hS hin2 tyX2 tyX2_ok nmX2 0 rfl rfl 10 (by decide) (mm 15 rfl) rfl (rfl) (rfl) (Nat.le_of_ble_eq_true rfl) dX2_init_98 (fun H locs hP hD hS => ?_)
        have hP : va_P (eD E) vwCl [(h, .inr (2, [.int 0, .int 30, .int 3, .int 1, .ref q_1, .int 0, .ref q_2, .ref q_3, .ref q_4, .ref q_5, .int 0])), (q_1, .inl (eI E, 30, .inl no0)), (q_2, .inl (eI E, 8, .inl (fun _ => 0))), (q_3, .inl (eI E, 8, .inl (fun _ => 0))), (q_4, .inl (eI E, 8, .inl (fun _ => 0))), (q_5, .inl (eI E, 8, .inl (fun _ => 0)))] H := hP
        have hD : va_D A [(h, .inr (2, [.int 0, .int 30, .int 3, .int 1, .ref q_1, .int 0, .ref q_2, .ref q_3, .ref q_4, .ref q_5, .int 0])), (q_1, .inl (eI E, 30, .inl no0)), (q_2, .inl (eI E, 8, .inl (fun _ => 0))), (q_3, .inl (eI E, 8, .inl (fun _ => 0))), (q_4, .inl (eI E, 8, .inl (fun _ => 0))), (q_5, .inl (eI E, 8, .inl (fun _ => 0)))] := hD
        exact g_retn F hr hlk hS (hP.sub [0, 1, 2, 3, 4, 5] rfl) (hD.sub [0, 1, 2, 3, 4, 5] (by decide) rfl) ((q_1, q_2, q_3, q_4, q_5)) (rfl) dX2_init_101
      · have hiN : i < 30 := Nat.lt_of_not_le (fun h => k1 (nI_le h (by omega)))
        refine lv_aload_n F.1 F.2.1 dX2_init_41 rfl (lv_at hl 1 rfl) ?_
        refine g_get F hX hP hin2 0 rfl rfl 4 (by decide) (mm 9 rfl) rfl dX2_init_42 ?_
        refine lv_iload_n F.1 F.2.1 dX2_init_45 rfl (lv_at hl 0 rfl) ?_
        refine lv_iconst (v := 4) F.1 F.2.1 dX2_init_46 (by decide) ?_
        refine lv_iload_n F.1 F.2.1 dX2_init_47 rfl (lv_at hl 0 rfl) ?_
        refine lv_imul F.1 F.2.1 dX2_init_48 ?_
        refine lv_bipush (v := 7) F.1 F.2.1 dX2_init_49 (by decide) ?_
        refine lv_irem F.1 F.2.1 dX2_init_51 (by decide) ?_
        refine g_top (no0 i) (no_rem hiN) ?_
        refine g_iast F hX hP hD hS 1 rfl (j := i) (rfl) (by omega) (by decide) dX2_init_52 (fun H locs hP hD hS => ?_)
        have hP : va_P (eD E) vwCl [(h, .inr (2, [.int 0, .int 30, .int 3, .int 1, .ref q_1, .int 0, .null, .null, .null, .null, .int 0])), (q_1, .inl (eI E, 30, .inl (upd (mix no0 (fun _ => 0) i) i (no0 i))))] H := hP
        have hD : va_D A [(h, .inr (2, [.int 0, .int 30, .int 3, .int 1, .ref q_1, .int 0, .null, .null, .null, .null, .int 0])), (q_1, .inl (eI E, 30, .inl (upd (mix no0 (fun _ => 0) i) i (no0 i))))] := hD
        refine lv_iinc (v := nI (i + 1)) (lv' := [(1, .int (nI (i + 1))), (0, .ref h)]) F.1 F.2.1 dX2_init_53 hl (k := 0) rfl (nI_1 _) (by decide) rfl (fun ls hl => ?_)
        refine lv_goto (tgt := 35) F.1 F.2.1 dX2_init_56 (by decide) ?_
        have ecell : (upd (mix no0 (fun _ => 0) i) i (no0 i)) = (mix no0 (fun _ => 0) (i + 1)) := mix_step _ _ _ _ rfl
        rw [ecell] at hP hD
        clear ecell
        have hP : va_P (eD E) vwCl [(h, .inr (2, [.int 0, .int 30, .int 3, .int 1, .ref q_1, .int 0, .null, .null, .null, .null, .int 0])), (q_1, .inl (eI E, 30, .inl (mix no0 (fun _ => 0) (i + 1))))] H := hP
        have hD : va_D A [(h, .inr (2, [.int 0, .int 30, .int 3, .int 1, .ref q_1, .int 0, .null, .null, .null, .null, .int 0])), (q_1, .inl (eI E, 30, .inl (mix no0 (fun _ => 0) (i + 1))))] := hD
        exact ih (i + 1) (by omega) (by omega)  _ _ _ hP hD hS (lv_sub hl [0, 1] rfl)
  have ecell : (fun _ => 0) = (mix no0 (fun _ => 0) 0) := mix_0 _ _
  rw [ecell] at hP hD
  clear ecell
  have hP : va_P (eD E) vwCl [(h, .inr (2, [.int 0, .int 30, .int 3, .int 1, .ref q_1, .int 0, .null, .null, .null, .null, .int 0])), (q_1, .inl (eI E, 30, .inl (mix no0 (fun _ => 0) 0)))] H := hP
  have hD : va_D A [(h, .inr (2, [.int 0, .int 30, .int 3, .int 1, .ref q_1, .int 0, .null, .null, .null, .null, .int 0])), (q_1, .inl (eI E, 30, .inl (mix no0 (fun _ => 0) 0)))] := hD
  exact lp35 (30 + 1) 0 (by omega) (by omega)  _ _ _ hP hD hS (lv_sub hl [0, 1] rfl)
set_option maxHeartbeats 4000000 in
set_option maxRecDepth 100000 in
theorem c_X0_init (l : Launch) (E : gE) (h : Nat) : gN l yX0_init wsX0_init ({ frames := 1, cells := 1, slots := 40, locals := 12 }) E [(h, .inr (0, [.int 0, .int 0, .null]))] (fun u : Nat => [(h, .inr (0, [.int 0, .int (nI 0), .ref u])), (u, .inl (eJ E, 40, .inr (.inl (fun _ => 0))))]) [.ref h] 1 40 := by
  have hin0 : ∀ w ∈ wsX00, w ∈ wsX0_init := (fun _ h => (List.mem_cons_of_mem _ (List.mem_append_right _ h)))
  refine gN.of (cc := cX0_init) (maxL := 1) (by decide) rfl (Nat.le_of_ble_eq_true rfl) rfl ?_
  intro pG eG sG mG below meth cG A ls H locs F hr hlk hnm hX hAO hP hD hA hS hl
  have hl : lv_has ls 1 [(0, .ref h)] := hl
  refine lv_aload_n F.1 F.2.1 dX0_init_0 rfl (lv_at hl 0 rfl) ?_
  refine g_oinit F hl (mm 1 rfl) (mm 2 rfl) (mm 3 rfl) (Nat.le_of_ble_eq_true rfl) (Nat.le_of_ble_eq_true rfl) dX0_init_1 ?_
  refine lv_aload_n F.1 F.2.1 dX0_init_4 rfl (lv_at hl 0 rfl) ?_
  refine lv_iconst (v := 0) F.1 F.2.1 dX0_init_5 (by decide) ?_
  refine g_put F hX hP hD hS hin0 tyX0 tyX0_ok nmX0 0 rfl rfl 0 (by decide) (mm 4 rfl) rfl (rfl) (rfl) (Nat.le_of_ble_eq_true rfl) dX0_init_6 (fun H locs hP hD hS => ?_)
  have hP : va_P (eD E) vwCl [(h, .inr (0, [.int 0, .int 0, .null]))] H := hP
  have hD : va_D A [(h, .inr (0, [.int 0, .int 0, .null]))] := hD
  refine lv_aload_n F.1 F.2.1 dX0_init_9 rfl (lv_at hl 0 rfl) ?_
  refine lv_iconst (v := 0) F.1 F.2.1 dX0_init_10 (by decide) ?_
  refine g_put F hX hP hD hS hin0 tyX0 tyX0_ok nmX0 0 rfl rfl 1 (by decide) (mm 5 rfl) rfl (rfl) (rfl) (Nat.le_of_ble_eq_true rfl) dX0_init_11 (fun H locs hP hD hS => ?_)
  have hP : va_P (eD E) vwCl [(h, .inr (0, [.int 0, .int 0, .null]))] H := hP
  have hD : va_D A [(h, .inr (0, [.int 0, .int 0, .null]))] := hD
  refine lv_aload_n F.1 F.2.1 dX0_init_14 rfl (lv_at hl 0 rfl) ?_
  refine lv_bipush (v := 40) F.1 F.2.1 dX0_init_15 (by decide) ?_
  refine g_newJ F hX hP hD hS hA (mm 6 rfl) (N := 40) (by decide) (by decide) (Nat.le_of_ble_eq_true rfl) (Nat.le_of_ble_eq_true rfl) dX0_init_17 (fun q_1 H hP hD hS => ?_)
  have hP : va_P (eD E) vwCl [(h, .inr (0, [.int 0, .int 0, .null])), (q_1, .inl (eJ E, 40, .inr (.inl (fun _ => 0))))] H := hP
  have hD : va_D A [(h, .inr (0, [.int 0, .int 0, .null])), (q_1, .inl (eJ E, 40, .inr (.inl (fun _ => 0))))] := hD
  refine W.widen (k := 1) (n := 40) (Nat.le_of_ble_eq_true rfl) (Nat.le_of_ble_eq_true rfl) ?_
  refine g_putF F hX hP hD hS hnm hin0 tyX0 tyX0_ok nmX0 0 rfl rfl 2 (by decide) (mm 7 rfl) rfl rfl rfl rfl (Nat.le_of_ble_eq_true rfl) dX0_init_19 (fun H locs hP hD hS => ?_)
  have hP : va_P (eD E) vwCl [(h, .inr (0, [.int 0, .int 0, .ref q_1])), (q_1, .inl (eJ E, 40, .inr (.inl (fun _ => 0))))] H := hP
  have hD : va_D A [(h, .inr (0, [.int 0, .int 0, .ref q_1])), (q_1, .inl (eJ E, 40, .inr (.inl (fun _ => 0))))] := hD
  exact g_retn F hr hlk hS (hP.sub [0, 1] rfl) (hD.sub [0, 1] (by decide) rfl) (q_1) (rfl) dX0_init_22
set_option maxHeartbeats 4000000 in
set_option maxRecDepth 100000 in
theorem c_X1_init (l : Launch) (E : gE) (h : Nat) : gN l yX1_init wsX1_init ({ frames := 1, cells := 1, slots := 120, locals := 12 }) E [(h, .inr (1, [.null, .int 0, .int 0, .int 0, .int 0, .int 0, .int 0]))] (fun u : Nat => [(h, .inr (1, [.ref u, .int (nI 0), .int 0, .int 0, .int 0, .int 3, .int 0])), (u, .inl (eI E, 120, .inl (fun _ => 0)))]) [.ref h] 1 120 := by
  have hin1 : ∀ w ∈ wsX10, w ∈ wsX1_init := (fun _ h => (List.mem_cons_of_mem _ (List.mem_append_right _ h)))
  refine gN.of (cc := cX1_init) (maxL := 1) (by decide) rfl (Nat.le_of_ble_eq_true rfl) rfl ?_
  intro pG eG sG mG below meth cG A ls H locs F hr hlk hnm hX hAO hP hD hA hS hl
  have hl : lv_has ls 1 [(0, .ref h)] := hl
  refine lv_aload_n F.1 F.2.1 dX1_init_0 rfl (lv_at hl 0 rfl) ?_
  refine g_oinit F hl (mm 1 rfl) (mm 2 rfl) (mm 3 rfl) (Nat.le_of_ble_eq_true rfl) (Nat.le_of_ble_eq_true rfl) dX1_init_1 ?_
  refine lv_aload_n F.1 F.2.1 dX1_init_4 rfl (lv_at hl 0 rfl) ?_
  refine lv_bipush (v := 120) F.1 F.2.1 dX1_init_5 (by decide) ?_
  refine g_newI F hX hP hD hS hA (mm 4 rfl) (N := 120) (by decide) (by decide) (Nat.le_of_ble_eq_true rfl) (Nat.le_of_ble_eq_true rfl) dX1_init_7 (fun q_1 H hP hD hS => ?_)
  have hP : va_P (eD E) vwCl [(h, .inr (1, [.null, .int 0, .int 0, .int 0, .int 0, .int 0, .int 0])), (q_1, .inl (eI E, 120, .inl (fun _ => 0)))] H := hP
  have hD : va_D A [(h, .inr (1, [.null, .int 0, .int 0, .int 0, .int 0, .int 0, .int 0])), (q_1, .inl (eI E, 120, .inl (fun _ => 0)))] := hD
  refine W.widen (k := 1) (n := 120) (Nat.le_of_ble_eq_true rfl) (Nat.le_of_ble_eq_true rfl) ?_
  refine g_putF F hX hP hD hS hnm hin1 tyX1 tyX1_ok nmX1 0 rfl rfl 0 (by decide) (mm 5 rfl) rfl rfl rfl rfl (Nat.le_of_ble_eq_true rfl) dX1_init_9 (fun H locs hP hD hS => ?_)
  have hP : va_P (eD E) vwCl [(h, .inr (1, [.ref q_1, .int 0, .int 0, .int 0, .int 0, .int 0, .int 0])), (q_1, .inl (eI E, 120, .inl (fun _ => 0)))] H := hP
  have hD : va_D A [(h, .inr (1, [.ref q_1, .int 0, .int 0, .int 0, .int 0, .int 0, .int 0])), (q_1, .inl (eI E, 120, .inl (fun _ => 0)))] := hD
  refine lv_aload_n F.1 F.2.1 dX1_init_12 rfl (lv_at hl 0 rfl) ?_
  refine lv_iconst (v := 0) F.1 F.2.1 dX1_init_13 (by decide) ?_
  refine g_put F hX hP hD hS hin1 tyX1 tyX1_ok nmX1 0 rfl rfl 1 (by decide) (mm 6 rfl) rfl (rfl) (rfl) (Nat.le_of_ble_eq_true rfl) dX1_init_14 (fun H locs hP hD hS => ?_)
  have hP : va_P (eD E) vwCl [(h, .inr (1, [.ref q_1, .int 0, .int 0, .int 0, .int 0, .int 0, .int 0])), (q_1, .inl (eI E, 120, .inl (fun _ => 0)))] H := hP
  have hD : va_D A [(h, .inr (1, [.ref q_1, .int 0, .int 0, .int 0, .int 0, .int 0, .int 0])), (q_1, .inl (eI E, 120, .inl (fun _ => 0)))] := hD
  refine lv_aload_n F.1 F.2.1 dX1_init_17 rfl (lv_at hl 0 rfl) ?_
  refine lv_iconst (v := 0) F.1 F.2.1 dX1_init_18 (by decide) ?_
  refine g_put F hX hP hD hS hin1 tyX1 tyX1_ok nmX1 0 rfl rfl 2 (by decide) (mm 7 rfl) rfl (rfl) (rfl) (Nat.le_of_ble_eq_true rfl) dX1_init_19 (fun H locs hP hD hS => ?_)
  have hP : va_P (eD E) vwCl [(h, .inr (1, [.ref q_1, .int 0, .int 0, .int 0, .int 0, .int 0, .int 0])), (q_1, .inl (eI E, 120, .inl (fun _ => 0)))] H := hP
  have hD : va_D A [(h, .inr (1, [.ref q_1, .int 0, .int 0, .int 0, .int 0, .int 0, .int 0])), (q_1, .inl (eI E, 120, .inl (fun _ => 0)))] := hD
  refine lv_aload_n F.1 F.2.1 dX1_init_22 rfl (lv_at hl 0 rfl) ?_
  refine lv_iconst (v := 0) F.1 F.2.1 dX1_init_23 (by decide) ?_
  refine g_put F hX hP hD hS hin1 tyX1 tyX1_ok nmX1 0 rfl rfl 3 (by decide) (mm 8 rfl) rfl (rfl) (rfl) (Nat.le_of_ble_eq_true rfl) dX1_init_24 (fun H locs hP hD hS => ?_)
  have hP : va_P (eD E) vwCl [(h, .inr (1, [.ref q_1, .int 0, .int 0, .int 0, .int 0, .int 0, .int 0])), (q_1, .inl (eI E, 120, .inl (fun _ => 0)))] H := hP
  have hD : va_D A [(h, .inr (1, [.ref q_1, .int 0, .int 0, .int 0, .int 0, .int 0, .int 0])), (q_1, .inl (eI E, 120, .inl (fun _ => 0)))] := hD
  refine lv_aload_n F.1 F.2.1 dX1_init_27 rfl (lv_at hl 0 rfl) ?_
  refine lv_iconst (v := 0) F.1 F.2.1 dX1_init_28 (by decide) ?_
  refine g_put F hX hP hD hS hin1 tyX1 tyX1_ok nmX1 0 rfl rfl 4 (by decide) (mm 9 rfl) rfl (rfl) (rfl) (Nat.le_of_ble_eq_true rfl) dX1_init_29 (fun H locs hP hD hS => ?_)
  have hP : va_P (eD E) vwCl [(h, .inr (1, [.ref q_1, .int 0, .int 0, .int 0, .int 0, .int 0, .int 0])), (q_1, .inl (eI E, 120, .inl (fun _ => 0)))] H := hP
  have hD : va_D A [(h, .inr (1, [.ref q_1, .int 0, .int 0, .int 0, .int 0, .int 0, .int 0])), (q_1, .inl (eI E, 120, .inl (fun _ => 0)))] := hD
  refine lv_aload_n F.1 F.2.1 dX1_init_32 rfl (lv_at hl 0 rfl) ?_
  refine lv_iconst (v := 3) F.1 F.2.1 dX1_init_33 (by decide) ?_
  refine g_put F hX hP hD hS hin1 tyX1 tyX1_ok nmX1 0 rfl rfl 5 (by decide) (mm 10 rfl) rfl (rfl) (rfl) (Nat.le_of_ble_eq_true rfl) dX1_init_34 (fun H locs hP hD hS => ?_)
  have hP : va_P (eD E) vwCl [(h, .inr (1, [.ref q_1, .int 0, .int 0, .int 0, .int 0, .int 3, .int 0])), (q_1, .inl (eI E, 120, .inl (fun _ => 0)))] H := hP
  have hD : va_D A [(h, .inr (1, [.ref q_1, .int 0, .int 0, .int 0, .int 0, .int 3, .int 0])), (q_1, .inl (eI E, 120, .inl (fun _ => 0)))] := hD
  refine lv_aload_n F.1 F.2.1 dX1_init_37 rfl (lv_at hl 0 rfl) ?_
  refine lv_iconst (v := 0) F.1 F.2.1 dX1_init_38 (by decide) ?_
  refine g_put F hX hP hD hS hin1 tyX1 tyX1_ok nmX1 0 rfl rfl 6 (by decide) (mm 11 rfl) rfl (rfl) (rfl) (Nat.le_of_ble_eq_true rfl) dX1_init_39 (fun H locs hP hD hS => ?_)
  have hP : va_P (eD E) vwCl [(h, .inr (1, [.ref q_1, .int 0, .int 0, .int 0, .int 0, .int 3, .int 0])), (q_1, .inl (eI E, 120, .inl (fun _ => 0)))] H := hP
  have hD : va_D A [(h, .inr (1, [.ref q_1, .int 0, .int 0, .int 0, .int 0, .int 3, .int 0])), (q_1, .inl (eI E, 120, .inl (fun _ => 0)))] := hD
  exact g_retn F hr hlk hS (hP.sub [0, 1] rfl) (hD.sub [0, 1] (by decide) rfl) (q_1) (rfl) dX1_init_42
set_option maxHeartbeats 4000000 in
set_option maxRecDepth 100000 in
theorem c_X4_init (l : Launch) (E : gE) (h : Nat) : gN l yX4_init wsX4_init ({ frames := 1, cells := 8, slots := 520, locals := 12 }) E [(h, .inr (4, [.null, .null, .null, .int 0, .null, .null, .int 0, .int 0, .int 0, .int 0, .int 0, .int 0, .null, .null, .null]))] (fun u : Nat × Nat × Nat × Nat × Nat × Nat × Nat × Nat => [(h, .inr (4, [.ref u.1, .ref u.2.1, .ref u.2.2.1, .int (bi false), .ref u.2.2.2.1, .ref u.2.2.2.2.1, .int (nI 0), .int 0, .int 0, .int 0, .int 0, .int 0, .ref u.2.2.2.2.2.1, .ref u.2.2.2.2.2.2.1, .ref u.2.2.2.2.2.2.2])), (u.1, .inl (eI E, 75, .inl (moI 30))), (u.2.1, .inl (eI E, 75, .inl (fun _ => 0))), (u.2.2.1, .inl (eI E, 75, .inl (fun _ => 0))), (u.2.2.2.1, .inl (eI E, 7, .inl (fun _ => 0))), (u.2.2.2.2.1, .inl (eI E, 120, .inl (fun _ => 0))), (u.2.2.2.2.2.1, .inl (eI E, 4, .inl (fun _ => 0))), (u.2.2.2.2.2.2.1, .inl (eI E, 4, .inl (fun _ => 0))), (u.2.2.2.2.2.2.2, .inl (eJ E, 160, .inr (.inl (fun _ => 0))))]) [.ref h] 8 520 := by
  have hin4 : ∀ w ∈ wsX40, w ∈ wsX4_init := (fun _ h => (List.mem_cons_of_mem _ (List.mem_append_right _ h)))
  refine gN.of (cc := cX4_init) (maxL := 2) (by decide) rfl (Nat.le_of_ble_eq_true rfl) rfl ?_
  intro pG eG sG mG below meth cG A ls H locs F hr hlk hnm hX hAO hP hD hA hS hl
  have hl : lv_has ls 2 [(0, .ref h)] := hl
  refine lv_aload_n F.1 F.2.1 dX4_init_0 rfl (lv_at hl 0 rfl) ?_
  refine g_oinit F hl (mm 1 rfl) (mm 2 rfl) (mm 3 rfl) (Nat.le_of_ble_eq_true rfl) (Nat.le_of_ble_eq_true rfl) dX4_init_1 ?_
  refine lv_aload_n F.1 F.2.1 dX4_init_4 rfl (lv_at hl 0 rfl) ?_
  refine lv_bipush (v := 75) F.1 F.2.1 dX4_init_5 (by decide) ?_
  refine g_newI F hX hP hD hS hA (mm 4 rfl) (N := 75) (by decide) (by decide) (Nat.le_of_ble_eq_true rfl) (Nat.le_of_ble_eq_true rfl) dX4_init_7 (fun q_1 H hP hD hS => ?_)
  have hP : va_P (eD E) vwCl [(h, .inr (4, [.null, .null, .null, .int 0, .null, .null, .int 0, .int 0, .int 0, .int 0, .int 0, .int 0, .null, .null, .null])), (q_1, .inl (eI E, 75, .inl (fun _ => 0)))] H := hP
  have hD : va_D A [(h, .inr (4, [.null, .null, .null, .int 0, .null, .null, .int 0, .int 0, .int 0, .int 0, .int 0, .int 0, .null, .null, .null])), (q_1, .inl (eI E, 75, .inl (fun _ => 0)))] := hD
  refine W.widen (k := 1) (n := 75) (Nat.le_of_ble_eq_true rfl) (Nat.le_of_ble_eq_true rfl) ?_
  refine g_putF F hX hP hD hS hnm hin4 tyX4 tyX4_ok nmX4 0 rfl rfl 0 (by decide) (mm 5 rfl) rfl rfl rfl rfl (Nat.le_of_ble_eq_true rfl) dX4_init_9 (fun H locs hP hD hS => ?_)
  have hP : va_P (eD E) vwCl [(h, .inr (4, [.ref q_1, .null, .null, .int 0, .null, .null, .int 0, .int 0, .int 0, .int 0, .int 0, .int 0, .null, .null, .null])), (q_1, .inl (eI E, 75, .inl (fun _ => 0)))] H := hP
  have hD : va_D A [(h, .inr (4, [.ref q_1, .null, .null, .int 0, .null, .null, .int 0, .int 0, .int 0, .int 0, .int 0, .int 0, .null, .null, .null])), (q_1, .inl (eI E, 75, .inl (fun _ => 0)))] := hD
  refine lv_aload_n F.1 F.2.1 dX4_init_12 rfl (lv_at hl 0 rfl) ?_
  refine lv_bipush (v := 75) F.1 F.2.1 dX4_init_13 (by decide) ?_
  refine g_newI F hX hP hD hS hA (mm 4 rfl) (N := 75) (by decide) (by decide) (Nat.le_of_ble_eq_true rfl) (Nat.le_of_ble_eq_true rfl) dX4_init_15 (fun q_2 H hP hD hS => ?_)
  have hP : va_P (eD E) vwCl [(h, .inr (4, [.ref q_1, .null, .null, .int 0, .null, .null, .int 0, .int 0, .int 0, .int 0, .int 0, .int 0, .null, .null, .null])), (q_1, .inl (eI E, 75, .inl (fun _ => 0))), (q_2, .inl (eI E, 75, .inl (fun _ => 0)))] H := hP
  have hD : va_D A [(h, .inr (4, [.ref q_1, .null, .null, .int 0, .null, .null, .int 0, .int 0, .int 0, .int 0, .int 0, .int 0, .null, .null, .null])), (q_1, .inl (eI E, 75, .inl (fun _ => 0))), (q_2, .inl (eI E, 75, .inl (fun _ => 0)))] := hD
  refine W.widen (k := 2) (n := 150) (Nat.le_of_ble_eq_true rfl) (Nat.le_of_ble_eq_true rfl) ?_
  refine g_putF F hX hP hD hS hnm hin4 tyX4 tyX4_ok nmX4 0 rfl rfl 1 (by decide) (mm 6 rfl) rfl rfl rfl rfl (Nat.le_of_ble_eq_true rfl) dX4_init_17 (fun H locs hP hD hS => ?_)
  have hP : va_P (eD E) vwCl [(h, .inr (4, [.ref q_1, .ref q_2, .null, .int 0, .null, .null, .int 0, .int 0, .int 0, .int 0, .int 0, .int 0, .null, .null, .null])), (q_1, .inl (eI E, 75, .inl (fun _ => 0))), (q_2, .inl (eI E, 75, .inl (fun _ => 0)))] H := hP
  have hD : va_D A [(h, .inr (4, [.ref q_1, .ref q_2, .null, .int 0, .null, .null, .int 0, .int 0, .int 0, .int 0, .int 0, .int 0, .null, .null, .null])), (q_1, .inl (eI E, 75, .inl (fun _ => 0))), (q_2, .inl (eI E, 75, .inl (fun _ => 0)))] := hD
  refine lv_aload_n F.1 F.2.1 dX4_init_20 rfl (lv_at hl 0 rfl) ?_
  refine lv_bipush (v := 75) F.1 F.2.1 dX4_init_21 (by decide) ?_
  refine g_newI F hX hP hD hS hA (mm 4 rfl) (N := 75) (by decide) (by decide) (Nat.le_of_ble_eq_true rfl) (Nat.le_of_ble_eq_true rfl) dX4_init_23 (fun q_3 H hP hD hS => ?_)
  have hP : va_P (eD E) vwCl [(h, .inr (4, [.ref q_1, .ref q_2, .null, .int 0, .null, .null, .int 0, .int 0, .int 0, .int 0, .int 0, .int 0, .null, .null, .null])), (q_1, .inl (eI E, 75, .inl (fun _ => 0))), (q_2, .inl (eI E, 75, .inl (fun _ => 0))), (q_3, .inl (eI E, 75, .inl (fun _ => 0)))] H := hP
  have hD : va_D A [(h, .inr (4, [.ref q_1, .ref q_2, .null, .int 0, .null, .null, .int 0, .int 0, .int 0, .int 0, .int 0, .int 0, .null, .null, .null])), (q_1, .inl (eI E, 75, .inl (fun _ => 0))), (q_2, .inl (eI E, 75, .inl (fun _ => 0))), (q_3, .inl (eI E, 75, .inl (fun _ => 0)))] := hD
  refine W.widen (k := 3) (n := 225) (Nat.le_of_ble_eq_true rfl) (Nat.le_of_ble_eq_true rfl) ?_
  refine g_putF F hX hP hD hS hnm hin4 tyX4 tyX4_ok nmX4 0 rfl rfl 2 (by decide) (mm 7 rfl) rfl rfl rfl rfl (Nat.le_of_ble_eq_true rfl) dX4_init_25 (fun H locs hP hD hS => ?_)
  have hP : va_P (eD E) vwCl [(h, .inr (4, [.ref q_1, .ref q_2, .ref q_3, .int 0, .null, .null, .int 0, .int 0, .int 0, .int 0, .int 0, .int 0, .null, .null, .null])), (q_1, .inl (eI E, 75, .inl (fun _ => 0))), (q_2, .inl (eI E, 75, .inl (fun _ => 0))), (q_3, .inl (eI E, 75, .inl (fun _ => 0)))] H := hP
  have hD : va_D A [(h, .inr (4, [.ref q_1, .ref q_2, .ref q_3, .int 0, .null, .null, .int 0, .int 0, .int 0, .int 0, .int 0, .int 0, .null, .null, .null])), (q_1, .inl (eI E, 75, .inl (fun _ => 0))), (q_2, .inl (eI E, 75, .inl (fun _ => 0))), (q_3, .inl (eI E, 75, .inl (fun _ => 0)))] := hD
  refine lv_aload_n F.1 F.2.1 dX4_init_28 rfl (lv_at hl 0 rfl) ?_
  refine lv_bipush (v := 7) F.1 F.2.1 dX4_init_29 (by decide) ?_
  refine g_newI F hX hP hD hS hA (mm 4 rfl) (N := 7) (by decide) (by decide) (Nat.le_of_ble_eq_true rfl) (Nat.le_of_ble_eq_true rfl) dX4_init_31 (fun q_4 H hP hD hS => ?_)
  have hP : va_P (eD E) vwCl [(h, .inr (4, [.ref q_1, .ref q_2, .ref q_3, .int 0, .null, .null, .int 0, .int 0, .int 0, .int 0, .int 0, .int 0, .null, .null, .null])), (q_1, .inl (eI E, 75, .inl (fun _ => 0))), (q_2, .inl (eI E, 75, .inl (fun _ => 0))), (q_3, .inl (eI E, 75, .inl (fun _ => 0))), (q_4, .inl (eI E, 7, .inl (fun _ => 0)))] H := hP
  have hD : va_D A [(h, .inr (4, [.ref q_1, .ref q_2, .ref q_3, .int 0, .null, .null, .int 0, .int 0, .int 0, .int 0, .int 0, .int 0, .null, .null, .null])), (q_1, .inl (eI E, 75, .inl (fun _ => 0))), (q_2, .inl (eI E, 75, .inl (fun _ => 0))), (q_3, .inl (eI E, 75, .inl (fun _ => 0))), (q_4, .inl (eI E, 7, .inl (fun _ => 0)))] := hD
  refine W.widen (k := 4) (n := 232) (Nat.le_of_ble_eq_true rfl) (Nat.le_of_ble_eq_true rfl) ?_
  refine g_putF F hX hP hD hS hnm hin4 tyX4 tyX4_ok nmX4 0 rfl rfl 4 (by decide) (mm 8 rfl) rfl rfl rfl rfl (Nat.le_of_ble_eq_true rfl) dX4_init_33 (fun H locs hP hD hS => ?_)
  have hP : va_P (eD E) vwCl [(h, .inr (4, [.ref q_1, .ref q_2, .ref q_3, .int 0, .ref q_4, .null, .int 0, .int 0, .int 0, .int 0, .int 0, .int 0, .null, .null, .null])), (q_1, .inl (eI E, 75, .inl (fun _ => 0))), (q_2, .inl (eI E, 75, .inl (fun _ => 0))), (q_3, .inl (eI E, 75, .inl (fun _ => 0))), (q_4, .inl (eI E, 7, .inl (fun _ => 0)))] H := hP
  have hD : va_D A [(h, .inr (4, [.ref q_1, .ref q_2, .ref q_3, .int 0, .ref q_4, .null, .int 0, .int 0, .int 0, .int 0, .int 0, .int 0, .null, .null, .null])), (q_1, .inl (eI E, 75, .inl (fun _ => 0))), (q_2, .inl (eI E, 75, .inl (fun _ => 0))), (q_3, .inl (eI E, 75, .inl (fun _ => 0))), (q_4, .inl (eI E, 7, .inl (fun _ => 0)))] := hD
  refine lv_aload_n F.1 F.2.1 dX4_init_36 rfl (lv_at hl 0 rfl) ?_
  refine lv_bipush (v := 120) F.1 F.2.1 dX4_init_37 (by decide) ?_
  refine g_newI F hX hP hD hS hA (mm 4 rfl) (N := 120) (by decide) (by decide) (Nat.le_of_ble_eq_true rfl) (Nat.le_of_ble_eq_true rfl) dX4_init_39 (fun q_5 H hP hD hS => ?_)
  have hP : va_P (eD E) vwCl [(h, .inr (4, [.ref q_1, .ref q_2, .ref q_3, .int 0, .ref q_4, .null, .int 0, .int 0, .int 0, .int 0, .int 0, .int 0, .null, .null, .null])), (q_1, .inl (eI E, 75, .inl (fun _ => 0))), (q_2, .inl (eI E, 75, .inl (fun _ => 0))), (q_3, .inl (eI E, 75, .inl (fun _ => 0))), (q_4, .inl (eI E, 7, .inl (fun _ => 0))), (q_5, .inl (eI E, 120, .inl (fun _ => 0)))] H := hP
  have hD : va_D A [(h, .inr (4, [.ref q_1, .ref q_2, .ref q_3, .int 0, .ref q_4, .null, .int 0, .int 0, .int 0, .int 0, .int 0, .int 0, .null, .null, .null])), (q_1, .inl (eI E, 75, .inl (fun _ => 0))), (q_2, .inl (eI E, 75, .inl (fun _ => 0))), (q_3, .inl (eI E, 75, .inl (fun _ => 0))), (q_4, .inl (eI E, 7, .inl (fun _ => 0))), (q_5, .inl (eI E, 120, .inl (fun _ => 0)))] := hD
  refine W.widen (k := 5) (n := 352) (Nat.le_of_ble_eq_true rfl) (Nat.le_of_ble_eq_true rfl) ?_
  refine g_putF F hX hP hD hS hnm hin4 tyX4 tyX4_ok nmX4 0 rfl rfl 5 (by decide) (mm 9 rfl) rfl rfl rfl rfl (Nat.le_of_ble_eq_true rfl) dX4_init_41 (fun H locs hP hD hS => ?_)
  have hP : va_P (eD E) vwCl [(h, .inr (4, [.ref q_1, .ref q_2, .ref q_3, .int 0, .ref q_4, .ref q_5, .int 0, .int 0, .int 0, .int 0, .int 0, .int 0, .null, .null, .null])), (q_1, .inl (eI E, 75, .inl (fun _ => 0))), (q_2, .inl (eI E, 75, .inl (fun _ => 0))), (q_3, .inl (eI E, 75, .inl (fun _ => 0))), (q_4, .inl (eI E, 7, .inl (fun _ => 0))), (q_5, .inl (eI E, 120, .inl (fun _ => 0)))] H := hP
  have hD : va_D A [(h, .inr (4, [.ref q_1, .ref q_2, .ref q_3, .int 0, .ref q_4, .ref q_5, .int 0, .int 0, .int 0, .int 0, .int 0, .int 0, .null, .null, .null])), (q_1, .inl (eI E, 75, .inl (fun _ => 0))), (q_2, .inl (eI E, 75, .inl (fun _ => 0))), (q_3, .inl (eI E, 75, .inl (fun _ => 0))), (q_4, .inl (eI E, 7, .inl (fun _ => 0))), (q_5, .inl (eI E, 120, .inl (fun _ => 0)))] := hD
  refine lv_aload_n F.1 F.2.1 dX4_init_44 rfl (lv_at hl 0 rfl) ?_
  refine lv_iconst (v := 4) F.1 F.2.1 dX4_init_45 (by decide) ?_
  refine g_newI F hX hP hD hS hA (mm 4 rfl) (N := 4) (by decide) (by decide) (Nat.le_of_ble_eq_true rfl) (Nat.le_of_ble_eq_true rfl) dX4_init_46 (fun q_6 H hP hD hS => ?_)
  have hP : va_P (eD E) vwCl [(h, .inr (4, [.ref q_1, .ref q_2, .ref q_3, .int 0, .ref q_4, .ref q_5, .int 0, .int 0, .int 0, .int 0, .int 0, .int 0, .null, .null, .null])), (q_1, .inl (eI E, 75, .inl (fun _ => 0))), (q_2, .inl (eI E, 75, .inl (fun _ => 0))), (q_3, .inl (eI E, 75, .inl (fun _ => 0))), (q_4, .inl (eI E, 7, .inl (fun _ => 0))), (q_5, .inl (eI E, 120, .inl (fun _ => 0))), (q_6, .inl (eI E, 4, .inl (fun _ => 0)))] H := hP
  have hD : va_D A [(h, .inr (4, [.ref q_1, .ref q_2, .ref q_3, .int 0, .ref q_4, .ref q_5, .int 0, .int 0, .int 0, .int 0, .int 0, .int 0, .null, .null, .null])), (q_1, .inl (eI E, 75, .inl (fun _ => 0))), (q_2, .inl (eI E, 75, .inl (fun _ => 0))), (q_3, .inl (eI E, 75, .inl (fun _ => 0))), (q_4, .inl (eI E, 7, .inl (fun _ => 0))), (q_5, .inl (eI E, 120, .inl (fun _ => 0))), (q_6, .inl (eI E, 4, .inl (fun _ => 0)))] := hD
  refine W.widen (k := 6) (n := 356) (Nat.le_of_ble_eq_true rfl) (Nat.le_of_ble_eq_true rfl) ?_
  refine g_putF F hX hP hD hS hnm hin4 tyX4 tyX4_ok nmX4 0 rfl rfl 12 (by decide) (mm 10 rfl) rfl rfl rfl rfl (Nat.le_of_ble_eq_true rfl) dX4_init_48 (fun H locs hP hD hS => ?_)
  have hP : va_P (eD E) vwCl [(h, .inr (4, [.ref q_1, .ref q_2, .ref q_3, .int 0, .ref q_4, .ref q_5, .int 0, .int 0, .int 0, .int 0, .int 0, .int 0, .ref q_6, .null, .null])), (q_1, .inl (eI E, 75, .inl (fun _ => 0))), (q_2, .inl (eI E, 75, .inl (fun _ => 0))), (q_3, .inl (eI E, 75, .inl (fun _ => 0))), (q_4, .inl (eI E, 7, .inl (fun _ => 0))), (q_5, .inl (eI E, 120, .inl (fun _ => 0))), (q_6, .inl (eI E, 4, .inl (fun _ => 0)))] H := hP
  have hD : va_D A [(h, .inr (4, [.ref q_1, .ref q_2, .ref q_3, .int 0, .ref q_4, .ref q_5, .int 0, .int 0, .int 0, .int 0, .int 0, .int 0, .ref q_6, .null, .null])), (q_1, .inl (eI E, 75, .inl (fun _ => 0))), (q_2, .inl (eI E, 75, .inl (fun _ => 0))), (q_3, .inl (eI E, 75, .inl (fun _ => 0))), (q_4, .inl (eI E, 7, .inl (fun _ => 0))), (q_5, .inl (eI E, 120, .inl (fun _ => 0))), (q_6, .inl (eI E, 4, .inl (fun _ => 0)))] := hD
  refine lv_aload_n F.1 F.2.1 dX4_init_51 rfl (lv_at hl 0 rfl) ?_
  refine lv_iconst (v := 4) F.1 F.2.1 dX4_init_52 (by decide) ?_
  refine g_newI F hX hP hD hS hA (mm 4 rfl) (N := 4) (by decide) (by decide) (Nat.le_of_ble_eq_true rfl) (Nat.le_of_ble_eq_true rfl) dX4_init_53 (fun q_7 H hP hD hS => ?_)
  have hP : va_P (eD E) vwCl [(h, .inr (4, [.ref q_1, .ref q_2, .ref q_3, .int 0, .ref q_4, .ref q_5, .int 0, .int 0, .int 0, .int 0, .int 0, .int 0, .ref q_6, .null, .null])), (q_1, .inl (eI E, 75, .inl (fun _ => 0))), (q_2, .inl (eI E, 75, .inl (fun _ => 0))), (q_3, .inl (eI E, 75, .inl (fun _ => 0))), (q_4, .inl (eI E, 7, .inl (fun _ => 0))), (q_5, .inl (eI E, 120, .inl (fun _ => 0))), (q_6, .inl (eI E, 4, .inl (fun _ => 0))), (q_7, .inl (eI E, 4, .inl (fun _ => 0)))] H := hP
  have hD : va_D A [(h, .inr (4, [.ref q_1, .ref q_2, .ref q_3, .int 0, .ref q_4, .ref q_5, .int 0, .int 0, .int 0, .int 0, .int 0, .int 0, .ref q_6, .null, .null])), (q_1, .inl (eI E, 75, .inl (fun _ => 0))), (q_2, .inl (eI E, 75, .inl (fun _ => 0))), (q_3, .inl (eI E, 75, .inl (fun _ => 0))), (q_4, .inl (eI E, 7, .inl (fun _ => 0))), (q_5, .inl (eI E, 120, .inl (fun _ => 0))), (q_6, .inl (eI E, 4, .inl (fun _ => 0))), (q_7, .inl (eI E, 4, .inl (fun _ => 0)))] := hD
  refine W.widen (k := 7) (n := 360) (Nat.le_of_ble_eq_true rfl) (Nat.le_of_ble_eq_true rfl) ?_
  refine g_putF F hX hP hD hS hnm hin4 tyX4 tyX4_ok nmX4 0 rfl rfl 13 (by decide) (mm 11 rfl) rfl rfl rfl rfl (Nat.le_of_ble_eq_true rfl) dX4_init_55 (fun H locs hP hD hS => ?_)
  have hP : va_P (eD E) vwCl [(h, .inr (4, [.ref q_1, .ref q_2, .ref q_3, .int 0, .ref q_4, .ref q_5, .int 0, .int 0, .int 0, .int 0, .int 0, .int 0, .ref q_6, .ref q_7, .null])), (q_1, .inl (eI E, 75, .inl (fun _ => 0))), (q_2, .inl (eI E, 75, .inl (fun _ => 0))), (q_3, .inl (eI E, 75, .inl (fun _ => 0))), (q_4, .inl (eI E, 7, .inl (fun _ => 0))), (q_5, .inl (eI E, 120, .inl (fun _ => 0))), (q_6, .inl (eI E, 4, .inl (fun _ => 0))), (q_7, .inl (eI E, 4, .inl (fun _ => 0)))] H := hP
  have hD : va_D A [(h, .inr (4, [.ref q_1, .ref q_2, .ref q_3, .int 0, .ref q_4, .ref q_5, .int 0, .int 0, .int 0, .int 0, .int 0, .int 0, .ref q_6, .ref q_7, .null])), (q_1, .inl (eI E, 75, .inl (fun _ => 0))), (q_2, .inl (eI E, 75, .inl (fun _ => 0))), (q_3, .inl (eI E, 75, .inl (fun _ => 0))), (q_4, .inl (eI E, 7, .inl (fun _ => 0))), (q_5, .inl (eI E, 120, .inl (fun _ => 0))), (q_6, .inl (eI E, 4, .inl (fun _ => 0))), (q_7, .inl (eI E, 4, .inl (fun _ => 0)))] := hD
  refine lv_aload_n F.1 F.2.1 dX4_init_58 rfl (lv_at hl 0 rfl) ?_
  refine lv_sipush (v := 160) F.1 F.2.1 dX4_init_59 (by decide) ?_
  refine g_newJ F hX hP hD hS hA (mm 12 rfl) (N := 160) (by decide) (by decide) (Nat.le_of_ble_eq_true rfl) (Nat.le_of_ble_eq_true rfl) dX4_init_62 (fun q_8 H hP hD hS => ?_)
  have hP : va_P (eD E) vwCl [(h, .inr (4, [.ref q_1, .ref q_2, .ref q_3, .int 0, .ref q_4, .ref q_5, .int 0, .int 0, .int 0, .int 0, .int 0, .int 0, .ref q_6, .ref q_7, .null])), (q_1, .inl (eI E, 75, .inl (fun _ => 0))), (q_2, .inl (eI E, 75, .inl (fun _ => 0))), (q_3, .inl (eI E, 75, .inl (fun _ => 0))), (q_4, .inl (eI E, 7, .inl (fun _ => 0))), (q_5, .inl (eI E, 120, .inl (fun _ => 0))), (q_6, .inl (eI E, 4, .inl (fun _ => 0))), (q_7, .inl (eI E, 4, .inl (fun _ => 0))), (q_8, .inl (eJ E, 160, .inr (.inl (fun _ => 0))))] H := hP
  have hD : va_D A [(h, .inr (4, [.ref q_1, .ref q_2, .ref q_3, .int 0, .ref q_4, .ref q_5, .int 0, .int 0, .int 0, .int 0, .int 0, .int 0, .ref q_6, .ref q_7, .null])), (q_1, .inl (eI E, 75, .inl (fun _ => 0))), (q_2, .inl (eI E, 75, .inl (fun _ => 0))), (q_3, .inl (eI E, 75, .inl (fun _ => 0))), (q_4, .inl (eI E, 7, .inl (fun _ => 0))), (q_5, .inl (eI E, 120, .inl (fun _ => 0))), (q_6, .inl (eI E, 4, .inl (fun _ => 0))), (q_7, .inl (eI E, 4, .inl (fun _ => 0))), (q_8, .inl (eJ E, 160, .inr (.inl (fun _ => 0))))] := hD
  refine W.widen (k := 8) (n := 520) (Nat.le_of_ble_eq_true rfl) (Nat.le_of_ble_eq_true rfl) ?_
  refine g_putF F hX hP hD hS hnm hin4 tyX4 tyX4_ok nmX4 0 rfl rfl 14 (by decide) (mm 13 rfl) rfl rfl rfl rfl (Nat.le_of_ble_eq_true rfl) dX4_init_64 (fun H locs hP hD hS => ?_)
  have hP : va_P (eD E) vwCl [(h, .inr (4, [.ref q_1, .ref q_2, .ref q_3, .int 0, .ref q_4, .ref q_5, .int 0, .int 0, .int 0, .int 0, .int 0, .int 0, .ref q_6, .ref q_7, .ref q_8])), (q_1, .inl (eI E, 75, .inl (fun _ => 0))), (q_2, .inl (eI E, 75, .inl (fun _ => 0))), (q_3, .inl (eI E, 75, .inl (fun _ => 0))), (q_4, .inl (eI E, 7, .inl (fun _ => 0))), (q_5, .inl (eI E, 120, .inl (fun _ => 0))), (q_6, .inl (eI E, 4, .inl (fun _ => 0))), (q_7, .inl (eI E, 4, .inl (fun _ => 0))), (q_8, .inl (eJ E, 160, .inr (.inl (fun _ => 0))))] H := hP
  have hD : va_D A [(h, .inr (4, [.ref q_1, .ref q_2, .ref q_3, .int 0, .ref q_4, .ref q_5, .int 0, .int 0, .int 0, .int 0, .int 0, .int 0, .ref q_6, .ref q_7, .ref q_8])), (q_1, .inl (eI E, 75, .inl (fun _ => 0))), (q_2, .inl (eI E, 75, .inl (fun _ => 0))), (q_3, .inl (eI E, 75, .inl (fun _ => 0))), (q_4, .inl (eI E, 7, .inl (fun _ => 0))), (q_5, .inl (eI E, 120, .inl (fun _ => 0))), (q_6, .inl (eI E, 4, .inl (fun _ => 0))), (q_7, .inl (eI E, 4, .inl (fun _ => 0))), (q_8, .inl (eJ E, 160, .inr (.inl (fun _ => 0))))] := hD
  refine lv_aload_n F.1 F.2.1 dX4_init_67 rfl (lv_at hl 0 rfl) ?_
  refine g_get F hX hP hin4 0 rfl rfl 0 (by decide) (mm 5 rfl) rfl dX4_init_68 ?_
  refine lv_iconst (v := 1) F.1 F.2.1 dX4_init_71 (by decide) ?_
  refine lv_bipush (v := 30) F.1 F.2.1 dX4_init_72 (by decide) ?_
  refine g_iast F hX hP hD hS 1 rfl (j := 1) (rfl) (by decide) (by decide) dX4_init_74 (fun H locs hP hD hS => ?_)
  have hP : va_P (eD E) vwCl [(h, .inr (4, [.ref q_1, .ref q_2, .ref q_3, .int 0, .ref q_4, .ref q_5, .int 0, .int 0, .int 0, .int 0, .int 0, .int 0, .ref q_6, .ref q_7, .ref q_8])), (q_1, .inl (eI E, 75, .inl (upd (fun _ => 0) 1 30))), (q_2, .inl (eI E, 75, .inl (fun _ => 0))), (q_3, .inl (eI E, 75, .inl (fun _ => 0))), (q_4, .inl (eI E, 7, .inl (fun _ => 0))), (q_5, .inl (eI E, 120, .inl (fun _ => 0))), (q_6, .inl (eI E, 4, .inl (fun _ => 0))), (q_7, .inl (eI E, 4, .inl (fun _ => 0))), (q_8, .inl (eJ E, 160, .inr (.inl (fun _ => 0))))] H := hP
  have hD : va_D A [(h, .inr (4, [.ref q_1, .ref q_2, .ref q_3, .int 0, .ref q_4, .ref q_5, .int 0, .int 0, .int 0, .int 0, .int 0, .int 0, .ref q_6, .ref q_7, .ref q_8])), (q_1, .inl (eI E, 75, .inl (upd (fun _ => 0) 1 30))), (q_2, .inl (eI E, 75, .inl (fun _ => 0))), (q_3, .inl (eI E, 75, .inl (fun _ => 0))), (q_4, .inl (eI E, 7, .inl (fun _ => 0))), (q_5, .inl (eI E, 120, .inl (fun _ => 0))), (q_6, .inl (eI E, 4, .inl (fun _ => 0))), (q_7, .inl (eI E, 4, .inl (fun _ => 0))), (q_8, .inl (eJ E, 160, .inr (.inl (fun _ => 0))))] := hD
  refine lv_aload_n F.1 F.2.1 dX4_init_75 rfl (lv_at hl 0 rfl) ?_
  refine g_get F hX hP hin4 0 rfl rfl 0 (by decide) (mm 5 rfl) rfl dX4_init_76 ?_
  refine lv_iconst (v := 2) F.1 F.2.1 dX4_init_79 (by decide) ?_
  refine lv_iconst (v := 3) F.1 F.2.1 dX4_init_80 (by decide) ?_
  refine g_iast F hX hP hD hS 1 rfl (j := 2) (rfl) (by decide) (by decide) dX4_init_81 (fun H locs hP hD hS => ?_)
  have hP : va_P (eD E) vwCl [(h, .inr (4, [.ref q_1, .ref q_2, .ref q_3, .int 0, .ref q_4, .ref q_5, .int 0, .int 0, .int 0, .int 0, .int 0, .int 0, .ref q_6, .ref q_7, .ref q_8])), (q_1, .inl (eI E, 75, .inl (upd (upd (fun _ => 0) 1 30) 2 3))), (q_2, .inl (eI E, 75, .inl (fun _ => 0))), (q_3, .inl (eI E, 75, .inl (fun _ => 0))), (q_4, .inl (eI E, 7, .inl (fun _ => 0))), (q_5, .inl (eI E, 120, .inl (fun _ => 0))), (q_6, .inl (eI E, 4, .inl (fun _ => 0))), (q_7, .inl (eI E, 4, .inl (fun _ => 0))), (q_8, .inl (eJ E, 160, .inr (.inl (fun _ => 0))))] H := hP
  have hD : va_D A [(h, .inr (4, [.ref q_1, .ref q_2, .ref q_3, .int 0, .ref q_4, .ref q_5, .int 0, .int 0, .int 0, .int 0, .int 0, .int 0, .ref q_6, .ref q_7, .ref q_8])), (q_1, .inl (eI E, 75, .inl (upd (upd (fun _ => 0) 1 30) 2 3))), (q_2, .inl (eI E, 75, .inl (fun _ => 0))), (q_3, .inl (eI E, 75, .inl (fun _ => 0))), (q_4, .inl (eI E, 7, .inl (fun _ => 0))), (q_5, .inl (eI E, 120, .inl (fun _ => 0))), (q_6, .inl (eI E, 4, .inl (fun _ => 0))), (q_7, .inl (eI E, 4, .inl (fun _ => 0))), (q_8, .inl (eJ E, 160, .inr (.inl (fun _ => 0))))] := hD
  refine lv_aload_n F.1 F.2.1 dX4_init_82 rfl (lv_at hl 0 rfl) ?_
  refine g_get F hX hP hin4 0 rfl rfl 0 (by decide) (mm 5 rfl) rfl dX4_init_83 ?_
  refine lv_iconst (v := 3) F.1 F.2.1 dX4_init_86 (by decide) ?_
  refine lv_iconst (v := 1) F.1 F.2.1 dX4_init_87 (by decide) ?_
  refine g_iast F hX hP hD hS 1 rfl (j := 3) (rfl) (by decide) (by decide) dX4_init_88 (fun H locs hP hD hS => ?_)
  have hP : va_P (eD E) vwCl [(h, .inr (4, [.ref q_1, .ref q_2, .ref q_3, .int 0, .ref q_4, .ref q_5, .int 0, .int 0, .int 0, .int 0, .int 0, .int 0, .ref q_6, .ref q_7, .ref q_8])), (q_1, .inl (eI E, 75, .inl (upd (upd (upd (fun _ => 0) 1 30) 2 3) 3 1))), (q_2, .inl (eI E, 75, .inl (fun _ => 0))), (q_3, .inl (eI E, 75, .inl (fun _ => 0))), (q_4, .inl (eI E, 7, .inl (fun _ => 0))), (q_5, .inl (eI E, 120, .inl (fun _ => 0))), (q_6, .inl (eI E, 4, .inl (fun _ => 0))), (q_7, .inl (eI E, 4, .inl (fun _ => 0))), (q_8, .inl (eJ E, 160, .inr (.inl (fun _ => 0))))] H := hP
  have hD : va_D A [(h, .inr (4, [.ref q_1, .ref q_2, .ref q_3, .int 0, .ref q_4, .ref q_5, .int 0, .int 0, .int 0, .int 0, .int 0, .int 0, .ref q_6, .ref q_7, .ref q_8])), (q_1, .inl (eI E, 75, .inl (upd (upd (upd (fun _ => 0) 1 30) 2 3) 3 1))), (q_2, .inl (eI E, 75, .inl (fun _ => 0))), (q_3, .inl (eI E, 75, .inl (fun _ => 0))), (q_4, .inl (eI E, 7, .inl (fun _ => 0))), (q_5, .inl (eI E, 120, .inl (fun _ => 0))), (q_6, .inl (eI E, 4, .inl (fun _ => 0))), (q_7, .inl (eI E, 4, .inl (fun _ => 0))), (q_8, .inl (eJ E, 160, .inr (.inl (fun _ => 0))))] := hD
  refine lv_iconst (v := 0) F.1 F.2.1 dX4_init_89 (by decide) ?_
  refine lv_istore_n (lv' := [(1, .int 0), (0, .ref h)]) F.1 F.2.1 dX4_init_90 rfl hl (by decide) rfl (fun ls hl => ?_)
  have lp91 : ∀ (fu i : Nat), i ≤ 30 → 30 + 1 ≤ i + fu → ∀ (H : Heap) (locs : List Loc) (ls : Array Slot), va_P (eD E) vwCl [(h, .inr (4, [.ref q_1, .ref q_2, .ref q_3, .int 0, .ref q_4, .ref q_5, .int 0, .int 0, .int 0, .int 0, .int 0, .int 0, .ref q_6, .ref q_7, .ref q_8])), (q_1, .inl (eI E, 75, .inl (moI i))), (q_2, .inl (eI E, 75, .inl (fun _ => 0))), (q_3, .inl (eI E, 75, .inl (fun _ => 0))), (q_4, .inl (eI E, 7, .inl (fun _ => 0))), (q_5, .inl (eI E, 120, .inl (fun _ => 0))), (q_6, .inl (eI E, 4, .inl (fun _ => 0))), (q_7, .inl (eI E, 4, .inl (fun _ => 0))), (q_8, .inl (eJ E, 160, .inr (.inl (fun _ => 0))))] H → va_D A [(h, .inr (4, [.ref q_1, .ref q_2, .ref q_3, .int 0, .ref q_4, .ref q_5, .int 0, .int 0, .int 0, .int 0, .int 0, .int 0, .ref q_6, .ref q_7, .ref q_8])), (q_1, .inl (eI E, 75, .inl (moI i))), (q_2, .inl (eI E, 75, .inl (fun _ => 0))), (q_3, .inl (eI E, 75, .inl (fun _ => 0))), (q_4, .inl (eI E, 7, .inl (fun _ => 0))), (q_5, .inl (eI E, 120, .inl (fun _ => 0))), (q_6, .inl (eI E, 4, .inl (fun _ => 0))), (q_7, .inl (eI E, 4, .inl (fun _ => 0))), (q_8, .inl (eJ E, 160, .inr (.inl (fun _ => 0))))] → va_S A sG.heap H locs → lv_has ls 2 [(1, .int (nI i)), (0, .ref h)] → W pG l eG { frames := 1, cells := 8, slots := 520, locals := 12 } sG mG [.ref h].toArray below meth cG H locs 8 520 (MQ below (va_Qv (fun _ : Nat × Nat × Nat × Nat × Nat × Nat × Nat × Nat => True) (gR E (fun u : Nat × Nat × Nat × Nat × Nat × Nat × Nat × Nat => [(h, .inr (4, [.ref u.1, .ref u.2.1, .ref u.2.2.1, .int (bi false), .ref u.2.2.2.1, .ref u.2.2.2.2.1, .int (nI 0), .int 0, .int 0, .int 0, .int 0, .int 0, .ref u.2.2.2.2.2.1, .ref u.2.2.2.2.2.2.1, .ref u.2.2.2.2.2.2.2])), (u.1, .inl (eI E, 75, .inl (moI 30))), (u.2.1, .inl (eI E, 75, .inl (fun _ => 0))), (u.2.2.1, .inl (eI E, 75, .inl (fun _ => 0))), (u.2.2.2.1, .inl (eI E, 7, .inl (fun _ => 0))), (u.2.2.2.2.1, .inl (eI E, 120, .inl (fun _ => 0))), (u.2.2.2.2.2.1, .inl (eI E, 4, .inl (fun _ => 0))), (u.2.2.2.2.2.2.1, .inl (eI E, 4, .inl (fun _ => 0))), (u.2.2.2.2.2.2.2, .inl (eJ E, 160, .inr (.inl (fun _ => 0))))]) A) A) [.ref h].toArray sG 8 520 A) (F0 mG 91 ls []) := by
    intro fu
    induction fu with
    | zero => intro i h1 h2; exact absurd h2 (by omega)
    | succ fu ih =>
      intro i hi hin   H locs ls hP hD hS hl
      refine lv_iload_n F.1 F.2.1 dX4_init_91 rfl (lv_at hl 0 rfl) ?_
      refine lv_bipush (v := 30) F.1 F.2.1 dX4_init_92 (by decide) ?_
      refine lv_icmp_ge (tgt := 117) F.1 F.2.1 dX4_init_94 (by decide) (fun k1 => ?_) (fun k1 => ?_)
      · have hiN : 30 = i := Nat.le_antisymm ((nI_leI (by omega) (by omega)).mp k1) hi
        subst hiN
        exact g_retn F hr hlk hS (hP.sub [0, 1, 2, 3, 4, 5, 6, 7, 8] rfl) (hD.sub [0, 1, 2, 3, 4, 5, 6, 7, 8] (by decide) rfl) ((q_1, q_2, q_3, q_4, q_5, q_6, q_7, q_8)) (rfl) dX4_init_117
      · have hiN : i < 30 := Nat.lt_of_not_le (fun h => k1 (nI_le h (by omega)))
        refine lv_aload_n F.1 F.2.1 dX4_init_97 rfl (lv_at hl 1 rfl) ?_
        refine g_get F hX hP hin4 0 rfl rfl 0 (by decide) (mm 5 rfl) rfl dX4_init_98 ?_
        refine lv_iconst (v := 5) F.1 F.2.1 dX4_init_101 (by decide) ?_
        refine lv_iload_n F.1 F.2.1 dX4_init_102 rfl (lv_at hl 0 rfl) ?_
        refine lv_iadd F.1 F.2.1 dX4_init_103 ?_
        refine lv_iconst (v := 4) F.1 F.2.1 dX4_init_104 (by decide) ?_
        refine lv_iload_n F.1 F.2.1 dX4_init_105 rfl (lv_at hl 0 rfl) ?_
        refine lv_imul F.1 F.2.1 dX4_init_106 ?_
        refine lv_bipush (v := 7) F.1 F.2.1 dX4_init_107 (by decide) ?_
        refine lv_irem F.1 F.2.1 dX4_init_109 (by decide) ?_
        refine g_top (no0 i) (no_rem hiN) ?_
        refine g_iast F hX hP hD hS 1 rfl (j := 5 + i) (nI_add 5 i) (by omega) (by decide) dX4_init_110 (fun H locs hP hD hS => ?_)
        have hP : va_P (eD E) vwCl [(h, .inr (4, [.ref q_1, .ref q_2, .ref q_3, .int 0, .ref q_4, .ref q_5, .int 0, .int 0, .int 0, .int 0, .int 0, .int 0, .ref q_6, .ref q_7, .ref q_8])), (q_1, .inl (eI E, 75, .inl (upd (moI i) (5 + i) (no0 i)))), (q_2, .inl (eI E, 75, .inl (fun _ => 0))), (q_3, .inl (eI E, 75, .inl (fun _ => 0))), (q_4, .inl (eI E, 7, .inl (fun _ => 0))), (q_5, .inl (eI E, 120, .inl (fun _ => 0))), (q_6, .inl (eI E, 4, .inl (fun _ => 0))), (q_7, .inl (eI E, 4, .inl (fun _ => 0))), (q_8, .inl (eJ E, 160, .inr (.inl (fun _ => 0))))] H := hP
        have hD : va_D A [(h, .inr (4, [.ref q_1, .ref q_2, .ref q_3, .int 0, .ref q_4, .ref q_5, .int 0, .int 0, .int 0, .int 0, .int 0, .int 0, .ref q_6, .ref q_7, .ref q_8])), (q_1, .inl (eI E, 75, .inl (upd (moI i) (5 + i) (no0 i)))), (q_2, .inl (eI E, 75, .inl (fun _ => 0))), (q_3, .inl (eI E, 75, .inl (fun _ => 0))), (q_4, .inl (eI E, 7, .inl (fun _ => 0))), (q_5, .inl (eI E, 120, .inl (fun _ => 0))), (q_6, .inl (eI E, 4, .inl (fun _ => 0))), (q_7, .inl (eI E, 4, .inl (fun _ => 0))), (q_8, .inl (eJ E, 160, .inr (.inl (fun _ => 0))))] := hD
        refine lv_iinc (v := nI (i + 1)) (lv' := [(1, .int (nI (i + 1))), (0, .ref h)]) F.1 F.2.1 dX4_init_111 hl (k := 0) rfl (nI_1 _) (by decide) rfl (fun ls hl => ?_)
        refine lv_goto (tgt := 91) F.1 F.2.1 dX4_init_114 (by decide) ?_
        have ecell : (upd (moI i) (5 + i) (no0 i)) = (moI (i + 1)) := moI_s _ _ rfl
        rw [ecell] at hP hD
        clear ecell
        have hP : va_P (eD E) vwCl [(h, .inr (4, [.ref q_1, .ref q_2, .ref q_3, .int 0, .ref q_4, .ref q_5, .int 0, .int 0, .int 0, .int 0, .int 0, .int 0, .ref q_6, .ref q_7, .ref q_8])), (q_1, .inl (eI E, 75, .inl (moI (i + 1)))), (q_2, .inl (eI E, 75, .inl (fun _ => 0))), (q_3, .inl (eI E, 75, .inl (fun _ => 0))), (q_4, .inl (eI E, 7, .inl (fun _ => 0))), (q_5, .inl (eI E, 120, .inl (fun _ => 0))), (q_6, .inl (eI E, 4, .inl (fun _ => 0))), (q_7, .inl (eI E, 4, .inl (fun _ => 0))), (q_8, .inl (eJ E, 160, .inr (.inl (fun _ => 0))))] H := hP
        have hD : va_D A [(h, .inr (4, [.ref q_1, .ref q_2, .ref q_3, .int 0, .ref q_4, .ref q_5, .int 0, .int 0, .int 0, .int 0, .int 0, .int 0, .ref q_6, .ref q_7, .ref q_8])), (q_1, .inl (eI E, 75, .inl (moI (i + 1)))), (q_2, .inl (eI E, 75, .inl (fun _ => 0))), (q_3, .inl (eI E, 75, .inl (fun _ => 0))), (q_4, .inl (eI E, 7, .inl (fun _ => 0))), (q_5, .inl (eI E, 120, .inl (fun _ => 0))), (q_6, .inl (eI E, 4, .inl (fun _ => 0))), (q_7, .inl (eI E, 4, .inl (fun _ => 0))), (q_8, .inl (eJ E, 160, .inr (.inl (fun _ => 0))))] := hD
        exact ih (i + 1) (by omega) (by omega)  _ _ _ hP hD hS (lv_sub hl [0, 1] rfl)
  have ecell : (upd (upd (upd (fun _ => 0) 1 30) 2 3) 3 1) = (moI 0) := moI_0
  rw [ecell] at hP hD
  clear ecell
  have hP : va_P (eD E) vwCl [(h, .inr (4, [.ref q_1, .ref q_2, .ref q_3, .int 0, .ref q_4, .ref q_5, .int 0, .int 0, .int 0, .int 0, .int 0, .int 0, .ref q_6, .ref q_7, .ref q_8])), (q_1, .inl (eI E, 75, .inl (moI 0))), (q_2, .inl (eI E, 75, .inl (fun _ => 0))), (q_3, .inl (eI E, 75, .inl (fun _ => 0))), (q_4, .inl (eI E, 7, .inl (fun _ => 0))), (q_5, .inl (eI E, 120, .inl (fun _ => 0))), (q_6, .inl (eI E, 4, .inl (fun _ => 0))), (q_7, .inl (eI E, 4, .inl (fun _ => 0))), (q_8, .inl (eJ E, 160, .inr (.inl (fun _ => 0))))] H := hP
  have hD : va_D A [(h, .inr (4, [.ref q_1, .ref q_2, .ref q_3, .int 0, .ref q_4, .ref q_5, .int 0, .int 0, .int 0, .int 0, .int 0, .int 0, .ref q_6, .ref q_7, .ref q_8])), (q_1, .inl (eI E, 75, .inl (moI 0))), (q_2, .inl (eI E, 75, .inl (fun _ => 0))), (q_3, .inl (eI E, 75, .inl (fun _ => 0))), (q_4, .inl (eI E, 7, .inl (fun _ => 0))), (q_5, .inl (eI E, 120, .inl (fun _ => 0))), (q_6, .inl (eI E, 4, .inl (fun _ => 0))), (q_7, .inl (eI E, 4, .inl (fun _ => 0))), (q_8, .inl (eJ E, 160, .inr (.inl (fun _ => 0))))] := hD
  exact lp91 (30 + 1) 0 (by omega) (by omega)  _ _ _ hP hD hS (lv_sub hl [0, 1] rfl)
