def mn_write (b : Int32) (Z : Nat) (ce : Nat → Int64) (fd : Nat → Int32) (a1 a2 : Int32) (v : Int64) : Int64 × (Nat → Int64) × (Nat → Int32) := if fobC a1 b a2 Z = 0 then (ce (40 * ix a1 + ix a2), vp_updL ce (40 * ix a1 + ix a2) (cutC b v), fd) else ((fobC a1 b a2 Z).toInt64, ce, fn fd (fobK a1 b))
set_option maxHeartbeats 4000000 in
set_option maxRecDepth 100000 in
theorem c_X4_write (l : Launch) (E : gE) (h : Nat) (fs : List Value) (qf : Nat) (qb : Nat) (qs : Nat) (qc : Nat) (bi4 : Nat → Int32) (si4 : Nat → Int32) (ce : Nat → Int64) (fd : Nat → Int32) (Z : Nat) (a1 : Int32) (a2 : Int32) (v : Int64) (hf4 : fs[4]? = some (.ref qf)) (hf12 : fs[12]? = some (.ref qb)) (hf13 : fs[13]? = some (.ref qs)) (hf14 : fs[14]? = some (.ref qc)) (hZ : Z ≤ 40) (hsz : inR a1 0 3 = true → si4 (ix a1) = nI Z) : gL l yX4_write wsX4_write ({ frames := 3, cells := 0, slots := 0, locals := 64 }) E [(h, .inr (4, fs)), (qb, .inl (eI E, 4, .inl bi4)), (qs, .inl (eI E, 4, .inl si4)), (qc, .inl (eJ E, 160, .inr (.inl ce))), (qf, .inl (eI E, 7, .inl fd))] (fun u : (Nat → Int64) × (Nat → Int32) => [(h, .inr (4, fs)), (qb, .inl (eI E, 4, .inl bi4)), (qs, .inl (eI E, 4, .inl si4)), (qc, .inl (eJ E, 160, .inr (.inl u.1))), (qf, .inl (eI E, 7, .inl u.2))]) [.ref h, .int a1, .int a2, .long v] (fun (r : Int64) (u : (Nat → Int64) × (Nat → Int32)) => (r, u) = mn_write (bi4 (ix a1)) Z ce fd a1 a2 v) := by
  have hin4 : ∀ w ∈ wsX40, w ∈ wsX4_write := (fun _ h => (List.mem_cons_of_mem _ (List.mem_append_right _ h)))
  refine gL.of (cc := cX4_write) (maxL := 8) (by decide) rfl (Nat.le_of_ble_eq_true rfl) ?_
  intro pG eG sG mG below meth cG A ls H locs F hr hlk hX hP hD hA hS hl
  have hl : lv_has ls 8 [(0, .ref h), (1, .int a1), (2, .int a2), (3, .long v)] := hl
  refine lv_aload_n F.1 F.2.1 dX4_write_0 rfl (lv_at hl 0 rfl) ?_
  refine lv_iload_n F.1 F.2.1 dX4_write_1 rfl (lv_at hl 1 rfl) ?_
  refine g_goIr (g_runV (As := [.int a1]) (rest := []) F hX hP hD hS hA (c_X4_notThere l E h fs qb bi4 a1 (by first | assumption | rfl) H.size) (cwV 1 F.2.2.2.2 gX4_write_X4_notThere rfl rfl rfl (by decide +kernel) ⟨Nat.le_of_ble_eq_true rfl, Nat.le_of_ble_eq_true rfl⟩) [0, 1] rfl rfl (q0 := 0) (ci := 4) rfl rfl rfl hl.1 rfl (Nat.le_of_ble_eq_true rfl) dX4_write_2 ⟨Nat.le_refl _, Nat.le_refl _⟩) hP hD hS hA [0, 1] rfl (fun r _ H locs hq hP hS => ?_)
  subst hq
  refine lv_istore (lv' := [(5, .int (ntC a1 (bi4 (ix a1)))), (0, .ref h), (1, .int a1), (2, .int a2), (3, .long v)]) F.1 F.2.1 dX4_write_5 hl (by decide) rfl (fun ls hl => ?_)
  refine lv_iload F.1 F.2.1 dX4_write_7 (lv_at hl 0 rfl) ?_
  have jn33 : ∀ (H : Heap) (locs : List Loc) (ls : Array Slot), va_P (eD E) vwCl [(h, .inr (4, fs)), (qb, .inl (eI E, 4, .inl bi4)), (qs, .inl (eI E, 4, .inl si4)), (qc, .inl (eJ E, 160, .inr (.inl ce))), (qf, .inl (eI E, 7, .inl fd))] H → va_D A [(h, .inr (4, fs)), (qb, .inl (eI E, 4, .inl bi4)), (qs, .inl (eI E, 4, .inl si4)), (qc, .inl (eJ E, 160, .inr (.inl ce))), (qf, .inl (eI E, 7, .inl fd))] → va_S A sG.heap H locs → lv_has ls 8 [(5, .int (fobC a1 (bi4 (ix a1)) a2 Z)), (0, .ref h), (1, .int a1), (2, .int a2), (3, .long v)] → W pG l eG { frames := 3, cells := 0, slots := 0, locals := 64 } sG mG [.ref h, .int a1, .int a2, .long v].toArray below meth cG H locs 0 0 (MQ below (va_Ql (fun (r : Int64) (u : (Nat → Int64) × (Nat → Int32)) => (r, u) = mn_write (bi4 (ix a1)) Z ce fd a1 a2 v) (gR E (fun u : (Nat → Int64) × (Nat → Int32) => [(h, .inr (4, fs)), (qb, .inl (eI E, 4, .inl bi4)), (qs, .inl (eI E, 4, .inl si4)), (qc, .inl (eJ E, 160, .inr (.inl u.1))), (qf, .inl (eI E, 7, .inl u.2))]) A) A) [.ref h, .int a1, .int a2, .long v].toArray sG 0 0 A) (F0 mG 33 ls []) := by
    intro H locs ls hP hD hS hl
    refine lv_iload F.1 F.2.1 dX4_write_33 (lv_at hl 0 rfl) ?_
    refine lv_if_eq (tgt := 46) F.1 F.2.1 dX4_write_35 (by decide) (fun k1 => ?_) (fun k1 => ?_)
    · obtain ⟨f1, f2, f3⟩ := fob_0 k1
      obtain ⟨e_a1, b_a1⟩ := ix_of 3 f1 (by decide) (by decide)
      have hl : lv_has ls 8 [(5, .int (fobC a1 (bi4 (ix a1)) a2 Z)), (0, .ref h), (1, .int (nI (ix a1))), (2, .int a2), (3, .long v)] := by rw [← e_a1]; exact hl
      obtain ⟨e_a2, b_a2⟩ := ix_upto f3 hZ
      have hl : lv_has ls 8 [(5, .int (fobC a1 (bi4 (ix a1)) a2 Z)), (0, .ref h), (1, .int (nI (ix a1))), (2, .int (nI (ix a2))), (3, .long v)] := by rw [← e_a2]; exact hl
      refine lv_aload_n F.1 F.2.1 dX4_write_46 rfl (lv_at hl 1 rfl) ?_
      refine g_get F hX hP hin4 0 rfl rfl 14 (by decide) (mm 3 rfl) hf14 dX4_write_47 ?_
      refine lv_bipush (v := 40) F.1 F.2.1 dX4_write_50 (by decide) ?_
      refine lv_iload_n F.1 F.2.1 dX4_write_52 rfl (lv_at hl 2 rfl) ?_
      refine lv_imul F.1 F.2.1 dX4_write_53 ?_
      refine lv_iload_n F.1 F.2.1 dX4_write_54 rfl (lv_at hl 3 rfl) ?_
      refine lv_iadd F.1 F.2.1 dX4_write_55 ?_
      refine g_lald F hX hP 3 rfl (j := 40 * ix a1 + ix a2) (i40 _ _) (by omega) (by decide) dX4_write_56 ?_
      refine lv_lstore (lv' := [(6, .long (ce (40 * ix a1 + ix a2))), (5, .int (fobC a1 (bi4 (ix a1)) a2 Z)), (0, .ref h), (1, .int (nI (ix a1))), (2, .int (nI (ix a2))), (3, .long v)]) F.1 F.2.1 dX4_write_57 hl (by decide) rfl (fun ls hl => ?_)
      refine lv_aload_n F.1 F.2.1 dX4_write_59 rfl (lv_at hl 2 rfl) ?_
      refine g_get F hX hP hin4 0 rfl rfl 14 (by decide) (mm 3 rfl) hf14 dX4_write_60 ?_
      refine lv_bipush (v := 40) F.1 F.2.1 dX4_write_63 (by decide) ?_
      refine lv_iload_n F.1 F.2.1 dX4_write_65 rfl (lv_at hl 3 rfl) ?_
      refine lv_imul F.1 F.2.1 dX4_write_66 ?_
      refine lv_iload_n F.1 F.2.1 dX4_write_67 rfl (lv_at hl 4 rfl) ?_
      refine lv_iadd F.1 F.2.1 dX4_write_68 ?_
      refine lv_aload_n F.1 F.2.1 dX4_write_69 rfl (lv_at hl 2 rfl) ?_
      refine g_get F hX hP hin4 0 rfl rfl 12 (by decide) (mm 4 rfl) hf12 dX4_write_70 ?_
      refine lv_iload_n F.1 F.2.1 dX4_write_73 rfl (lv_at hl 3 rfl) ?_
      refine g_iald F hX hP 1 rfl (j := (ix a1)) (rfl) (by omega) (by decide) dX4_write_74 ?_
      refine lv_lload_n F.1 F.2.1 dX4_write_75 rfl (lv_at hl 5 rfl) ?_
      refine g_goLr (g_runS (As := [.int (bi4 (ix a1)), .long v]) (rest := [.int ((40 * (nI (ix a1))) + (nI (ix a2))), .ref qc]) F hX hP hD hS hA (c_X4_cutTo l E (bi4 (ix a1)) v H.size) (va_cwS 2 F.2.2.2.2 gX4_write_X4_cutTo rfl rfl rfl (by decide +kernel) ⟨Nat.le_of_ble_eq_true rfl, Nat.le_of_ble_eq_true rfl⟩) [] rfl rfl rfl hl.1 rfl (Nat.le_of_ble_eq_true rfl) dX4_write_76 ⟨Nat.le_refl _, Nat.le_refl _⟩) hP hD hS hA [] rfl (fun r _ H locs hq hP hS => ?_)
      subst hq
      refine g_last F hX hP hD hS 3 rfl (j := 40 * ix a1 + ix a2) (i40 _ _) (by omega) (by decide) dX4_write_79 (fun H locs hP hD hS => ?_)
      have hP : va_P (eD E) vwCl [(h, .inr (4, fs)), (qb, .inl (eI E, 4, .inl bi4)), (qs, .inl (eI E, 4, .inl si4)), (qc, .inl (eJ E, 160, .inr (.inl (vp_updL ce (40 * ix a1 + ix a2) (cutC (bi4 (ix a1)) v))))), (qf, .inl (eI E, 7, .inl fd))] H := hP
      have hD : va_D A [(h, .inr (4, fs)), (qb, .inl (eI E, 4, .inl bi4)), (qs, .inl (eI E, 4, .inl si4)), (qc, .inl (eJ E, 160, .inr (.inl (vp_updL ce (40 * ix a1 + ix a2) (cutC (bi4 (ix a1)) v))))), (qf, .inl (eI E, 7, .inl fd))] := hD
      refine lv_lload F.1 F.2.1 dX4_write_80 (lv_at hl 0 rfl) ?_
      exact g_retl F hr hlk hS hP hD ((vp_updL ce (40 * ix a1 + ix a2) (cutC (bi4 (ix a1)) v), fd)) (rfl) (by unfold mn_write; rw [if_pos k1]) dX4_write_82
    · refine lv_aload_n F.1 F.2.1 dX4_write_38 rfl (lv_at hl 1 rfl) ?_
      refine lv_iload F.1 F.2.1 dX4_write_39 (lv_at hl 0 rfl) ?_
      refine g_goI (wr := [(qb, .inl (eI E, 4, .inl bi4)), (qs, .inl (eI E, 4, .inl si4)), (qc, .inl (eJ E, 160, .inr (.inl ce)))]) (g_runV (As := [.int (fobC a1 (bi4 (ix a1)) a2 Z)]) (rest := []) F hX hP hD hS hA (c_X4_finds l E h fs qf fd (fobC a1 (bi4 (ix a1)) a2 Z) (fobK a1 (bi4 (ix a1))) (by first | assumption | rfl) ((fob_k k1).1) ((fob_k k1).2) H.size) (cwV 1 F.2.2.2.2 gX4_write_X4_finds rfl rfl rfl (by decide +kernel) ⟨Nat.le_of_ble_eq_true rfl, Nat.le_of_ble_eq_true rfl⟩) [0, 4] rfl rfl (q0 := 0) (ci := 4) rfl rfl rfl hl.1 rfl (Nat.le_of_ble_eq_true rfl) dX4_write_41 ⟨Nat.le_refl _, Nat.le_refl _⟩) hP hD hS hA [0, 4] [1, 2, 3] rfl rfl rfl (by decide) (fun r _ H locs hq hP hD hS => ?_)
      have hP : va_P (eD E) vwCl [(h, .inr (4, fs)), (qb, .inl (eI E, 4, .inl bi4)), (qs, .inl (eI E, 4, .inl si4)), (qc, .inl (eJ E, 160, .inr (.inl ce))), (qf, .inl (eI E, 7, .inl (upd fd (fobK a1 (bi4 (ix a1))) (fd (fobK a1 (bi4 (ix a1))) + 1))))] H := hP.sub [3, 0, 1, 2, 4] rfl
      have hD : va_D A [(h, .inr (4, fs)), (qb, .inl (eI E, 4, .inl bi4)), (qs, .inl (eI E, 4, .inl si4)), (qc, .inl (eJ E, 160, .inr (.inl ce))), (qf, .inl (eI E, 7, .inl (upd fd (fobK a1 (bi4 (ix a1))) (fd (fobK a1 (bi4 (ix a1))) + 1))))] := hD.sub [3, 0, 1, 2, 4] (by decide) rfl
      subst hq
      refine lv_i2l (v := ((fobC a1 (bi4 (ix a1)) a2 Z) : Int32).toInt64) F.1 F.2.1 dX4_write_44 rfl ?_
      exact g_retl F hr hlk hS hP hD ((ce, upd fd (fobK a1 (bi4 (ix a1))) (fd (fobK a1 (bi4 (ix a1))) + 1))) (rfl) (by unfold mn_write; rw [if_neg k1]; rfl) dX4_write_45
  refine lv_if_ne (tgt := 33) F.1 F.2.1 dX4_write_9 (by decide) (fun k2 => ?_) (fun k2 => ?_)
  · rw [show (ntC a1 (bi4 (ix a1)) : Int32) = fobC a1 (bi4 (ix a1)) a2 Z from by first | exact nt_fob3 k2 k2 | exact nt_fob2 k2 k2 | exact nt_fob1 k2] at hl
    exact jn33 _ _ _ hP hD hS (lv_sub hl [0, 1, 2, 3, 4] rfl)
  · obtain ⟨n1, n2⟩ := nt_0 k2
    refine lv_iload_n F.1 F.2.1 dX4_write_12 rfl (lv_at hl 3 rfl) ?_
    refine lv_i2l (v := (a2 : Int32).toInt64) F.1 F.2.1 dX4_write_13 rfl ?_
    refine lv_iconst (v := 0) F.1 F.2.1 dX4_write_14 (by decide) ?_
    refine lv_aload_n F.1 F.2.1 dX4_write_15 rfl (lv_at hl 1 rfl) ?_
    refine g_get F hX hP hin4 0 rfl rfl 13 (by decide) (mm 1 rfl) hf13 dX4_write_16 ?_
    refine lv_iload_n F.1 F.2.1 dX4_write_19 rfl (lv_at hl 2 rfl) ?_
    refine g_iald F hX hP 2 rfl (j := ix a1) ((ix_of 3 n1 (by decide) (by decide)).1) (by have := (ix_of 3 n1 (by decide) (by decide)).2; omega) (by decide) dX4_write_20 ?_
    refine g_top (nI Z) (hsz n1) ?_
    refine lv_iconst (v := 1) F.1 F.2.1 dX4_write_21 (by decide) ?_
    refine lv_isub F.1 F.2.1 dX4_write_22 ?_
    refine g_goIr (g_runS (As := [.long ((a2 : Int32).toInt64), .int 0, .int ((nI Z) - 1)]) (rest := []) F hX hP hD hS hA (c_X4_in_i l E a2 0 ((nI Z) - 1) H.size) (va_cwS 3 F.2.2.2.2 gX4_write_X4_in rfl rfl rfl (by decide +kernel) ⟨Nat.le_of_ble_eq_true rfl, Nat.le_of_ble_eq_true rfl⟩) [] rfl rfl rfl hl.1 rfl (Nat.le_of_ble_eq_true rfl) dX4_write_23 ⟨Nat.le_refl _, Nat.le_refl _⟩) hP hD hS hA [] rfl (fun r _ H locs hq hP hS => ?_)
    subst hq
    refine g_bne (tgt := 33) F dX4_write_26 (by decide) (fun k3 => ?_) (fun k3 => ?_)
    · rw [show (ntC a1 (bi4 (ix a1)) : Int32) = fobC a1 (bi4 (ix a1)) a2 Z from by first | exact nt_fob3 k2 k3 | exact nt_fob2 k2 k3 | exact nt_fob1 k3] at hl
      exact jn33 _ _ _ hP hD hS (lv_sub hl [0, 1, 2, 3, 4] rfl)
    · refine lv_ldc (v := (-1000000001)) F.1 F.2.1 F.2.2.2.1 (F.2.2.2.2 _ (mm 2 rfl)) dX4_write_29 ?_
      refine lv_istore (lv' := [(5, .int (-1000000001)), (0, .ref h), (1, .int a1), (2, .int a2), (3, .long v)]) F.1 F.2.1 dX4_write_31 hl (by decide) rfl (fun ls hl => ?_)
      rw [show ((-1000000001) : Int32) = fobC a1 (bi4 (ix a1)) a2 Z from by first | exact nt_fob3 k2 k3 | exact nt_fob2 k2 k3 | exact nt_fob1 k3] at hl
      exact jn33 _ _ _ hP hD hS (lv_sub hl [0, 1, 2, 3, 4] rfl)
