def mn_book (P : Nat) (m fd : Nat → Int32) (b : Int32) (Z : Nat) (ce : Nat → Int64) (a1 a2 : Int32) : Int32 × (Nat → Int64) × (Nat → Int32) := if fobC a1 b a2 P = 0 then (nI Z, bkO (fun n => cutC b (pf (itM P m n) (ix a2) 1).toInt64) ce (40 * ix a1) Z, fd) else (fobC a1 b a2 P, ce, fn fd (fobK a1 b))
set_option maxHeartbeats 4000000 in
set_option maxRecDepth 100000 in
theorem c_X4_book (l : Launch) (E : gE) (h : Nat) (fs : List Value) (qm : Nat) (qw : Nat) (qf : Nat) (qb : Nat) (qs : Nat) (qc : Nat) (m : Nat → Int32) (w : Nat → Int32) (bi4 : Nat → Int32) (si4 : Nat → Int32) (ce : Nat → Int64) (fd : Nat → Int32) (P : Nat) (Z : Nat) (a1 : Int32) (a2 : Int32) (hf0 : fs[0]? = some (.ref qm)) (hf2 : fs[2]? = some (.ref qw)) (hf4 : fs[4]? = some (.ref qf)) (hf12 : fs[12]? = some (.ref qb)) (hf13 : fs[13]? = some (.ref qs)) (hf14 : fs[14]? = some (.ref qc)) (hm4 : m 4 = nI P) (hP8 : P ≤ 8) (hZ : Z ≤ 40) (hsz : inR a1 0 3 = true → si4 (ix a1) = nI Z) : gI l yX4_book wsX4_book ({ frames := 7, cells := 0, slots := 0, locals := 147 }) E [(h, .inr (4, fs)), (qm, .inl (eI E, 75, .inl m)), (qw, .inl (eI E, 75, .inl w)), (qb, .inl (eI E, 4, .inl bi4)), (qs, .inl (eI E, 4, .inl si4)), (qc, .inl (eJ E, 160, .inr (.inl ce))), (qf, .inl (eI E, 7, .inl fd))] (fun u : ((Nat → Int64) × (Nat → Int32)) × ((Nat → Int32)) => [(h, .inr (4, fs)), (qm, .inl (eI E, 75, .inl m)), (qw, .inl (eI E, 75, .inl u.2)), (qb, .inl (eI E, 4, .inl bi4)), (qs, .inl (eI E, 4, .inl si4)), (qc, .inl (eJ E, 160, .inr (.inl u.1.1))), (qf, .inl (eI E, 7, .inl u.1.2))]) [.ref h, .int a1, .int a2] (fun (r : Int32) (u : ((Nat → Int64) × (Nat → Int32)) × ((Nat → Int32))) => (r, u.1) = mn_book P m fd (bi4 (ix a1)) Z ce a1 a2) := by
  have hin4 : ∀ w ∈ wsX40, w ∈ wsX4_book := (fun _ h => (List.mem_cons_of_mem _ (List.mem_append_right _ h)))
  refine gI.of (cc := cX4_book) (maxL := 5) (by decide) rfl (Nat.le_of_ble_eq_true rfl) ?_
  intro pG eG sG mG below meth cG A ls H locs F hr hlk hX hP hD hA hS hl
  have hl : lv_has ls 5 [(0, .ref h), (1, .int a1), (2, .int a2)] := hl
  refine lv_aload_n F.1 F.2.1 dX4_book_0 rfl (lv_at hl 0 rfl) ?_
  refine lv_iload_n F.1 F.2.1 dX4_book_1 rfl (lv_at hl 1 rfl) ?_
  refine lv_iload_n F.1 F.2.1 dX4_book_2 rfl (lv_at hl 2 rfl) ?_
  refine g_goIr (g_runV (As := [.int a1, .int a2]) (rest := []) F hX hP hD hS hA (c_X4_notAsked l E h fs qm qb m bi4 P a1 a2 (by first | assumption | rfl) (by first | assumption | rfl) (by first | assumption | omega) H.size) (cwV 2 F.2.2.2.2 gX4_book_X4_notAsked rfl rfl rfl (by decide +kernel) ⟨Nat.le_of_ble_eq_true rfl, Nat.le_of_ble_eq_true rfl⟩) [0, 1, 3] rfl rfl (q0 := 0) (ci := 4) rfl rfl rfl hl.1 rfl (Nat.le_of_ble_eq_true rfl) dX4_book_3 ⟨Nat.le_refl _, Nat.le_refl _⟩) hP hD hS hA [0, 1, 3] rfl (fun r _ H locs hq hP hS => ?_)
  subst hq
  refine lv_istore_n (lv' := [(3, .int (fobC a1 (bi4 (ix a1)) a2 P)), (0, .ref h), (1, .int a1), (2, .int a2)]) F.1 F.2.1 dX4_book_6 rfl hl (by decide) rfl (fun ls hl => ?_)
  refine lv_iload_n F.1 F.2.1 dX4_book_7 rfl (lv_at hl 0 rfl) ?_
  refine lv_if_eq (tgt := 17) F.1 F.2.1 dX4_book_8 (by decide) (fun k1 => ?_) (fun k1 => ?_)
  · obtain ⟨f1, f2, f3⟩ := fob_0 k1
    obtain ⟨e_a1, b_a1⟩ := ix_of 3 f1 (by decide) (by decide)
    have hl : lv_has ls 5 [(3, .int (fobC a1 (bi4 (ix a1)) a2 P)), (0, .ref h), (1, .int (nI (ix a1))), (2, .int a2)] := by rw [← e_a1]; exact hl
    obtain ⟨e_a2, b_a2⟩ := ix_person f3 hP8
    have hl : lv_has ls 5 [(3, .int (fobC a1 (bi4 (ix a1)) a2 P)), (0, .ref h), (1, .int (nI (ix a1))), (2, .int (nI (ix a2)))] := by rw [← e_a2]; exact hl
    refine lv_aload_n F.1 F.2.1 dX4_book_17 rfl (lv_at hl 1 rfl) ?_
    refine g_goV (wr := [(qb, .inl (eI E, 4, .inl bi4)), (qs, .inl (eI E, 4, .inl si4)), (qc, .inl (eJ E, 160, .inr (.inl ce))), (qf, .inl (eI E, 7, .inl fd))]) (g_runV (As := []) (rest := []) F hX hP hD hS hA (c_X4_thinks l E h fs qm qw m w (by first | assumption | rfl) (by first | assumption | rfl) H.size) (cwV 0 F.2.2.2.2 gX4_book_X4_thinks rfl rfl rfl (by decide +kernel) ⟨Nat.le_of_ble_eq_true rfl, Nat.le_of_ble_eq_true rfl⟩) [0, 1, 2] rfl rfl (q0 := 0) (ci := 4) rfl rfl rfl hl.1 rfl (Nat.le_of_ble_eq_true rfl) dX4_book_18 ⟨Nat.le_refl _, Nat.le_refl _⟩) hP hD hS hA [0, 1, 2] [3, 4, 5, 6] rfl rfl rfl (by decide) (fun _ H locs hq hP hD hS => ?_)
    have hP : va_P (eD E) vwCl [(h, .inr (4, fs)), (qm, .inl (eI E, 75, .inl m)), (qw, .inl (eI E, 75, .inl m)), (qb, .inl (eI E, 4, .inl bi4)), (qs, .inl (eI E, 4, .inl si4)), (qc, .inl (eJ E, 160, .inr (.inl ce))), (qf, .inl (eI E, 7, .inl fd))] H := hP.sub [4, 5, 6, 0, 1, 2, 3] rfl
    have hD : va_D A [(h, .inr (4, fs)), (qm, .inl (eI E, 75, .inl m)), (qw, .inl (eI E, 75, .inl m)), (qb, .inl (eI E, 4, .inl bi4)), (qs, .inl (eI E, 4, .inl si4)), (qc, .inl (eJ E, 160, .inr (.inl ce))), (qf, .inl (eI E, 7, .inl fd))] := hD.sub [4, 5, 6, 0, 1, 2, 3] (by decide) rfl
    refine lv_iconst (v := 0) F.1 F.2.1 dX4_book_21 (by decide) ?_
    refine lv_istore (lv' := [(4, .int 0), (3, .int (fobC a1 (bi4 (ix a1)) a2 P)), (0, .ref h), (1, .int (nI (ix a1))), (2, .int (nI (ix a2)))]) F.1 F.2.1 dX4_book_22 hl (by decide) rfl (fun ls hl => ?_)
    have lp24 : ∀ (fu i : Nat), i ≤ Z → Z + 1 ≤ i + fu → ∀ (H : Heap) (locs : List Loc) (ls : Array Slot), va_P (eD E) vwCl [(h, .inr (4, fs)), (qm, .inl (eI E, 75, .inl (itM P m i))), (qw, .inl (eI E, 75, .inl m)), (qb, .inl (eI E, 4, .inl bi4)), (qs, .inl (eI E, 4, .inl si4)), (qc, .inl (eJ E, 160, .inr (.inl (bkO (fun n => cutC (bi4 (ix a1)) (pf (itM P m n) (ix a2) 1).toInt64) ce (40 * ix a1) i)))), (qf, .inl (eI E, 7, .inl fd))] H → va_D A [(h, .inr (4, fs)), (qm, .inl (eI E, 75, .inl (itM P m i))), (qw, .inl (eI E, 75, .inl m)), (qb, .inl (eI E, 4, .inl bi4)), (qs, .inl (eI E, 4, .inl si4)), (qc, .inl (eJ E, 160, .inr (.inl (bkO (fun n => cutC (bi4 (ix a1)) (pf (itM P m n) (ix a2) 1).toInt64) ce (40 * ix a1) i)))), (qf, .inl (eI E, 7, .inl fd))] → va_S A sG.heap H locs → lv_has ls 5 [(4, .int (nI i)), (3, .int (fobC a1 (bi4 (ix a1)) a2 P)), (0, .ref h), (1, .int (nI (ix a1))), (2, .int (nI (ix a2)))] → W pG l eG { frames := 7, cells := 0, slots := 0, locals := 147 } sG mG [.ref h, .int a1, .int a2].toArray below meth cG H locs 0 0 (MQ below (va_Qi (fun (r : Int32) (u : ((Nat → Int64) × (Nat → Int32)) × ((Nat → Int32))) => (r, u.1) = mn_book P m fd (bi4 (ix a1)) Z ce a1 a2) (gR E (fun u : ((Nat → Int64) × (Nat → Int32)) × ((Nat → Int32)) => [(h, .inr (4, fs)), (qm, .inl (eI E, 75, .inl m)), (qw, .inl (eI E, 75, .inl u.2)), (qb, .inl (eI E, 4, .inl bi4)), (qs, .inl (eI E, 4, .inl si4)), (qc, .inl (eJ E, 160, .inr (.inl u.1.1))), (qf, .inl (eI E, 7, .inl u.1.2))]) A) A) [.ref h, .int a1, .int a2].toArray sG 0 0 A) (F0 mG 24 ls []) := by
      intro fu
      induction fu with
      | zero => intro i h1 h2; exact absurd h2 (by omega)
      | succ fu ih =>
        intro i hi hin   H locs ls hP hD hS hl
        refine lv_iload F.1 F.2.1 dX4_book_24 (lv_at hl 0 rfl) ?_
        refine lv_aload_n F.1 F.2.1 dX4_book_26 rfl (lv_at hl 2 rfl) ?_
        refine g_get F hX hP hin4 0 rfl rfl 13 (by decide) (mm 1 rfl) hf13 dX4_book_27 ?_
        refine lv_iload_n F.1 F.2.1 dX4_book_30 rfl (lv_at hl 3 rfl) ?_
        refine g_iald F hX hP 4 rfl (j := (ix a1)) (rfl) (by omega) (by decide) dX4_book_31 ?_
        refine g_top (nI Z) (hsz f1) ?_
        refine lv_icmp_ge (tgt := 73) F.1 F.2.1 dX4_book_32 (by decide) (fun k2 => ?_) (fun k2 => ?_)
        · have hiN : Z = i := Nat.le_antisymm ((nI_leI (by omega) (by omega)).mp k2) hi
          subst hiN
          refine lv_aload_n F.1 F.2.1 dX4_book_73 rfl (lv_at hl 2 rfl) ?_
          refine g_goV (wr := [(qb, .inl (eI E, 4, .inl bi4)), (qs, .inl (eI E, 4, .inl si4)), (qc, .inl (eJ E, 160, .inr (.inl (bkO (fun n => cutC (bi4 (ix a1)) (pf (itM P m n) (ix a2) 1).toInt64) ce (40 * ix a1) Z)))), (qf, .inl (eI E, 7, .inl fd))]) (g_runV (As := []) (rest := []) F hX hP hD hS hA (c_X4_putsBack l E h fs qm qw (itM P m Z) m (by first | assumption | rfl) (by first | assumption | rfl) H.size) (cwV 0 F.2.2.2.2 gX4_book_X4_putsBack rfl rfl rfl (by decide +kernel) ⟨Nat.le_of_ble_eq_true rfl, Nat.le_of_ble_eq_true rfl⟩) [0, 1, 2] rfl rfl (q0 := 0) (ci := 4) rfl rfl rfl hl.1 rfl (Nat.le_of_ble_eq_true rfl) dX4_book_74 ⟨Nat.le_refl _, Nat.le_refl _⟩) hP hD hS hA [0, 1, 2] [3, 4, 5, 6] rfl rfl rfl (by decide) (fun _ H locs hq hP hD hS => ?_)
          have hP : va_P (eD E) vwCl [(h, .inr (4, fs)), (qm, .inl (eI E, 75, .inl m)), (qw, .inl (eI E, 75, .inl m)), (qb, .inl (eI E, 4, .inl bi4)), (qs, .inl (eI E, 4, .inl si4)), (qc, .inl (eJ E, 160, .inr (.inl (bkO (fun n => cutC (bi4 (ix a1)) (pf (itM P m n) (ix a2) 1).toInt64) ce (40 * ix a1) Z)))), (qf, .inl (eI E, 7, .inl fd))] H := hP.sub [4, 5, 6, 0, 1, 2, 3] rfl
          have hD : va_D A [(h, .inr (4, fs)), (qm, .inl (eI E, 75, .inl m)), (qw, .inl (eI E, 75, .inl m)), (qb, .inl (eI E, 4, .inl bi4)), (qs, .inl (eI E, 4, .inl si4)), (qc, .inl (eJ E, 160, .inr (.inl (bkO (fun n => cutC (bi4 (ix a1)) (pf (itM P m n) (ix a2) 1).toInt64) ce (40 * ix a1) Z)))), (qf, .inl (eI E, 7, .inl fd))] := hD.sub [4, 5, 6, 0, 1, 2, 3] (by decide) rfl
          refine lv_aload_n F.1 F.2.1 dX4_book_77 rfl (lv_at hl 2 rfl) ?_
          refine g_get F hX hP hin4 0 rfl rfl 13 (by decide) (mm 1 rfl) hf13 dX4_book_78 ?_
          refine lv_iload_n F.1 F.2.1 dX4_book_81 rfl (lv_at hl 3 rfl) ?_
          refine g_iald F hX hP 4 rfl (j := (ix a1)) (rfl) (by omega) (by decide) dX4_book_82 ?_
          refine g_top (nI Z) (hsz f1) ?_
          exact g_reti F hr hlk (vp_nar_int _) hS hP hD (((bkO (fun n => cutC (bi4 (ix a1)) (pf (itM P m n) (ix a2) 1).toInt64) ce (40 * ix a1) Z, fd), m)) (rfl) (by unfold mn_book; rw [if_pos k1]) dX4_book_83
        · have hiN : i < Z := Nat.lt_of_not_le (fun h => k2 (nI_le h (by omega)))
          refine lv_aload_n F.1 F.2.1 dX4_book_35 rfl (lv_at hl 2 rfl) ?_
          refine g_get F hX hP hin4 0 rfl rfl 14 (by decide) (mm 2 rfl) hf14 dX4_book_36 ?_
          refine lv_bipush (v := 40) F.1 F.2.1 dX4_book_39 (by decide) ?_
          refine lv_iload_n F.1 F.2.1 dX4_book_41 rfl (lv_at hl 3 rfl) ?_
          refine lv_imul F.1 F.2.1 dX4_book_42 ?_
          refine lv_iload F.1 F.2.1 dX4_book_43 (lv_at hl 0 rfl) ?_
          refine lv_iadd F.1 F.2.1 dX4_book_45 ?_
          refine lv_aload_n F.1 F.2.1 dX4_book_46 rfl (lv_at hl 2 rfl) ?_
          refine g_get F hX hP hin4 0 rfl rfl 12 (by decide) (mm 3 rfl) hf12 dX4_book_47 ?_
          refine lv_iload_n F.1 F.2.1 dX4_book_50 rfl (lv_at hl 3 rfl) ?_
          refine g_iald F hX hP 3 rfl (j := (ix a1)) (rfl) (by omega) (by decide) dX4_book_51 ?_
          refine lv_aload_n F.1 F.2.1 dX4_book_52 rfl (lv_at hl 2 rfl) ?_
          refine lv_iload_n F.1 F.2.1 dX4_book_53 rfl (lv_at hl 4 rfl) ?_
          refine lv_iconst (v := 1) F.1 F.2.1 dX4_book_54 (by decide) ?_
          refine g_goIr (g_runV (As := [.int (nI (ix a2)), .int 1]) (rest := [.int (bi4 (ix a1)), .int ((40 * (nI (ix a1))) + (nI i)), .ref qc]) F hX hP hD hS hA (c_X4_it l E h fs qm (itM P m i) (ix a2) 1 (by first | assumption | rfl) (by first | assumption | omega) (by decide) H.size) (cwV 2 F.2.2.2.2 gX4_book_X4_it rfl rfl rfl (by decide +kernel) ⟨Nat.le_of_ble_eq_true rfl, Nat.le_of_ble_eq_true rfl⟩) [0, 1] rfl rfl (q0 := 0) (ci := 4) rfl rfl rfl hl.1 rfl (Nat.le_of_ble_eq_true rfl) dX4_book_55 ⟨Nat.le_refl _, Nat.le_refl _⟩) hP hD hS hA [0, 1] rfl (fun r _ H locs hq hP hS => ?_)
          subst hq
          refine lv_i2l (v := (pf (itM P m i) (ix a2) 1 : Int32).toInt64) F.1 F.2.1 dX4_book_58 rfl ?_
          refine g_goLr (g_runS (As := [.int (bi4 (ix a1)), .long ((pf (itM P m i) (ix a2) 1 : Int32).toInt64)]) (rest := [.int ((40 * (nI (ix a1))) + (nI i)), .ref qc]) F hX hP hD hS hA (c_X4_cutTo l E (bi4 (ix a1)) ((pf (itM P m i) (ix a2) 1 : Int32).toInt64) H.size) (va_cwS 2 F.2.2.2.2 gX4_book_X4_cutTo rfl rfl rfl (by decide +kernel) ⟨Nat.le_of_ble_eq_true rfl, Nat.le_of_ble_eq_true rfl⟩) [] rfl rfl rfl hl.1 rfl (Nat.le_of_ble_eq_true rfl) dX4_book_59 ⟨Nat.le_refl _, Nat.le_refl _⟩) hP hD hS hA [] rfl (fun r _ H locs hq hP hS => ?_)
          subst hq
          refine g_last F hX hP hD hS 5 rfl (j := 40 * ix a1 + i) (i40 _ _) (by omega) (by decide) dX4_book_62 (fun H locs hP hD hS => ?_)
          have hP : va_P (eD E) vwCl [(h, .inr (4, fs)), (qm, .inl (eI E, 75, .inl (itM P m i))), (qw, .inl (eI E, 75, .inl m)), (qb, .inl (eI E, 4, .inl bi4)), (qs, .inl (eI E, 4, .inl si4)), (qc, .inl (eJ E, 160, .inr (.inl (vp_updL (bkO (fun n => cutC (bi4 (ix a1)) (pf (itM P m n) (ix a2) 1).toInt64) ce (40 * ix a1) i) (40 * ix a1 + i) (cutC (bi4 (ix a1)) ((pf (itM P m i) (ix a2) 1 : Int32).toInt64)))))), (qf, .inl (eI E, 7, .inl fd))] H := hP
          have hD : va_D A [(h, .inr (4, fs)), (qm, .inl (eI E, 75, .inl (itM P m i))), (qw, .inl (eI E, 75, .inl m)), (qb, .inl (eI E, 4, .inl bi4)), (qs, .inl (eI E, 4, .inl si4)), (qc, .inl (eJ E, 160, .inr (.inl (vp_updL (bkO (fun n => cutC (bi4 (ix a1)) (pf (itM P m n) (ix a2) 1).toInt64) ce (40 * ix a1) i) (40 * ix a1 + i) (cutC (bi4 (ix a1)) ((pf (itM P m i) (ix a2) 1 : Int32).toInt64)))))), (qf, .inl (eI E, 7, .inl fd))] := hD
          refine lv_aload_n F.1 F.2.1 dX4_book_63 rfl (lv_at hl 2 rfl) ?_
          refine g_goV (wr := [(qw, .inl (eI E, 75, .inl m)), (qb, .inl (eI E, 4, .inl bi4)), (qs, .inl (eI E, 4, .inl si4)), (qc, .inl (eJ E, 160, .inr (.inl (vp_updL (bkO (fun n => cutC (bi4 (ix a1)) (pf (itM P m n) (ix a2) 1).toInt64) ce (40 * ix a1) i) (40 * ix a1 + i) (cutC (bi4 (ix a1)) ((pf (itM P m i) (ix a2) 1 : Int32).toInt64)))))), (qf, .inl (eI E, 7, .inl fd))]) (g_runV (As := []) (rest := []) F hX hP hD hS hA (c_X4_goes l E h fs qm (itM P m i) P (by first | assumption | rfl) ((itM_lo P m (by decide) (by decide) i).trans hm4) (by first | assumption | omega) H.size) (cwV 0 F.2.2.2.2 gX4_book_X4_goes rfl rfl rfl (by decide +kernel) ⟨Nat.le_of_ble_eq_true rfl, Nat.le_of_ble_eq_true rfl⟩) [0, 1] rfl rfl (q0 := 0) (ci := 4) rfl rfl rfl hl.1 rfl (Nat.le_of_ble_eq_true rfl) dX4_book_64 ⟨Nat.le_refl _, Nat.le_refl _⟩) hP hD hS hA [0, 1] [2, 3, 4, 5, 6] rfl rfl rfl (by decide) (fun _ H locs hq hP hD hS => ?_)
          have hP : va_P (eD E) vwCl [(h, .inr (4, fs)), (qm, .inl (eI E, 75, .inl (goM P (itM P m i)))), (qw, .inl (eI E, 75, .inl m)), (qb, .inl (eI E, 4, .inl bi4)), (qs, .inl (eI E, 4, .inl si4)), (qc, .inl (eJ E, 160, .inr (.inl (vp_updL (bkO (fun n => cutC (bi4 (ix a1)) (pf (itM P m n) (ix a2) 1).toInt64) ce (40 * ix a1) i) (40 * ix a1 + i) (cutC (bi4 (ix a1)) ((pf (itM P m i) (ix a2) 1 : Int32).toInt64)))))), (qf, .inl (eI E, 7, .inl fd))] H := hP.sub [5, 6, 0, 1, 2, 3, 4] rfl
          have hD : va_D A [(h, .inr (4, fs)), (qm, .inl (eI E, 75, .inl (goM P (itM P m i)))), (qw, .inl (eI E, 75, .inl m)), (qb, .inl (eI E, 4, .inl bi4)), (qs, .inl (eI E, 4, .inl si4)), (qc, .inl (eJ E, 160, .inr (.inl (vp_updL (bkO (fun n => cutC (bi4 (ix a1)) (pf (itM P m n) (ix a2) 1).toInt64) ce (40 * ix a1) i) (40 * ix a1 + i) (cutC (bi4 (ix a1)) ((pf (itM P m i) (ix a2) 1 : Int32).toInt64)))))), (qf, .inl (eI E, 7, .inl fd))] := hD.sub [5, 6, 0, 1, 2, 3, 4] (by decide) rfl
          refine lv_iinc (v := nI (i + 1)) (lv' := [(4, .int (nI (i + 1))), (3, .int (fobC a1 (bi4 (ix a1)) a2 P)), (0, .ref h), (1, .int (nI (ix a1))), (2, .int (nI (ix a2)))]) F.1 F.2.1 dX4_book_67 hl (k := 0) rfl (nI_1 _) (by decide) rfl (fun ls hl => ?_)
          refine lv_goto (tgt := 24) F.1 F.2.1 dX4_book_70 (by decide) ?_
          have ecell : (vp_updL (bkO (fun n => cutC (bi4 (ix a1)) (pf (itM P m n) (ix a2) 1).toInt64) ce (40 * ix a1) i) (40 * ix a1 + i) (cutC (bi4 (ix a1)) ((pf (itM P m i) (ix a2) 1 : Int32).toInt64))) = (bkO (fun n => cutC (bi4 (ix a1)) (pf (itM P m n) (ix a2) 1).toInt64) ce (40 * ix a1) (i + 1)) := bkO_s _ _ _ _ _ rfl
          rw [ecell] at hP hD
          clear ecell
          have hP : va_P (eD E) vwCl [(h, .inr (4, fs)), (qm, .inl (eI E, 75, .inl (itM P m (i + 1)))), (qw, .inl (eI E, 75, .inl m)), (qb, .inl (eI E, 4, .inl bi4)), (qs, .inl (eI E, 4, .inl si4)), (qc, .inl (eJ E, 160, .inr (.inl (bkO (fun n => cutC (bi4 (ix a1)) (pf (itM P m n) (ix a2) 1).toInt64) ce (40 * ix a1) (i + 1))))), (qf, .inl (eI E, 7, .inl fd))] H := hP
          have hD : va_D A [(h, .inr (4, fs)), (qm, .inl (eI E, 75, .inl (itM P m (i + 1)))), (qw, .inl (eI E, 75, .inl m)), (qb, .inl (eI E, 4, .inl bi4)), (qs, .inl (eI E, 4, .inl si4)), (qc, .inl (eJ E, 160, .inr (.inl (bkO (fun n => cutC (bi4 (ix a1)) (pf (itM P m n) (ix a2) 1).toInt64) ce (40 * ix a1) (i + 1))))), (qf, .inl (eI E, 7, .inl fd))] := hD
          exact ih (i + 1) (by omega) (by omega)  _ _ _ hP hD hS (lv_sub hl [0, 1, 2, 3, 4] rfl)
    have ecell : ce = (bkO (fun n => cutC (bi4 (ix a1)) (pf (itM P m n) (ix a2) 1).toInt64) ce (40 * ix a1) 0) := bkO_0 _ _ _
    rw [ecell] at hP hD
    clear ecell
    have hP : va_P (eD E) vwCl [(h, .inr (4, fs)), (qm, .inl (eI E, 75, .inl (itM P m 0))), (qw, .inl (eI E, 75, .inl m)), (qb, .inl (eI E, 4, .inl bi4)), (qs, .inl (eI E, 4, .inl si4)), (qc, .inl (eJ E, 160, .inr (.inl (bkO (fun n => cutC (bi4 (ix a1)) (pf (itM P m n) (ix a2) 1).toInt64) ce (40 * ix a1) 0)))), (qf, .inl (eI E, 7, .inl fd))] H := hP
    have hD : va_D A [(h, .inr (4, fs)), (qm, .inl (eI E, 75, .inl (itM P m 0))), (qw, .inl (eI E, 75, .inl m)), (qb, .inl (eI E, 4, .inl bi4)), (qs, .inl (eI E, 4, .inl si4)), (qc, .inl (eJ E, 160, .inr (.inl (bkO (fun n => cutC (bi4 (ix a1)) (pf (itM P m n) (ix a2) 1).toInt64) ce (40 * ix a1) 0)))), (qf, .inl (eI E, 7, .inl fd))] := hD
    exact lp24 (Z + 1) 0 (by omega) (by omega)  _ _ _ hP hD hS (lv_sub hl [0, 1, 2, 3, 4] rfl)
  · refine lv_aload_n F.1 F.2.1 dX4_book_11 rfl (lv_at hl 1 rfl) ?_
    refine lv_iload_n F.1 F.2.1 dX4_book_12 rfl (lv_at hl 0 rfl) ?_
    refine g_goI (wr := [(qm, .inl (eI E, 75, .inl m)), (qw, .inl (eI E, 75, .inl w)), (qb, .inl (eI E, 4, .inl bi4)), (qs, .inl (eI E, 4, .inl si4)), (qc, .inl (eJ E, 160, .inr (.inl ce)))]) (g_runV (As := [.int (fobC a1 (bi4 (ix a1)) a2 P)]) (rest := []) F hX hP hD hS hA (c_X4_finds l E h fs qf fd (fobC a1 (bi4 (ix a1)) a2 P) (fobK a1 (bi4 (ix a1))) (by first | assumption | rfl) ((fob_k k1).1) ((fob_k k1).2) H.size) (cwV 1 F.2.2.2.2 gX4_book_X4_finds rfl rfl rfl (by decide +kernel) ⟨Nat.le_of_ble_eq_true rfl, Nat.le_of_ble_eq_true rfl⟩) [0, 6] rfl rfl (q0 := 0) (ci := 4) rfl rfl rfl hl.1 rfl (Nat.le_of_ble_eq_true rfl) dX4_book_13 ⟨Nat.le_refl _, Nat.le_refl _⟩) hP hD hS hA [0, 6] [1, 2, 3, 4, 5] rfl rfl rfl (by decide) (fun r _ H locs hq hP hD hS => ?_)
    have hP : va_P (eD E) vwCl [(h, .inr (4, fs)), (qm, .inl (eI E, 75, .inl m)), (qw, .inl (eI E, 75, .inl w)), (qb, .inl (eI E, 4, .inl bi4)), (qs, .inl (eI E, 4, .inl si4)), (qc, .inl (eJ E, 160, .inr (.inl ce))), (qf, .inl (eI E, 7, .inl (upd fd (fobK a1 (bi4 (ix a1))) (fd (fobK a1 (bi4 (ix a1))) + 1))))] H := hP.sub [5, 0, 1, 2, 3, 4, 6] rfl
    have hD : va_D A [(h, .inr (4, fs)), (qm, .inl (eI E, 75, .inl m)), (qw, .inl (eI E, 75, .inl w)), (qb, .inl (eI E, 4, .inl bi4)), (qs, .inl (eI E, 4, .inl si4)), (qc, .inl (eJ E, 160, .inr (.inl ce))), (qf, .inl (eI E, 7, .inl (upd fd (fobK a1 (bi4 (ix a1))) (fd (fobK a1 (bi4 (ix a1))) + 1))))] := hD.sub [5, 0, 1, 2, 3, 4, 6] (by decide) rfl
    subst hq
    exact g_reti F hr hlk (vp_nar_int _) hS hP hD (((ce, upd fd (fobK a1 (bi4 (ix a1))) (fd (fobK a1 (bi4 (ix a1))) + 1)), w)) (rfl) (by unfold mn_book; rw [if_neg k1]; rfl) dX4_book_16
