def mn_four (P : Nat) (m fd : Nat → Int32) (a1 : Int32) : Int32 × (Nat → Int32) := if inR a1 0 100 = true then ((bsn (fun n => hdM (itM P (upd m 1 (nI n)) (ix a1)) P) 100).1, fd) else (-1000000001, fn fd 0)
set_option maxHeartbeats 4000000 in
set_option maxRecDepth 100000 in
theorem c_X4_four (l : Launch) (E : gE) (h : Nat) (fs : List Value) (qm : Nat) (qw : Nat) (qf : Nat) (m : Nat → Int32) (w : Nat → Int32) (fd : Nat → Int32) (P : Nat) (a1 : Int32) (hf0 : fs[0]? = some (.ref qm)) (hf2 : fs[2]? = some (.ref qw)) (hf4 : fs[4]? = some (.ref qf)) (hm4 : m 4 = nI P) (hP8 : P ≤ 8) : gI l yX4_four wsX4_four ({ frames := 9, cells := 0, slots := 0, locals := 191 }) E [(h, .inr (4, fs)), (qm, .inl (eI E, 75, .inl m)), (qw, .inl (eI E, 75, .inl w)), (qf, .inl (eI E, 7, .inl fd))] (fun u : ((Nat → Int32)) × ((Nat → Int32)) => [(h, .inr (4, fs)), (qm, .inl (eI E, 75, .inl m)), (qw, .inl (eI E, 75, .inl u.2)), (qf, .inl (eI E, 7, .inl u.1))]) [.ref h, .int a1] (fun (r : Int32) (u : ((Nat → Int32)) × ((Nat → Int32))) => (r, u.1) = mn_four P m fd a1) := by
  have hin4 : ∀ w ∈ wsX40, w ∈ wsX4_four := (fun _ h => (List.mem_cons_of_mem _ (List.mem_append_right _ h)))
  refine gI.of (cc := cX4_four) (maxL := 7) (by decide) rfl (Nat.le_of_ble_eq_true rfl) ?_
  intro pG eG sG mG below meth cG A ls H locs F hr hlk hX hP hD hA hS hl
  have hl : lv_has ls 7 [(0, .ref h), (1, .int a1)] := hl
  refine lv_iload_n F.1 F.2.1 dX4_four_0 rfl (lv_at hl 1 rfl) ?_
  refine lv_i2l (v := (a1 : Int32).toInt64) F.1 F.2.1 dX4_four_1 rfl ?_
  refine lv_iconst (v := 0) F.1 F.2.1 dX4_four_2 (by decide) ?_
  refine lv_bipush (v := 100) F.1 F.2.1 dX4_four_3 (by decide) ?_
  refine g_goIr (g_runS (As := [.long ((a1 : Int32).toInt64), .int 0, .int 100]) (rest := []) F hX hP hD hS hA (c_X4_in_i l E a1 0 100 H.size) (va_cwS 3 F.2.2.2.2 gX4_four_X4_in rfl rfl rfl (by decide +kernel) ⟨Nat.le_of_ble_eq_true rfl, Nat.le_of_ble_eq_true rfl⟩) [] rfl rfl rfl hl.1 rfl (Nat.le_of_ble_eq_true rfl) dX4_four_5 ⟨Nat.le_refl _, Nat.le_refl _⟩) hP hD hS hA [] rfl (fun r _ H locs hq hP hS => ?_)
  subst hq
  refine g_bne (tgt := 18) F dX4_four_8 (by decide) (fun k1 => ?_) (fun k1 => ?_)
  · obtain ⟨e_a1, b_a1⟩ := ix_of 100 k1 (by decide) (by decide)
    have hl : lv_has ls 7 [(0, .ref h), (1, .int (nI (ix a1)))] := by rw [← e_a1]; exact hl
    refine lv_aload_n F.1 F.2.1 dX4_four_18 rfl (lv_at hl 0 rfl) ?_
    refine g_goV (wr := [(qf, .inl (eI E, 7, .inl fd))]) (g_runV (As := []) (rest := []) F hX hP hD hS hA (c_X4_thinks l E h fs qm qw m w (by first | assumption | rfl) (by first | assumption | rfl) H.size) (cwV 0 F.2.2.2.2 gX4_four_X4_thinks rfl rfl rfl (by decide +kernel) ⟨Nat.le_of_ble_eq_true rfl, Nat.le_of_ble_eq_true rfl⟩) [0, 1, 2] rfl rfl (q0 := 0) (ci := 4) rfl rfl rfl hl.1 rfl (Nat.le_of_ble_eq_true rfl) dX4_four_19 ⟨Nat.le_refl _, Nat.le_refl _⟩) hP hD hS hA [0, 1, 2] [3] rfl rfl rfl (by decide) (fun _ H locs hq hP hD hS => ?_)
    have hP : va_P (eD E) vwCl [(h, .inr (4, fs)), (qm, .inl (eI E, 75, .inl m)), (qw, .inl (eI E, 75, .inl m)), (qf, .inl (eI E, 7, .inl fd))] H := hP.sub [1, 2, 3, 0] rfl
    have hD : va_D A [(h, .inr (4, fs)), (qm, .inl (eI E, 75, .inl m)), (qw, .inl (eI E, 75, .inl m)), (qf, .inl (eI E, 7, .inl fd))] := hD.sub [1, 2, 3, 0] (by decide) rfl
    refine lv_iconst (v := (-1)) F.1 F.2.1 dX4_four_22 (by decide) ?_
    refine lv_istore_n (lv' := [(2, .int (-1)), (0, .ref h), (1, .int (nI (ix a1)))]) F.1 F.2.1 dX4_four_23 rfl hl (by decide) rfl (fun ls hl => ?_)
    refine lv_iconst (v := 0) F.1 F.2.1 dX4_four_24 (by decide) ?_
    refine lv_istore_n (lv' := [(3, .int 0), (2, .int (-1)), (0, .ref h), (1, .int (nI (ix a1)))]) F.1 F.2.1 dX4_four_25 rfl hl (by decide) rfl (fun ls hl => ?_)
    refine lv_iconst (v := 0) F.1 F.2.1 dX4_four_26 (by decide) ?_
    refine lv_istore (lv' := [(4, .int 0), (3, .int 0), (2, .int (-1)), (0, .ref h), (1, .int (nI (ix a1)))]) F.1 F.2.1 dX4_four_27 hl (by decide) rfl (fun ls hl => ?_)
    have lp29 : ∀ (fu i : Nat), i ≤ 100 → 100 + 1 ≤ i + fu → ∀ (H : Heap) (locs : List Loc) (ls : Array Slot), va_P (eD E) vwCl [(h, .inr (4, fs)), (qm, .inl (eI E, 75, .inl m)), (qw, .inl (eI E, 75, .inl m)), (qf, .inl (eI E, 7, .inl fd))] H → va_D A [(h, .inr (4, fs)), (qm, .inl (eI E, 75, .inl m)), (qw, .inl (eI E, 75, .inl m)), (qf, .inl (eI E, 7, .inl fd))] → va_S A sG.heap H locs → lv_has ls 7 [(4, .int (nI i)), (3, .int ((bsn (fun n => hdM (itM P (upd m 1 (nI n)) (ix a1)) P) i).2)), (2, .int ((bsn (fun n => hdM (itM P (upd m 1 (nI n)) (ix a1)) P) i).1)), (0, .ref h), (1, .int (nI (ix a1)))] → W pG l eG { frames := 9, cells := 0, slots := 0, locals := 191 } sG mG [.ref h, .int a1].toArray below meth cG H locs 0 0 (MQ below (va_Qi (fun (r : Int32) (u : ((Nat → Int32)) × ((Nat → Int32))) => (r, u.1) = mn_four P m fd a1) (gR E (fun u : ((Nat → Int32)) × ((Nat → Int32)) => [(h, .inr (4, fs)), (qm, .inl (eI E, 75, .inl m)), (qw, .inl (eI E, 75, .inl u.2)), (qf, .inl (eI E, 7, .inl u.1))]) A) A) [.ref h, .int a1].toArray sG 0 0 A) (F0 mG 29 ls []) := by
      intro fu
      induction fu with
      | zero => intro i h1 h2; exact absurd h2 (by omega)
      | succ fu ih =>
        intro i hi hin   H locs ls hP hD hS hl
        refine lv_iload F.1 F.2.1 dX4_four_29 (lv_at hl 0 rfl) ?_
        refine lv_bipush (v := 100) F.1 F.2.1 dX4_four_31 (by decide) ?_
        refine lv_icmp_ge (tgt := 98) F.1 F.2.1 dX4_four_33 (by decide) (fun k2 => ?_) (fun k2 => ?_)
        · have hiN : 100 = i := Nat.le_antisymm ((nI_leI (by omega) (by omega)).mp k2) hi
          subst hiN
          refine lv_iload_n F.1 F.2.1 dX4_four_98 rfl (lv_at hl 2 rfl) ?_
          exact g_reti F hr hlk (vp_nar_int _) hS hP hD ((fd, m)) (rfl) (by unfold mn_four; rw [if_pos k1]) dX4_four_99
        · have hiN : i < 100 := Nat.lt_of_not_le (fun h => k2 (nI_le h (by omega)))
          refine lv_aload_n F.1 F.2.1 dX4_four_36 rfl (lv_at hl 3 rfl) ?_
          refine g_get F hX hP hin4 0 rfl rfl 0 (by decide) (mm 2 rfl) hf0 dX4_four_37 ?_
          refine lv_iconst (v := 1) F.1 F.2.1 dX4_four_40 (by decide) ?_
          refine lv_iload F.1 F.2.1 dX4_four_41 (lv_at hl 0 rfl) ?_
          refine g_iast F hX hP hD hS 1 rfl (j := 1) (rfl) (by decide) (by decide) dX4_four_43 (fun H locs hP hD hS => ?_)
          have hP : va_P (eD E) vwCl [(h, .inr (4, fs)), (qm, .inl (eI E, 75, .inl (upd m 1 (nI i)))), (qw, .inl (eI E, 75, .inl m)), (qf, .inl (eI E, 7, .inl fd))] H := hP
          have hD : va_D A [(h, .inr (4, fs)), (qm, .inl (eI E, 75, .inl (upd m 1 (nI i)))), (qw, .inl (eI E, 75, .inl m)), (qf, .inl (eI E, 7, .inl fd))] := hD
          refine lv_aload_n F.1 F.2.1 dX4_four_44 rfl (lv_at hl 3 rfl) ?_
          refine lv_iload_n F.1 F.2.1 dX4_four_45 rfl (lv_at hl 4 rfl) ?_
          refine g_goI (wr := [(qf, .inl (eI E, 7, .inl fd))]) (g_runV (As := [.int (nI (ix a1))]) (rest := []) F hX hP hD hS hA (c_X4_heardOn l E h fs qm qw (upd m 1 (nI i)) m P (ix a1) (by first | assumption | rfl) (by first | assumption | rfl) ((if_neg (by decide)).trans hm4) (by first | assumption | omega) (by first | assumption | omega) H.size) (cwV 1 F.2.2.2.2 gX4_four_X4_heardOn rfl rfl rfl (by decide +kernel) ⟨Nat.le_of_ble_eq_true rfl, Nat.le_of_ble_eq_true rfl⟩) [0, 1, 2] rfl rfl (q0 := 0) (ci := 4) rfl rfl rfl hl.1 rfl (Nat.le_of_ble_eq_true rfl) dX4_four_46 ⟨Nat.le_refl _, Nat.le_refl _⟩) hP hD hS hA [0, 1, 2] [3] rfl rfl rfl (by decide) (fun r _ H locs hq hP hD hS => ?_)
          have hP : va_P (eD E) vwCl [(h, .inr (4, fs)), (qm, .inl (eI E, 75, .inl m)), (qw, .inl (eI E, 75, .inl m)), (qf, .inl (eI E, 7, .inl fd))] H := hP.sub [1, 2, 3, 0] rfl
          have hD : va_D A [(h, .inr (4, fs)), (qm, .inl (eI E, 75, .inl m)), (qw, .inl (eI E, 75, .inl m)), (qf, .inl (eI E, 7, .inl fd))] := hD.sub [1, 2, 3, 0] (by decide) rfl
          subst hq
          refine lv_istore (lv' := [(5, .int (hdM (itM P (upd m 1 (nI i)) (ix a1)) P)), (4, .int (nI i)), (3, .int ((bsn (fun n => hdM (itM P (upd m 1 (nI n)) (ix a1)) P) i).2)), (2, .int ((bsn (fun n => hdM (itM P (upd m 1 (nI n)) (ix a1)) P) i).1)), (0, .ref h), (1, .int (nI (ix a1)))]) F.1 F.2.1 dX4_four_49 hl (by decide) rfl (fun ls hl => ?_)
          refine lv_iload_n F.1 F.2.1 dX4_four_51 rfl (lv_at hl 3 rfl) ?_
          have jn66 : ∀ (H : Heap) (locs : List Loc) (ls : Array Slot), va_P (eD E) vwCl [(h, .inr (4, fs)), (qm, .inl (eI E, 75, .inl m)), (qw, .inl (eI E, 75, .inl m)), (qf, .inl (eI E, 7, .inl fd))] H → va_D A [(h, .inr (4, fs)), (qm, .inl (eI E, 75, .inl m)), (qw, .inl (eI E, 75, .inl m)), (qf, .inl (eI E, 7, .inl fd))] → va_S A sG.heap H locs → lv_has ls 7 [(5, .int (hdM (itM P (upd m 1 (nI i)) (ix a1)) P)), (4, .int (nI i)), (3, .int ((bsn (fun n => hdM (itM P (upd m 1 (nI n)) (ix a1)) P) i).2)), (2, .int ((bsn (fun n => hdM (itM P (upd m 1 (nI n)) (ix a1)) P) i).1)), (0, .ref h), (1, .int (nI (ix a1)))] → W pG l eG { frames := 9, cells := 0, slots := 0, locals := 191 } sG mG [.ref h, .int a1].toArray below meth cG H locs 0 0 (MQ below (va_Qi (fun (r : Int32) (u : ((Nat → Int32)) × ((Nat → Int32))) => (r, u.1) = mn_four P m fd a1) (gR E (fun u : ((Nat → Int32)) × ((Nat → Int32)) => [(h, .inr (4, fs)), (qm, .inl (eI E, 75, .inl m)), (qw, .inl (eI E, 75, .inl u.2)), (qf, .inl (eI E, 7, .inl u.1))]) A) A) [.ref h, .int a1].toArray sG 0 0 A) (F0 mG 66 ls [.int (bi (decide ((bsn (fun n => hdM (itM P (upd m 1 (nI n)) (ix a1)) P) i).1 < 0) || !decide ((bsn (fun n => hdM (itM P (upd m 1 (nI n)) (ix a1)) P) i).2 ≤ hdM (itM P (upd m 1 (nI i)) (ix a1)) P)))]) := by
            intro H locs ls hP hD hS hl
            refine lv_istore (lv' := [(6, .int (bi (decide ((bsn (fun n => hdM (itM P (upd m 1 (nI n)) (ix a1)) P) i).1 < 0) || !decide ((bsn (fun n => hdM (itM P (upd m 1 (nI n)) (ix a1)) P) i).2 ≤ hdM (itM P (upd m 1 (nI i)) (ix a1)) P)))), (5, .int (hdM (itM P (upd m 1 (nI i)) (ix a1)) P)), (4, .int (nI i)), (3, .int ((bsn (fun n => hdM (itM P (upd m 1 (nI n)) (ix a1)) P) i).2)), (2, .int ((bsn (fun n => hdM (itM P (upd m 1 (nI n)) (ix a1)) P) i).1)), (0, .ref h), (1, .int (nI (ix a1)))]) F.1 F.2.1 dX4_four_66 hl (by decide) rfl (fun ls hl => ?_)
            refine lv_iload F.1 F.2.1 dX4_four_68 (lv_at hl 0 rfl) ?_
            have jn79 : ∀ (H : Heap) (locs : List Loc) (ls : Array Slot), va_P (eD E) vwCl [(h, .inr (4, fs)), (qm, .inl (eI E, 75, .inl m)), (qw, .inl (eI E, 75, .inl m)), (qf, .inl (eI E, 7, .inl fd))] H → va_D A [(h, .inr (4, fs)), (qm, .inl (eI E, 75, .inl m)), (qw, .inl (eI E, 75, .inl m)), (qf, .inl (eI E, 7, .inl fd))] → va_S A sG.heap H locs → lv_has ls 7 [(6, .int (bi (decide ((bsn (fun n => hdM (itM P (upd m 1 (nI n)) (ix a1)) P) i).1 < 0) || !decide ((bsn (fun n => hdM (itM P (upd m 1 (nI n)) (ix a1)) P) i).2 ≤ hdM (itM P (upd m 1 (nI i)) (ix a1)) P)))), (5, .int (hdM (itM P (upd m 1 (nI i)) (ix a1)) P)), (4, .int (nI i)), (3, .int ((bsn (fun n => hdM (itM P (upd m 1 (nI n)) (ix a1)) P) i).2)), (2, .int ((bsn (fun n => hdM (itM P (upd m 1 (nI n)) (ix a1)) P) i).1)), (0, .ref h), (1, .int (nI (ix a1)))] → W pG l eG { frames := 9, cells := 0, slots := 0, locals := 191 } sG mG [.ref h, .int a1].toArray below meth cG H locs 0 0 (MQ below (va_Qi (fun (r : Int32) (u : ((Nat → Int32)) × ((Nat → Int32))) => (r, u.1) = mn_four P m fd a1) (gR E (fun u : ((Nat → Int32)) × ((Nat → Int32)) => [(h, .inr (4, fs)), (qm, .inl (eI E, 75, .inl m)), (qw, .inl (eI E, 75, .inl u.2)), (qf, .inl (eI E, 7, .inl u.1))]) A) A) [.ref h, .int a1].toArray sG 0 0 A) (F0 mG 79 ls [.int ((bsn (fun n => hdM (itM P (upd m 1 (nI n)) (ix a1)) P) (i + 1)).1)]) := by
              intro H locs ls hP hD hS hl
              refine lv_istore_n (lv' := [(2, .int ((bsn (fun n => hdM (itM P (upd m 1 (nI n)) (ix a1)) P) (i + 1)).1)), (6, .int (bi (decide ((bsn (fun n => hdM (itM P (upd m 1 (nI n)) (ix a1)) P) i).1 < 0) || !decide ((bsn (fun n => hdM (itM P (upd m 1 (nI n)) (ix a1)) P) i).2 ≤ hdM (itM P (upd m 1 (nI i)) (ix a1)) P)))), (5, .int (hdM (itM P (upd m 1 (nI i)) (ix a1)) P)), (4, .int (nI i)), (3, .int ((bsn (fun n => hdM (itM P (upd m 1 (nI n)) (ix a1)) P) i).2)), (0, .ref h), (1, .int (nI (ix a1)))]) F.1 F.2.1 dX4_four_79 rfl hl (by decide) rfl (fun ls hl => ?_)
              refine lv_iload F.1 F.2.1 dX4_four_80 (lv_at hl 1 rfl) ?_
              have jn91 : ∀ (H : Heap) (locs : List Loc) (ls : Array Slot), va_P (eD E) vwCl [(h, .inr (4, fs)), (qm, .inl (eI E, 75, .inl m)), (qw, .inl (eI E, 75, .inl m)), (qf, .inl (eI E, 7, .inl fd))] H → va_D A [(h, .inr (4, fs)), (qm, .inl (eI E, 75, .inl m)), (qw, .inl (eI E, 75, .inl m)), (qf, .inl (eI E, 7, .inl fd))] → va_S A sG.heap H locs → lv_has ls 7 [(2, .int ((bsn (fun n => hdM (itM P (upd m 1 (nI n)) (ix a1)) P) (i + 1)).1)), (6, .int (bi (decide ((bsn (fun n => hdM (itM P (upd m 1 (nI n)) (ix a1)) P) i).1 < 0) || !decide ((bsn (fun n => hdM (itM P (upd m 1 (nI n)) (ix a1)) P) i).2 ≤ hdM (itM P (upd m 1 (nI i)) (ix a1)) P)))), (5, .int (hdM (itM P (upd m 1 (nI i)) (ix a1)) P)), (4, .int (nI i)), (3, .int ((bsn (fun n => hdM (itM P (upd m 1 (nI n)) (ix a1)) P) i).2)), (0, .ref h), (1, .int (nI (ix a1)))] → W pG l eG { frames := 9, cells := 0, slots := 0, locals := 191 } sG mG [.ref h, .int a1].toArray below meth cG H locs 0 0 (MQ below (va_Qi (fun (r : Int32) (u : ((Nat → Int32)) × ((Nat → Int32))) => (r, u.1) = mn_four P m fd a1) (gR E (fun u : ((Nat → Int32)) × ((Nat → Int32)) => [(h, .inr (4, fs)), (qm, .inl (eI E, 75, .inl m)), (qw, .inl (eI E, 75, .inl u.2)), (qf, .inl (eI E, 7, .inl u.1))]) A) A) [.ref h, .int a1].toArray sG 0 0 A) (F0 mG 91 ls [.int ((bsn (fun n => hdM (itM P (upd m 1 (nI n)) (ix a1)) P) (i + 1)).2)]) := by
                intro H locs ls hP hD hS hl
                refine lv_istore_n (lv' := [(3, .int ((bsn (fun n => hdM (itM P (upd m 1 (nI n)) (ix a1)) P) (i + 1)).2)), (2, .int ((bsn (fun n => hdM (itM P (upd m 1 (nI n)) (ix a1)) P) (i + 1)).1)), (6, .int (bi (decide ((bsn (fun n => hdM (itM P (upd m 1 (nI n)) (ix a1)) P) i).1 < 0) || !decide ((bsn (fun n => hdM (itM P (upd m 1 (nI n)) (ix a1)) P) i).2 ≤ hdM (itM P (upd m 1 (nI i)) (ix a1)) P)))), (5, .int (hdM (itM P (upd m 1 (nI i)) (ix a1)) P)), (4, .int (nI i)), (0, .ref h), (1, .int (nI (ix a1)))]) F.1 F.2.1 dX4_four_91 rfl hl (by decide) rfl (fun ls hl => ?_)
                refine lv_iinc (v := nI (i + 1)) (lv' := [(4, .int (nI (i + 1))), (3, .int ((bsn (fun n => hdM (itM P (upd m 1 (nI n)) (ix a1)) P) (i + 1)).2)), (2, .int ((bsn (fun n => hdM (itM P (upd m 1 (nI n)) (ix a1)) P) (i + 1)).1)), (6, .int (bi (decide ((bsn (fun n => hdM (itM P (upd m 1 (nI n)) (ix a1)) P) i).1 < 0) || !decide ((bsn (fun n => hdM (itM P (upd m 1 (nI n)) (ix a1)) P) i).2 ≤ hdM (itM P (upd m 1 (nI i)) (ix a1)) P)))), (5, .int (hdM (itM P (upd m 1 (nI i)) (ix a1)) P)), (0, .ref h), (1, .int (nI (ix a1)))]) F.1 F.2.1 dX4_four_92 hl (k := 4) rfl (nI_1 _) (by decide) rfl (fun ls hl => ?_)
                refine lv_goto (tgt := 29) F.1 F.2.1 dX4_four_95 (by decide) ?_
                exact ih (i + 1) (by omega) (by omega)  _ _ _ hP hD hS (lv_sub hl [0, 1, 2, 5, 6] rfl)
              refine g_beq (tgt := 90) F dX4_four_82 (by decide) (fun k3 => ?_) (fun k3 => ?_)
              · refine lv_iload_n F.1 F.2.1 dX4_four_90 rfl (lv_at hl 4 rfl) ?_
                refine g_top ((bsn (fun n => hdM (itM P (upd m 1 (nI n)) (ix a1)) P) (i + 1)).2) (by first | exact (congrArg Prod.snd (bsn_t (f := fun n => hdM (itM P (upd m 1 (nI n)) (ix a1)) P) (n := i) k3)).symm | exact (congrArg Prod.snd (bsn_f (f := fun n => hdM (itM P (upd m 1 (nI n)) (ix a1)) P) (n := i) k3)).symm) ?_
                exact jn91 _ _ _ hP hD hS (lv_sub hl [0, 1, 2, 3, 4, 5, 6] rfl)
              · refine lv_iload F.1 F.2.1 dX4_four_85 (lv_at hl 2 rfl) ?_
                refine lv_goto (tgt := 91) F.1 F.2.1 dX4_four_87 (by decide) ?_
                refine g_top ((bsn (fun n => hdM (itM P (upd m 1 (nI n)) (ix a1)) P) (i + 1)).2) (by first | exact (congrArg Prod.snd (bsn_t (f := fun n => hdM (itM P (upd m 1 (nI n)) (ix a1)) P) (n := i) k3)).symm | exact (congrArg Prod.snd (bsn_f (f := fun n => hdM (itM P (upd m 1 (nI n)) (ix a1)) P) (n := i) k3)).symm) ?_
                exact jn91 _ _ _ hP hD hS (lv_sub hl [0, 1, 2, 3, 4, 5, 6] rfl)
            refine g_beq (tgt := 78) F dX4_four_70 (by decide) (fun k4 => ?_) (fun k4 => ?_)
            · refine lv_iload_n F.1 F.2.1 dX4_four_78 rfl (lv_at hl 4 rfl) ?_
              refine g_top ((bsn (fun n => hdM (itM P (upd m 1 (nI n)) (ix a1)) P) (i + 1)).1) (by first | exact (congrArg Prod.fst (bsn_t (f := fun n => hdM (itM P (upd m 1 (nI n)) (ix a1)) P) (n := i) k4)).symm | exact (congrArg Prod.fst (bsn_f (f := fun n => hdM (itM P (upd m 1 (nI n)) (ix a1)) P) (n := i) k4)).symm) ?_
              exact jn79 _ _ _ hP hD hS (lv_sub hl [0, 1, 2, 3, 4, 5, 6] rfl)
            · refine lv_iload F.1 F.2.1 dX4_four_73 (lv_at hl 2 rfl) ?_
              refine lv_goto (tgt := 79) F.1 F.2.1 dX4_four_75 (by decide) ?_
              refine g_top ((bsn (fun n => hdM (itM P (upd m 1 (nI n)) (ix a1)) P) (i + 1)).1) (by first | exact (congrArg Prod.fst (bsn_t (f := fun n => hdM (itM P (upd m 1 (nI n)) (ix a1)) P) (n := i) k4)).symm | exact (congrArg Prod.fst (bsn_f (f := fun n => hdM (itM P (upd m 1 (nI n)) (ix a1)) P) (n := i) k4)).symm) ?_
              exact jn79 _ _ _ hP hD hS (lv_sub hl [0, 1, 2, 3, 4, 5, 6] rfl)
          refine lv_if_lt (tgt := 61) F.1 F.2.1 dX4_four_52 (by decide) (fun k5 => ?_) (fun k5 => ?_)
          · refine lv_iconst (v := 1) F.1 F.2.1 dX4_four_61 (by decide) ?_
            refine lv_goto (tgt := 66) F.1 F.2.1 dX4_four_62 (by decide) ?_
            refine g_top (bi (decide ((bsn (fun n => hdM (itM P (upd m 1 (nI n)) (ix a1)) P) i).1 < 0) || !decide ((bsn (fun n => hdM (itM P (upd m 1 (nI n)) (ix a1)) P) i).2 ≤ hdM (itM P (upd m 1 (nI i)) (ix a1)) P))) (by first | (rw [decide_eq_true k5]; rfl) | (rw [decide_eq_false k1, decide_eq_true k5]; rfl) | (rw [decide_eq_false k1, decide_eq_false k5]; rfl)) ?_
            exact jn66 _ _ _ hP hD hS (lv_sub hl [0, 1, 2, 3, 4, 5] rfl)
          · refine lv_iload F.1 F.2.1 dX4_four_55 (lv_at hl 0 rfl) ?_
            refine lv_iload_n F.1 F.2.1 dX4_four_57 rfl (lv_at hl 2 rfl) ?_
            refine lv_icmp_ge (tgt := 65) F.1 F.2.1 dX4_four_58 (by decide) (fun k6 => ?_) (fun k6 => ?_)
            · refine lv_iconst (v := 0) F.1 F.2.1 dX4_four_65 (by decide) ?_
              refine g_top (bi (decide ((bsn (fun n => hdM (itM P (upd m 1 (nI n)) (ix a1)) P) i).1 < 0) || !decide ((bsn (fun n => hdM (itM P (upd m 1 (nI n)) (ix a1)) P) i).2 ≤ hdM (itM P (upd m 1 (nI i)) (ix a1)) P))) (by first | (rw [decide_eq_true k6]; rfl) | (rw [decide_eq_false k5, decide_eq_true k6]; rfl) | (rw [decide_eq_false k5, decide_eq_false k6]; rfl)) ?_
              exact jn66 _ _ _ hP hD hS (lv_sub hl [0, 1, 2, 3, 4, 5] rfl)
            · refine lv_iconst (v := 1) F.1 F.2.1 dX4_four_61 (by decide) ?_
              refine lv_goto (tgt := 66) F.1 F.2.1 dX4_four_62 (by decide) ?_
              refine g_top (bi (decide ((bsn (fun n => hdM (itM P (upd m 1 (nI n)) (ix a1)) P) i).1 < 0) || !decide ((bsn (fun n => hdM (itM P (upd m 1 (nI n)) (ix a1)) P) i).2 ≤ hdM (itM P (upd m 1 (nI i)) (ix a1)) P))) (by first | (rw [decide_eq_true k6]; rfl) | (rw [decide_eq_false k5, decide_eq_true k6]; rfl) | (rw [decide_eq_false k5, decide_eq_false k6]; rfl)) ?_
              exact jn66 _ _ _ hP hD hS (lv_sub hl [0, 1, 2, 3, 4, 5] rfl)
    exact lp29 (100 + 1) 0 (by omega) (by omega)  _ _ _ hP hD hS (lv_sub hl [0, 1, 2, 3, 4] rfl)
  · refine lv_aload_n F.1 F.2.1 dX4_four_11 rfl (lv_at hl 0 rfl) ?_
    refine lv_ldc (v := (-1000000001)) F.1 F.2.1 F.2.2.2.1 (F.2.2.2.2 _ (mm 1 rfl)) dX4_four_12 ?_
    refine g_goI (wr := [(qm, .inl (eI E, 75, .inl m)), (qw, .inl (eI E, 75, .inl w))]) (g_runV (As := [.int (-1000000001)]) (rest := []) F hX hP hD hS hA (c_X4_finds l E h fs qf fd (-1000000001) 0 (by first | assumption | rfl) (by decide +kernel) (by decide) H.size) (cwV 1 F.2.2.2.2 gX4_four_X4_finds rfl rfl rfl (by decide +kernel) ⟨Nat.le_of_ble_eq_true rfl, Nat.le_of_ble_eq_true rfl⟩) [0, 3] rfl rfl (q0 := 0) (ci := 4) rfl rfl rfl hl.1 rfl (Nat.le_of_ble_eq_true rfl) dX4_four_14 ⟨Nat.le_refl _, Nat.le_refl _⟩) hP hD hS hA [0, 3] [1, 2] rfl rfl rfl (by decide) (fun r _ H locs hq hP hD hS => ?_)
    have hP : va_P (eD E) vwCl [(h, .inr (4, fs)), (qm, .inl (eI E, 75, .inl m)), (qw, .inl (eI E, 75, .inl w)), (qf, .inl (eI E, 7, .inl (upd fd 0 (fd 0 + 1))))] H := hP.sub [2, 0, 1, 3] rfl
    have hD : va_D A [(h, .inr (4, fs)), (qm, .inl (eI E, 75, .inl m)), (qw, .inl (eI E, 75, .inl w)), (qf, .inl (eI E, 7, .inl (upd fd 0 (fd 0 + 1))))] := hD.sub [2, 0, 1, 3] (by decide) rfl
    subst hq
    exact g_reti F hr hlk (vp_nar_int _) hS hP hD ((upd fd 0 (fd 0 + 1), w)) (rfl) (by unfold mn_four; (try simp only [k1, and_self, true_and, and_true, if_true, Bool.false_eq_true, false_and, and_false, if_false]); all_goals simp [fn, k1]) dX4_four_17
