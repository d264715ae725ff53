def mn_lays (b : Int32) (Z : Nat) (ce : Nat → Int64) (m fd : Nat → Int32) (a1 : Int32) : Int32 × (Nat → Int32) × (Nat → Int32) := if ntC a1 b = 0 then (nI (laN (fun q => ce (40 * ix a1 + q)) 5 m (min Z 30)).1, (laN (fun q => ce (40 * ix a1 + q)) 5 m (min Z 30)).2, fd) else (ntC a1 b, m, fn fd (fobK a1 b))
set_option maxHeartbeats 4000000 in
set_option maxRecDepth 100000 in
theorem c_X4_lays (l : Launch) (E : gE) (h : Nat) (fs : List Value) (qm : Nat) (qf : Nat) (qb : Nat) (qs : Nat) (qc : Nat) (m : Nat → Int32) (bi4 : Nat → Int32) (si4 : Nat → Int32) (ce : Nat → Int64) (fd : Nat → Int32) (Z : Nat) (a1 : Int32) (hf0 : fs[0]? = some (.ref qm)) (hf4 : fs[4]? = some (.ref qf)) (hf12 : fs[12]? = some (.ref qb)) (hf13 : fs[13]? = some (.ref qs)) (hf14 : fs[14]? = some (.ref qc)) (hZ : Z ≤ 40) (hsz : inR a1 0 3 = true → si4 (ix a1) = nI Z) : gI l yX4_lays wsX4_lays ({ frames := 3, cells := 0, slots := 0, locals := 64 }) E [(h, .inr (4, fs)), (qm, .inl (eI E, 75, .inl m)), (qb, .inl (eI E, 4, .inl bi4)), (qs, .inl (eI E, 4, .inl si4)), (qc, .inl (eJ E, 160, .inr (.inl ce))), (qf, .inl (eI E, 7, .inl fd))] (fun u : (Nat → Int32) × (Nat → Int32) => [(h, .inr (4, fs)), (qm, .inl (eI E, 75, .inl u.1)), (qb, .inl (eI E, 4, .inl bi4)), (qs, .inl (eI E, 4, .inl si4)), (qc, .inl (eJ E, 160, .inr (.inl ce))), (qf, .inl (eI E, 7, .inl u.2))]) [.ref h, .int a1] (fun (r : Int32) (u : (Nat → Int32) × (Nat → Int32)) => (r, u) = mn_lays (bi4 (ix a1)) Z ce m fd a1) := by
  have hin4 : ∀ w ∈ wsX40, w ∈ wsX4_lays := (fun _ h => (List.mem_cons_of_mem _ (List.mem_append_right _ h)))
  refine gI.of (cc := cX4_lays) (maxL := 5) (by decide) rfl (Nat.le_of_ble_eq_true rfl) ?_
  intro pG eG sG mG below meth cG A ls H locs F hr hlk hX hP hD hA hS hl
  have hl : lv_has ls 5 [(0, .ref h), (1, .int a1)] := hl
  refine lv_aload_n F.1 F.2.1 dX4_lays_0 rfl (lv_at hl 0 rfl) ?_
  refine lv_iload_n F.1 F.2.1 dX4_lays_1 rfl (lv_at hl 1 rfl) ?_
  refine g_goIr (g_runV (As := [.int a1]) (rest := []) F hX hP hD hS hA (c_X4_notThere l E h fs qb bi4 a1 (by first | assumption | rfl) H.size) (cwV 1 F.2.2.2.2 gX4_lays_X4_notThere rfl rfl rfl (by decide +kernel) ⟨Nat.le_of_ble_eq_true rfl, Nat.le_of_ble_eq_true rfl⟩) [0, 2] rfl rfl (q0 := 0) (ci := 4) rfl rfl rfl hl.1 rfl (Nat.le_of_ble_eq_true rfl) dX4_lays_2 ⟨Nat.le_refl _, Nat.le_refl _⟩) hP hD hS hA [0, 2] rfl (fun r _ H locs hq hP hS => ?_)
  subst hq
  refine lv_istore_n (lv' := [(2, .int (ntC a1 (bi4 (ix a1)))), (0, .ref h), (1, .int a1)]) F.1 F.2.1 dX4_lays_5 rfl hl (by decide) rfl (fun ls hl => ?_)
  refine lv_iload_n F.1 F.2.1 dX4_lays_6 rfl (lv_at hl 0 rfl) ?_
  refine lv_if_eq (tgt := 16) F.1 F.2.1 dX4_lays_7 (by decide) (fun k1 => ?_) (fun k1 => ?_)
  · obtain ⟨n1, n2⟩ := nt_0 k1
    obtain ⟨e_a1, b_a1⟩ := ix_of 3 n1 (by decide) (by decide)
    have hl : lv_has ls 5 [(2, .int (ntC a1 (bi4 (ix a1)))), (0, .ref h), (1, .int (nI (ix a1)))] := by rw [← e_a1]; exact hl
    refine lv_iconst (v := 0) F.1 F.2.1 dX4_lays_16 (by decide) ?_
    refine lv_istore_n (lv' := [(3, .int 0), (2, .int (ntC a1 (bi4 (ix a1)))), (0, .ref h), (1, .int (nI (ix a1)))]) F.1 F.2.1 dX4_lays_17 rfl hl (by decide) rfl (fun ls hl => ?_)
    refine lv_iconst (v := 0) F.1 F.2.1 dX4_lays_18 (by decide) ?_
    refine lv_istore (lv' := [(4, .int 0), (3, .int 0), (2, .int (ntC a1 (bi4 (ix a1)))), (0, .ref h), (1, .int (nI (ix a1)))]) F.1 F.2.1 dX4_lays_19 hl (by decide) rfl (fun ls hl => ?_)
    have lp21 : ∀ (fu i : Nat), i ≤ (min Z 30) → (min Z 30) + 1 ≤ i + fu → ∀ (H : Heap) (locs : List Loc) (ls : Array Slot), va_P (eD E) vwCl [(h, .inr (4, fs)), (qm, .inl (eI E, 75, .inl ((laN (fun q => ce (40 * ix a1 + q)) 5 m i).2))), (qb, .inl (eI E, 4, .inl bi4)), (qs, .inl (eI E, 4, .inl si4)), (qc, .inl (eJ E, 160, .inr (.inl ce))), (qf, .inl (eI E, 7, .inl fd))] H → va_D A [(h, .inr (4, fs)), (qm, .inl (eI E, 75, .inl ((laN (fun q => ce (40 * ix a1 + q)) 5 m i).2))), (qb, .inl (eI E, 4, .inl bi4)), (qs, .inl (eI E, 4, .inl si4)), (qc, .inl (eJ E, 160, .inr (.inl ce))), (qf, .inl (eI E, 7, .inl fd))] → va_S A sG.heap H locs → lv_has ls 5 [(4, .int (nI i)), (3, .int (nI (laN (fun q => ce (40 * ix a1 + q)) 5 m i).1)), (2, .int (ntC a1 (bi4 (ix a1)))), (0, .ref h), (1, .int (nI (ix a1)))] → W pG l eG { frames := 3, cells := 0, slots := 0, locals := 64 } sG mG [.ref h, .int a1].toArray below meth cG H locs 0 0 (MQ below (va_Qi (fun (r : Int32) (u : (Nat → Int32) × (Nat → Int32)) => (r, u) = mn_lays (bi4 (ix a1)) Z ce m fd a1) (gR E (fun u : (Nat → Int32) × (Nat → Int32) => [(h, .inr (4, fs)), (qm, .inl (eI E, 75, .inl u.1)), (qb, .inl (eI E, 4, .inl bi4)), (qs, .inl (eI E, 4, .inl si4)), (qc, .inl (eJ E, 160, .inr (.inl ce))), (qf, .inl (eI E, 7, .inl u.2))]) A) A) [.ref h, .int a1].toArray sG 0 0 A) (F0 mG 21 ls []) := by
      intro fu
      induction fu with
      | zero => intro i h1 h2; exact absurd h2 (by omega)
      | succ fu ih =>
        intro i hi hin   H locs ls hP hD hS hl
        refine lv_iload F.1 F.2.1 dX4_lays_21 (lv_at hl 0 rfl) ?_
        refine lv_aload_n F.1 F.2.1 dX4_lays_23 rfl (lv_at hl 3 rfl) ?_
        refine g_get F hX hP hin4 0 rfl rfl 13 (by decide) (mm 1 rfl) hf13 dX4_lays_24 ?_
        refine lv_iload_n F.1 F.2.1 dX4_lays_27 rfl (lv_at hl 4 rfl) ?_
        refine g_iald F hX hP 3 rfl (j := (ix a1)) (rfl) (by omega) (by decide) dX4_lays_28 ?_
        refine g_top (nI Z) (hsz n1) ?_
        refine lv_icmp_ge (tgt := 91) F.1 F.2.1 dX4_lays_29 (by decide) (fun k2 => ?_) (fun k2 => ?_)
        · refine lv_iload_n F.1 F.2.1 dX4_lays_91 rfl (lv_at hl 1 rfl) ?_
          first | rw [min_l ((nI_leI (by omega) (by omega)).mp k2) hi] at hP hD ⊢ | skip
          exact g_reti F hr hlk (vp_nar_int _) hS hP hD (_) (rfl) (by unfold mn_lays; rw [if_pos k1]) dX4_lays_92
        · refine lv_iload F.1 F.2.1 dX4_lays_32 (lv_at hl 0 rfl) ?_
          refine lv_bipush (v := 30) F.1 F.2.1 dX4_lays_34 (by decide) ?_
          refine lv_icmp_ge (tgt := 91) F.1 F.2.1 dX4_lays_36 (by decide) (fun k3 => ?_) (fun k3 => ?_)
          · have hiN : (min Z 30) = i := Nat.le_antisymm (Nat.le_trans (Nat.min_le_right _ _) ((nI_leI (by decide) (by omega)).mp k3)) hi
            subst hiN
            refine lv_iload_n F.1 F.2.1 dX4_lays_91 rfl (lv_at hl 1 rfl) ?_
            first | rw [min_l ((nI_leI (by omega) (by omega)).mp k2) hi] at hP hD ⊢ | skip
            exact g_reti F hr hlk (vp_nar_int _) hS hP hD (_) (rfl) (by unfold mn_lays; rw [if_pos k1]) dX4_lays_92
          · have hiN : i < (min Z 30) := Nat.lt_min.mpr ⟨Nat.lt_of_not_le (fun h => k2 (nI_le h (by omega))), Nat.lt_of_not_le (fun h => k3 (nI_le h (by omega)))⟩
            refine lv_aload_n F.1 F.2.1 dX4_lays_39 rfl (lv_at hl 3 rfl) ?_
            refine g_get F hX hP hin4 0 rfl rfl 14 (by decide) (mm 2 rfl) hf14 dX4_lays_40 ?_
            refine lv_bipush (v := 40) F.1 F.2.1 dX4_lays_43 (by decide) ?_
            refine lv_iload_n F.1 F.2.1 dX4_lays_45 rfl (lv_at hl 4 rfl) ?_
            refine lv_imul F.1 F.2.1 dX4_lays_46 ?_
            refine lv_iload F.1 F.2.1 dX4_lays_47 (lv_at hl 0 rfl) ?_
            refine lv_iadd F.1 F.2.1 dX4_lays_49 ?_
            refine g_lald F hX hP 4 rfl (j := 40 * ix a1 + i) (i40 _ _) (by omega) (by decide) dX4_lays_50 ?_
            refine lv_iconst (v := 0) F.1 F.2.1 dX4_lays_51 (by decide) ?_
            refine lv_bipush (v := 20) F.1 F.2.1 dX4_lays_52 (by decide) ?_
            refine g_goIr (g_runS (As := [.long (ce (40 * ix a1 + i)), .int 0, .int 20]) (rest := []) F hX hP hD hS hA (c_X4_in l E (ce (40 * ix a1 + i)) 0 20 H.size) (va_cwS 3 F.2.2.2.2 gX4_lays_X4_in rfl rfl rfl (by decide +kernel) ⟨Nat.le_of_ble_eq_true rfl, Nat.le_of_ble_eq_true rfl⟩) [] rfl rfl rfl hl.1 rfl (Nat.le_of_ble_eq_true rfl) dX4_lays_54 ⟨Nat.le_refl _, Nat.le_refl _⟩) hP hD hS hA [] rfl (fun r _ H locs hq hP hS => ?_)
            subst hq
            refine g_beq (tgt := 85) F dX4_lays_57 (by decide) (fun k4 => ?_) (fun k4 => ?_)
            · refine lv_iinc (v := nI (i + 1)) (lv' := [(4, .int (nI (i + 1))), (3, .int (nI (laN (fun q => ce (40 * ix a1 + q)) 5 m i).1)), (2, .int (ntC a1 (bi4 (ix a1)))), (0, .ref h), (1, .int (nI (ix a1)))]) F.1 F.2.1 dX4_lays_85 hl (k := 0) rfl (nI_1 _) (by decide) rfl (fun ls hl => ?_)
              refine lv_goto (tgt := 21) F.1 F.2.1 dX4_lays_88 (by decide) ?_
              rw [show (nI (laN (fun q => ce (40 * ix a1 + q)) 5 m i).1 : Int32) = nI (laN (fun q => ce (40 * ix a1 + q)) 5 m (i + 1)).1 from by first | exact (congrArg (fun q : Nat × (Nat → Int32) => nI q.1) (laN_n (nu := (fun q => ce (40 * ix a1 + q))) (o := 5) (no := m) (i := i) k4)).symm | exact (congrArg (fun q : Nat × (Nat → Int32) => nI q.1) (laN_y (nu := (fun q => ce (40 * ix a1 + q))) (o := 5) (no := m) (i := i) k4)).symm] at hl
              have ecell : ((laN (fun q => ce (40 * ix a1 + q)) 5 m i).2) = ((laN (fun q => ce (40 * ix a1 + q)) 5 m (i + 1)).2) := by first | exact (congrArg (fun q : Nat × (Nat → Int32) => q.2) (laN_n (nu := (fun q => ce (40 * ix a1 + q))) (o := 5) (no := m) (i := i) k4)).symm | exact (congrArg (fun q : Nat × (Nat → Int32) => q.2) (laN_y (nu := (fun q => ce (40 * ix a1 + q))) (o := 5) (no := m) (i := i) k4)).symm
              rw [ecell] at hP hD
              clear ecell
              have hP : va_P (eD E) vwCl [(h, .inr (4, fs)), (qm, .inl (eI E, 75, .inl ((laN (fun q => ce (40 * ix a1 + q)) 5 m (i + 1)).2))), (qb, .inl (eI E, 4, .inl bi4)), (qs, .inl (eI E, 4, .inl si4)), (qc, .inl (eJ E, 160, .inr (.inl ce))), (qf, .inl (eI E, 7, .inl fd))] H := hP
              have hD : va_D A [(h, .inr (4, fs)), (qm, .inl (eI E, 75, .inl ((laN (fun q => ce (40 * ix a1 + q)) 5 m (i + 1)).2))), (qb, .inl (eI E, 4, .inl bi4)), (qs, .inl (eI E, 4, .inl si4)), (qc, .inl (eJ E, 160, .inr (.inl ce))), (qf, .inl (eI E, 7, .inl fd))] := hD
              exact ih (i + 1) (by omega) (by omega)  _ _ _ hP hD hS (lv_sub hl [0, 1, 2, 3, 4] rfl)
            · refine lv_aload_n F.1 F.2.1 dX4_lays_60 rfl (lv_at hl 3 rfl) ?_
              refine g_get F hX hP hin4 0 rfl rfl 0 (by decide) (mm 3 rfl) hf0 dX4_lays_61 ?_
              refine lv_iconst (v := 5) F.1 F.2.1 dX4_lays_64 (by decide) ?_
              refine lv_iload F.1 F.2.1 dX4_lays_65 (lv_at hl 0 rfl) ?_
              refine lv_iadd F.1 F.2.1 dX4_lays_67 ?_
              refine lv_aload_n F.1 F.2.1 dX4_lays_68 rfl (lv_at hl 3 rfl) ?_
              refine g_get F hX hP hin4 0 rfl rfl 14 (by decide) (mm 2 rfl) hf14 dX4_lays_69 ?_
              refine lv_bipush (v := 40) F.1 F.2.1 dX4_lays_72 (by decide) ?_
              refine lv_iload_n F.1 F.2.1 dX4_lays_74 rfl (lv_at hl 4 rfl) ?_
              refine lv_imul F.1 F.2.1 dX4_lays_75 ?_
              refine lv_iload F.1 F.2.1 dX4_lays_76 (lv_at hl 0 rfl) ?_
              refine lv_iadd F.1 F.2.1 dX4_lays_78 ?_
              refine g_lald F hX hP 4 rfl (j := 40 * ix a1 + i) (i40 _ _) (by omega) (by decide) dX4_lays_79 ?_
              refine lv_l2i (v := (ce (40 * ix a1 + i) : Int64).toInt32) F.1 F.2.1 dX4_lays_80 rfl ?_
              refine g_iast F hX hP hD hS 1 rfl (j := 5 + i) (nI_add 5 i) (by omega) (by decide) dX4_lays_81 (fun H locs hP hD hS => ?_)
              have hP : va_P (eD E) vwCl [(h, .inr (4, fs)), (qm, .inl (eI E, 75, .inl (upd ((laN (fun q => ce (40 * ix a1 + q)) 5 m i).2) (5 + i) ((ce (40 * ix a1 + i) : Int64).toInt32)))), (qb, .inl (eI E, 4, .inl bi4)), (qs, .inl (eI E, 4, .inl si4)), (qc, .inl (eJ E, 160, .inr (.inl ce))), (qf, .inl (eI E, 7, .inl fd))] H := hP
              have hD : va_D A [(h, .inr (4, fs)), (qm, .inl (eI E, 75, .inl (upd ((laN (fun q => ce (40 * ix a1 + q)) 5 m i).2) (5 + i) ((ce (40 * ix a1 + i) : Int64).toInt32)))), (qb, .inl (eI E, 4, .inl bi4)), (qs, .inl (eI E, 4, .inl si4)), (qc, .inl (eJ E, 160, .inr (.inl ce))), (qf, .inl (eI E, 7, .inl fd))] := hD
              refine lv_iinc (v := nI ((laN (fun q => ce (40 * ix a1 + q)) 5 m i).1 + 1)) (lv' := [(3, .int (nI ((laN (fun q => ce (40 * ix a1 + q)) 5 m i).1 + 1))), (4, .int (nI i)), (2, .int (ntC a1 (bi4 (ix a1)))), (0, .ref h), (1, .int (nI (ix a1)))]) F.1 F.2.1 dX4_lays_82 hl (k := 1) rfl (nI_1 _) (by decide) rfl (fun ls hl => ?_)
              refine lv_iinc (v := nI (i + 1)) (lv' := [(4, .int (nI (i + 1))), (3, .int (nI ((laN (fun q => ce (40 * ix a1 + q)) 5 m i).1 + 1))), (2, .int (ntC a1 (bi4 (ix a1)))), (0, .ref h), (1, .int (nI (ix a1)))]) F.1 F.2.1 dX4_lays_85 hl (k := 1) rfl (nI_1 _) (by decide) rfl (fun ls hl => ?_)
              refine lv_goto (tgt := 21) F.1 F.2.1 dX4_lays_88 (by decide) ?_
              rw [show (nI ((laN (fun q => ce (40 * ix a1 + q)) 5 m i).1 + 1) : Int32) = nI (laN (fun q => ce (40 * ix a1 + q)) 5 m (i + 1)).1 from by first | exact (congrArg (fun q : Nat × (Nat → Int32) => nI q.1) (laN_n (nu := (fun q => ce (40 * ix a1 + q))) (o := 5) (no := m) (i := i) k4)).symm | exact (congrArg (fun q : Nat × (Nat → Int32) => nI q.1) (laN_y (nu := (fun q => ce (40 * ix a1 + q))) (o := 5) (no := m) (i := i) k4)).symm] at hl
              have ecell : (upd ((laN (fun q => ce (40 * ix a1 + q)) 5 m i).2) (5 + i) ((ce (40 * ix a1 + i) : Int64).toInt32)) = ((laN (fun q => ce (40 * ix a1 + q)) 5 m (i + 1)).2) := by first | exact (congrArg (fun q : Nat × (Nat → Int32) => q.2) (laN_n (nu := (fun q => ce (40 * ix a1 + q))) (o := 5) (no := m) (i := i) k4)).symm | exact (congrArg (fun q : Nat × (Nat → Int32) => q.2) (laN_y (nu := (fun q => ce (40 * ix a1 + q))) (o := 5) (no := m) (i := i) k4)).symm
              rw [ecell] at hP hD
              clear ecell
              have hP : va_P (eD E) vwCl [(h, .inr (4, fs)), (qm, .inl (eI E, 75, .inl ((laN (fun q => ce (40 * ix a1 + q)) 5 m (i + 1)).2))), (qb, .inl (eI E, 4, .inl bi4)), (qs, .inl (eI E, 4, .inl si4)), (qc, .inl (eJ E, 160, .inr (.inl ce))), (qf, .inl (eI E, 7, .inl fd))] H := hP
              have hD : va_D A [(h, .inr (4, fs)), (qm, .inl (eI E, 75, .inl ((laN (fun q => ce (40 * ix a1 + q)) 5 m (i + 1)).2))), (qb, .inl (eI E, 4, .inl bi4)), (qs, .inl (eI E, 4, .inl si4)), (qc, .inl (eJ E, 160, .inr (.inl ce))), (qf, .inl (eI E, 7, .inl fd))] := hD
              exact ih (i + 1) (by omega) (by omega)  _ _ _ hP hD hS (lv_sub hl [0, 1, 2, 3, 4] rfl)
    have hP : va_P (eD E) vwCl [(h, .inr (4, fs)), (qm, .inl (eI E, 75, .inl ((laN (fun q => ce (40 * ix a1 + q)) 5 m 0).2))), (qb, .inl (eI E, 4, .inl bi4)), (qs, .inl (eI E, 4, .inl si4)), (qc, .inl (eJ E, 160, .inr (.inl ce))), (qf, .inl (eI E, 7, .inl fd))] H := hP
    have hD : va_D A [(h, .inr (4, fs)), (qm, .inl (eI E, 75, .inl ((laN (fun q => ce (40 * ix a1 + q)) 5 m 0).2))), (qb, .inl (eI E, 4, .inl bi4)), (qs, .inl (eI E, 4, .inl si4)), (qc, .inl (eJ E, 160, .inr (.inl ce))), (qf, .inl (eI E, 7, .inl fd))] := hD
    exact lp21 ((min Z 30) + 1) 0 (by omega) (by omega)  _ _ _ hP hD hS (lv_sub hl [0, 1, 2, 3, 4] rfl)
  · refine lv_aload_n F.1 F.2.1 dX4_lays_10 rfl (lv_at hl 1 rfl) ?_
    refine lv_iload_n F.1 F.2.1 dX4_lays_11 rfl (lv_at hl 0 rfl) ?_
    refine g_goI (wr := [(qm, .inl (eI E, 75, .inl m)), (qb, .inl (eI E, 4, .inl bi4)), (qs, .inl (eI E, 4, .inl si4)), (qc, .inl (eJ E, 160, .inr (.inl ce)))]) (g_runV (As := [.int (ntC a1 (bi4 (ix a1)))]) (rest := []) F hX hP hD hS hA (c_X4_finds l E h fs qf fd (ntC a1 (bi4 (ix a1))) (fobK a1 (bi4 (ix a1))) (by first | assumption | rfl) ((nt_k k1).1) ((nt_k k1).2) H.size) (cwV 1 F.2.2.2.2 gX4_lays_X4_finds rfl rfl rfl (by decide +kernel) ⟨Nat.le_of_ble_eq_true rfl, Nat.le_of_ble_eq_true rfl⟩) [0, 5] rfl rfl (q0 := 0) (ci := 4) rfl rfl rfl hl.1 rfl (Nat.le_of_ble_eq_true rfl) dX4_lays_12 ⟨Nat.le_refl _, Nat.le_refl _⟩) hP hD hS hA [0, 5] [1, 2, 3, 4] rfl rfl rfl (by decide) (fun r _ H locs hq hP hD hS => ?_)
    have hP : va_P (eD E) vwCl [(h, .inr (4, fs)), (qm, .inl (eI E, 75, .inl m)), (qb, .inl (eI E, 4, .inl bi4)), (qs, .inl (eI E, 4, .inl si4)), (qc, .inl (eJ E, 160, .inr (.inl ce))), (qf, .inl (eI E, 7, .inl (upd fd (fobK a1 (bi4 (ix a1))) (fd (fobK a1 (bi4 (ix a1))) + 1))))] H := hP.sub [4, 0, 1, 2, 3, 5] rfl
    have hD : va_D A [(h, .inr (4, fs)), (qm, .inl (eI E, 75, .inl m)), (qb, .inl (eI E, 4, .inl bi4)), (qs, .inl (eI E, 4, .inl si4)), (qc, .inl (eJ E, 160, .inr (.inl ce))), (qf, .inl (eI E, 7, .inl (upd fd (fobK a1 (bi4 (ix a1))) (fd (fobK a1 (bi4 (ix a1))) + 1))))] := hD.sub [4, 0, 1, 2, 3, 5] (by decide) rfl
    subst hq
    exact g_reti F hr hlk (vp_nar_int _) hS hP hD ((m, upd fd (fobK a1 (bi4 (ix a1))) (fd (fobK a1 (bi4 (ix a1))) + 1))) (rfl) (by unfold mn_lays; rw [if_neg k1]; rfl) dX4_lays_15
set_option maxHeartbeats 4000000 in
set_option maxRecDepth 100000 in
theorem c_X4_notAsked (l : Launch) (E : gE) (h : Nat) (fs : List Value) (qm : Nat) (qb : Nat) (m : Nat → Int32) (bi4 : Nat → Int32) (P : Nat) (a1 : Int32) (a2 : Int32) (hf0 : fs[0]? = some (.ref qm)) (hf12 : fs[12]? = some (.ref qb)) (hm4 : m 4 = nI P) : gI l yX4_notAsked wsX4_notAsked ({ frames := 3, cells := 0, slots := 0, locals := 64 }) E [(h, .inr (4, fs)), (qm, .inl (eI E, 75, .inl m)), (qb, .inl (eI E, 4, .inl bi4))] (fun _ : Unit => [(h, .inr (4, fs)), (qm, .inl (eI E, 75, .inl m)), (qb, .inl (eI E, 4, .inl bi4))]) [.ref h, .int a1, .int a2] (fun (r : Int32) (_ : Unit) => r = fobC a1 (bi4 (ix a1)) a2 P) := by
  refine gI.of (cc := cX4_notAsked) (maxL := 4) (by decide) rfl (Nat.le_of_ble_eq_true rfl) ?_
  intro pG eG sG mG below meth cG A ls H locs F hr hlk hX hP hD hA hS hl
  have hl : lv_has ls 4 [(0, .ref h), (1, .int a1), (2, .int a2)] := hl
  refine lv_aload_n F.1 F.2.1 dX4_notAsked_0 rfl (lv_at hl 0 rfl) ?_
  refine lv_iload_n F.1 F.2.1 dX4_notAsked_1 rfl (lv_at hl 1 rfl) ?_
  refine g_goIr (g_runV (As := [.int a1]) (rest := []) F hX hP hD hS hA (c_X4_notThere l E h fs qb bi4 a1 (by first | assumption | rfl) H.size) (cwV 1 F.2.2.2.2 gX4_notAsked_X4_notThere rfl rfl rfl (by decide +kernel) ⟨Nat.le_of_ble_eq_true rfl, Nat.le_of_ble_eq_true rfl⟩) [0, 2] rfl rfl (q0 := 0) (ci := 4) rfl rfl rfl hl.1 rfl (Nat.le_of_ble_eq_true rfl) dX4_notAsked_2 ⟨Nat.le_refl _, Nat.le_refl _⟩) hP hD hS hA [0, 2] rfl (fun r _ H locs hq hP hS => ?_)
  subst hq
  refine lv_istore_n (lv' := [(3, .int (ntC a1 (bi4 (ix a1)))), (0, .ref h), (1, .int a1), (2, .int a2)]) F.1 F.2.1 dX4_notAsked_5 rfl hl (by decide) rfl (fun ls hl => ?_)
  refine lv_iload_n F.1 F.2.1 dX4_notAsked_6 rfl (lv_at hl 0 rfl) ?_
  have jn24 : ∀ (H : Heap) (locs : List Loc) (ls : Array Slot), va_P (eD E) vwCl [(h, .inr (4, fs)), (qm, .inl (eI E, 75, .inl m)), (qb, .inl (eI E, 4, .inl bi4))] H → va_D A [(h, .inr (4, fs)), (qm, .inl (eI E, 75, .inl m)), (qb, .inl (eI E, 4, .inl bi4))] → va_S A sG.heap H locs → lv_has ls 4 [(3, .int (ntC a1 (bi4 (ix a1)))), (0, .ref h), (1, .int a1), (2, .int a2)] → W pG l eG { frames := 3, cells := 0, slots := 0, locals := 64 } sG mG [.ref h, .int a1, .int a2].toArray below meth cG H locs 0 0 (MQ below (va_Qi (fun (r : Int32) (_ : Unit) => r = fobC a1 (bi4 (ix a1)) a2 P) (gR E (fun _ : Unit => [(h, .inr (4, fs)), (qm, .inl (eI E, 75, .inl m)), (qb, .inl (eI E, 4, .inl bi4))]) A) A) [.ref h, .int a1, .int a2].toArray sG 0 0 A) (F0 mG 24 ls [.int (fobC a1 (bi4 (ix a1)) a2 P)]) := by
    intro H locs ls hP hD hS hl
    exact g_reti F hr hlk (vp_nar_int _) hS hP hD (()) (rfl) (rfl) dX4_notAsked_24
  refine lv_if_ne (tgt := 23) F.1 F.2.1 dX4_notAsked_7 (by decide) (fun k1 => ?_) (fun k1 => ?_)
  · refine lv_iload_n F.1 F.2.1 dX4_notAsked_23 rfl (lv_at hl 0 rfl) ?_
    refine g_top (fobC a1 (bi4 (ix a1)) a2 P) (by first | exact nt_fob3 k1 k1 | exact nt_fob2 k1 k1 | exact nt_fob1 k1) ?_
    exact jn24 _ _ _ hP hD hS (lv_sub hl [0, 1, 2, 3] rfl)
  · refine lv_aload_n F.1 F.2.1 dX4_notAsked_10 rfl (lv_at hl 1 rfl) ?_
    refine lv_iload_n F.1 F.2.1 dX4_notAsked_11 rfl (lv_at hl 3 rfl) ?_
    refine g_goIr (g_runV (As := [.int a2]) (rest := []) F hX hP hD hS hA (c_X4_isPerson l E h fs qm m P a2 (by first | assumption | rfl) (by first | assumption | omega) H.size) (cwV 1 F.2.2.2.2 gX4_notAsked_X4_isPerson rfl rfl rfl (by decide +kernel) ⟨Nat.le_of_ble_eq_true rfl, Nat.le_of_ble_eq_true rfl⟩) [0, 1] rfl rfl (q0 := 0) (ci := 4) rfl rfl rfl hl.1 rfl (Nat.le_of_ble_eq_true rfl) dX4_notAsked_12 ⟨Nat.le_refl _, Nat.le_refl _⟩) hP hD hS hA [0, 1] rfl (fun r _ H locs hq hP hS => ?_)
    subst hq
    refine g_bne (tgt := 23) F dX4_notAsked_15 (by decide) (fun k2 => ?_) (fun k2 => ?_)
    · refine lv_iload_n F.1 F.2.1 dX4_notAsked_23 rfl (lv_at hl 0 rfl) ?_
      refine g_top (fobC a1 (bi4 (ix a1)) a2 P) (by first | exact nt_fob3 k1 k2 | exact nt_fob2 k1 k2 | exact nt_fob1 k2) ?_
      exact jn24 _ _ _ hP hD hS (lv_sub hl [0, 1, 2, 3] rfl)
    · refine lv_ldc (v := (-1000000001)) F.1 F.2.1 F.2.2.2.1 (F.2.2.2.2 _ (mm 1 rfl)) dX4_notAsked_18 ?_
      refine lv_goto (tgt := 24) F.1 F.2.1 dX4_notAsked_20 (by decide) ?_
      refine g_top (fobC a1 (bi4 (ix a1)) a2 P) (by first | exact nt_fob3 k1 k2 | exact nt_fob2 k1 k2 | exact nt_fob1 k2) ?_
      exact jn24 _ _ _ hP hD hS (lv_sub hl [0, 1, 2, 3] rfl)
