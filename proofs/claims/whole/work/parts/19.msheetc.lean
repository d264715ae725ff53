def mn_sheet (bi4 si4 : Nat → Int32) (ce : Nat → Int64) (fd : Nat → Int32) (a1 a2 a3 : Int32) : Int32 × (Nat → Int32) × (Nat → Int32) × (Nat → Int64) × (Nat → Int32) := if inR a1 0 3 = true ∧ isW a2 = true then (if 0 ≤ a3 then (if a3 ≤ 40 then (nI (if a2 = 0 then 0 else ix a3), upd bi4 (ix a1) a2, upd si4 (ix a1) (nI (if a2 = 0 then 0 else ix a3)), bkO (fun _ => 0) ce (40 * ix a1) 40, fd) else (-1000000001, bi4, si4, ce, fn fd 0)) else (-1000000007, bi4, si4, ce, fn fd 6)) else (-1000000001, bi4, si4, ce, fn fd 0)
theorem isW_0 {a : Int32} (h : a = 0) : isW a = true := by subst h; decide
theorem isW_8 {a : Int32} (h : a = 8) : isW a = true := by subst h; decide
theorem isW_16 {a : Int32} (h : a = 16) : isW a = true := by subst h; decide
theorem isW_64 {a : Int32} (h : a = 64) : isW a = true := by subst h; decide
set_option maxHeartbeats 4000000 in
set_option maxRecDepth 100000 in
theorem c_X4_sheet (l : Launch) (E : gE) (h : Nat) (fs : List Value) (qf : Nat) (qb : Nat) (qs : Nat) (qc : Nat) (bi4 : Nat → Int32) (si4 : Nat → Int32) (ce : Nat → Int64) (fd : Nat → Int32) (a1 : Int32) (a2 : Int32) (a3 : Int32) (hf4 : fs[4]? = some (.ref qf)) (hf12 : fs[12]? = some (.ref qb)) (hf13 : fs[13]? = some (.ref qs)) (hf14 : fs[14]? = some (.ref qc)) : gI l yX4_sheet wsX4_sheet ({ frames := 2, cells := 0, slots := 0, locals := 43 }) E [(h, .inr (4, fs)), (qb, .inl (eI E, 4, .inl bi4)), (qs, .inl (eI E, 4, .inl si4)), (qc, .inl (eJ E, 160, .inr (.inl ce))), (qf, .inl (eI E, 7, .inl fd))] (fun u : (Nat → Int32) × (Nat → Int32) × (Nat → Int64) × (Nat → Int32) => [(h, .inr (4, fs)), (qb, .inl (eI E, 4, .inl u.1)), (qs, .inl (eI E, 4, .inl u.2.1)), (qc, .inl (eJ E, 160, .inr (.inl u.2.2.1))), (qf, .inl (eI E, 7, .inl u.2.2.2))]) [.ref h, .int a1, .int a2, .int a3] (fun (r : Int32) (u : (Nat → Int32) × (Nat → Int32) × (Nat → Int64) × (Nat → Int32)) => (r, u) = mn_sheet bi4 si4 ce fd a1 a2 a3) := by
  have hin4 : ∀ w ∈ wsX40, w ∈ wsX4_sheet := (fun _ h => (List.mem_cons_of_mem _ (List.mem_append_right _ h)))
  refine gI.of (cc := cX4_sheet) (maxL := 5) (by decide) rfl (Nat.le_of_ble_eq_true rfl) ?_
  intro pG eG sG mG below meth cG A ls H locs F hr hlk hX hP hD hA hS hl
  have hl : lv_has ls 5 [(0, .ref h), (1, .int a1), (2, .int a2), (3, .int a3)] := hl
  refine lv_iload_n F.1 F.2.1 dX4_sheet_0 rfl (lv_at hl 1 rfl) ?_
  refine g_goIr (g_runS (As := [.int a1]) (rest := []) F hX hP hD hS hA (c_X4_isSheet l E a1 H.size) (va_cwS 1 F.2.2.2.2 gX4_sheet_X4_isSheet rfl rfl rfl (by decide +kernel) ⟨Nat.le_of_ble_eq_true rfl, Nat.le_of_ble_eq_true rfl⟩) [] rfl rfl rfl hl.1 rfl (Nat.le_of_ble_eq_true rfl) dX4_sheet_1 ⟨Nat.le_refl _, Nat.le_refl _⟩) hP hD hS hA [] rfl (fun r _ H locs hq hP hS => ?_)
  subst hq
  refine g_beq (tgt := 29) F dX4_sheet_4 (by decide) (fun k1 => ?_) (fun k1 => ?_)
  · refine lv_aload_n F.1 F.2.1 dX4_sheet_29 rfl (lv_at hl 0 rfl) ?_
    refine lv_ldc (v := (-1000000001)) F.1 F.2.1 F.2.2.2.1 (F.2.2.2.2 _ (mm 1 rfl)) dX4_sheet_30 ?_
    refine g_goI (wr := [(qb, .inl (eI E, 4, .inl bi4)), (qs, .inl (eI E, 4, .inl si4)), (qc, .inl (eJ E, 160, .inr (.inl ce)))]) (g_runV (As := [.int (-1000000001)]) (rest := []) F hX hP hD hS hA (c_X4_finds l E h fs qf fd (-1000000001) 0 (by first | assumption | rfl) (by decide +kernel) (by decide) H.size) (cwV 1 F.2.2.2.2 gX4_sheet_X4_finds rfl rfl rfl (by decide +kernel) ⟨Nat.le_of_ble_eq_true rfl, Nat.le_of_ble_eq_true rfl⟩) [0, 4] rfl rfl (q0 := 0) (ci := 4) rfl rfl rfl hl.1 rfl (Nat.le_of_ble_eq_true rfl) dX4_sheet_32 ⟨Nat.le_refl _, Nat.le_refl _⟩) hP hD hS hA [0, 4] [1, 2, 3] rfl rfl rfl (by decide) (fun r _ H locs hq hP hD hS => ?_)
    have hP : va_P (eD E) vwCl [(h, .inr (4, fs)), (qb, .inl (eI E, 4, .inl bi4)), (qs, .inl (eI E, 4, .inl si4)), (qc, .inl (eJ E, 160, .inr (.inl ce))), (qf, .inl (eI E, 7, .inl (upd fd 0 (fd 0 + 1))))] H := hP.sub [3, 0, 1, 2, 4] rfl
    have hD : va_D A [(h, .inr (4, fs)), (qb, .inl (eI E, 4, .inl bi4)), (qs, .inl (eI E, 4, .inl si4)), (qc, .inl (eJ E, 160, .inr (.inl ce))), (qf, .inl (eI E, 7, .inl (upd fd 0 (fd 0 + 1))))] := hD.sub [3, 0, 1, 2, 4] (by decide) rfl
    subst hq
    exact g_reti F hr hlk (vp_nar_int _) hS hP hD ((bi4, si4, ce, upd fd 0 (fd 0 + 1))) (rfl) (by unfold mn_sheet; simp [isW, fn, k1]) dX4_sheet_35
  · refine lv_iload_n F.1 F.2.1 dX4_sheet_7 rfl (lv_at hl 2 rfl) ?_
    refine lv_if_eq (tgt := 36) F.1 F.2.1 dX4_sheet_8 (by decide) (fun k2 => ?_) (fun k2 => ?_)
    · have kW : isW a2 = true := by first | exact isW_0 k2 | exact isW_8 k2 | exact isW_16 k2 | exact isW_64 k2
      refine lv_iload_n F.1 F.2.1 dX4_sheet_36 rfl (lv_at hl 3 rfl) ?_
      refine lv_if_ge (tgt := 47) F.1 F.2.1 dX4_sheet_37 (by decide) (fun k3 => ?_) (fun k3 => ?_)
      · refine lv_iload_n F.1 F.2.1 dX4_sheet_47 rfl (lv_at hl 3 rfl) ?_
        refine lv_bipush (v := 40) F.1 F.2.1 dX4_sheet_48 (by decide) ?_
        refine lv_icmp_le (tgt := 60) F.1 F.2.1 dX4_sheet_50 (by decide) (fun k4 => ?_) (fun k4 => ?_)
        · obtain ⟨e_a1, b_a1⟩ := ix_of 3 k1 (by decide) (by decide)
          have hl : lv_has ls 5 [(0, .ref h), (1, .int (nI (ix a1))), (2, .int a2), (3, .int a3)] := by rw [← e_a1]; exact hl
          have e_a3 := nI_ge0 k3
          have hl : lv_has ls 5 [(0, .ref h), (1, .int (nI (ix a1))), (2, .int a2), (3, .int (nI (ix a3)))] := by rw [← e_a3]; exact hl
          have g2 := k3
          have g1 := k4
          refine lv_aload_n F.1 F.2.1 dX4_sheet_60 rfl (lv_at hl 0 rfl) ?_
          refine g_get F hX hP hin4 0 rfl rfl 12 (by decide) (mm 3 rfl) hf12 dX4_sheet_61 ?_
          refine lv_iload_n F.1 F.2.1 dX4_sheet_64 rfl (lv_at hl 1 rfl) ?_
          refine lv_iload_n F.1 F.2.1 dX4_sheet_65 rfl (lv_at hl 2 rfl) ?_
          refine g_iast F hX hP hD hS 1 rfl (j := (ix a1)) (rfl) (by omega) (by decide) dX4_sheet_66 (fun H locs hP hD hS => ?_)
          have hP : va_P (eD E) vwCl [(h, .inr (4, fs)), (qb, .inl (eI E, 4, .inl (upd bi4 (ix a1) a2))), (qs, .inl (eI E, 4, .inl si4)), (qc, .inl (eJ E, 160, .inr (.inl ce))), (qf, .inl (eI E, 7, .inl fd))] H := hP
          have hD : va_D A [(h, .inr (4, fs)), (qb, .inl (eI E, 4, .inl (upd bi4 (ix a1) a2))), (qs, .inl (eI E, 4, .inl si4)), (qc, .inl (eJ E, 160, .inr (.inl ce))), (qf, .inl (eI E, 7, .inl fd))] := hD
          refine lv_aload_n F.1 F.2.1 dX4_sheet_67 rfl (lv_at hl 0 rfl) ?_
          refine g_get F hX hP hin4 0 rfl rfl 13 (by decide) (mm 4 rfl) hf13 dX4_sheet_68 ?_
          refine lv_iload_n F.1 F.2.1 dX4_sheet_71 rfl (lv_at hl 1 rfl) ?_
          refine lv_iload_n F.1 F.2.1 dX4_sheet_72 rfl (lv_at hl 2 rfl) ?_
          have jn81 : ∀ (H : Heap) (locs : List Loc) (ls : Array Slot), va_P (eD E) vwCl [(h, .inr (4, fs)), (qb, .inl (eI E, 4, .inl (upd bi4 (ix a1) a2))), (qs, .inl (eI E, 4, .inl si4)), (qc, .inl (eJ E, 160, .inr (.inl ce))), (qf, .inl (eI E, 7, .inl fd))] H → va_D A [(h, .inr (4, fs)), (qb, .inl (eI E, 4, .inl (upd bi4 (ix a1) a2))), (qs, .inl (eI E, 4, .inl si4)), (qc, .inl (eJ E, 160, .inr (.inl ce))), (qf, .inl (eI E, 7, .inl fd))] → va_S A sG.heap H locs → lv_has ls 5 [(0, .ref h), (1, .int (nI (ix a1))), (2, .int a2), (3, .int (nI (ix a3)))] → W pG l eG { frames := 2, cells := 0, slots := 0, locals := 43 } sG mG [.ref h, .int a1, .int a2, .int a3].toArray below meth cG H locs 0 0 (MQ below (va_Qi (fun (r : Int32) (u : (Nat → Int32) × (Nat → Int32) × (Nat → Int64) × (Nat → Int32)) => (r, u) = mn_sheet bi4 si4 ce fd a1 a2 a3) (gR E (fun u : (Nat → Int32) × (Nat → Int32) × (Nat → Int64) × (Nat → Int32) => [(h, .inr (4, fs)), (qb, .inl (eI E, 4, .inl u.1)), (qs, .inl (eI E, 4, .inl u.2.1)), (qc, .inl (eJ E, 160, .inr (.inl u.2.2.1))), (qf, .inl (eI E, 7, .inl u.2.2.2))]) A) A) [.ref h, .int a1, .int a2, .int a3].toArray sG 0 0 A) (F0 mG 81 ls [.int (nI (if a2 = 0 then 0 else ix a3)), .int (nI (ix a1)), .ref qs]) := by
            intro H locs ls hP hD hS hl
            refine g_iast F hX hP hD hS 2 rfl (j := (ix a1)) (rfl) (by omega) (by decide) dX4_sheet_81 (fun H locs hP hD hS => ?_)
            have hP : va_P (eD E) vwCl [(h, .inr (4, fs)), (qb, .inl (eI E, 4, .inl (upd bi4 (ix a1) a2))), (qs, .inl (eI E, 4, .inl (upd si4 (ix a1) (nI (if a2 = 0 then 0 else ix a3))))), (qc, .inl (eJ E, 160, .inr (.inl ce))), (qf, .inl (eI E, 7, .inl fd))] H := hP
            have hD : va_D A [(h, .inr (4, fs)), (qb, .inl (eI E, 4, .inl (upd bi4 (ix a1) a2))), (qs, .inl (eI E, 4, .inl (upd si4 (ix a1) (nI (if a2 = 0 then 0 else ix a3))))), (qc, .inl (eJ E, 160, .inr (.inl ce))), (qf, .inl (eI E, 7, .inl fd))] := hD
            refine lv_iconst (v := 0) F.1 F.2.1 dX4_sheet_82 (by decide) ?_
            refine lv_istore (lv' := [(4, .int 0), (0, .ref h), (1, .int (nI (ix a1))), (2, .int a2), (3, .int (nI (ix a3)))]) F.1 F.2.1 dX4_sheet_83 hl (by decide) rfl (fun ls hl => ?_)
            have lp85 : ∀ (fu i : Nat), i ≤ 40 → 40 + 1 ≤ i + fu → ∀ (H : Heap) (locs : List Loc) (ls : Array Slot), va_P (eD E) vwCl [(h, .inr (4, fs)), (qb, .inl (eI E, 4, .inl (upd bi4 (ix a1) a2))), (qs, .inl (eI E, 4, .inl (upd si4 (ix a1) (nI (if a2 = 0 then 0 else ix a3))))), (qc, .inl (eJ E, 160, .inr (.inl (bkO (fun _ => 0) ce (40 * ix a1) i)))), (qf, .inl (eI E, 7, .inl fd))] H → va_D A [(h, .inr (4, fs)), (qb, .inl (eI E, 4, .inl (upd bi4 (ix a1) a2))), (qs, .inl (eI E, 4, .inl (upd si4 (ix a1) (nI (if a2 = 0 then 0 else ix a3))))), (qc, .inl (eJ E, 160, .inr (.inl (bkO (fun _ => 0) ce (40 * ix a1) i)))), (qf, .inl (eI E, 7, .inl fd))] → va_S A sG.heap H locs → lv_has ls 5 [(4, .int (nI i)), (0, .ref h), (1, .int (nI (ix a1))), (2, .int a2), (3, .int (nI (ix a3)))] → W pG l eG { frames := 2, cells := 0, slots := 0, locals := 43 } sG mG [.ref h, .int a1, .int a2, .int a3].toArray below meth cG H locs 0 0 (MQ below (va_Qi (fun (r : Int32) (u : (Nat → Int32) × (Nat → Int32) × (Nat → Int64) × (Nat → Int32)) => (r, u) = mn_sheet bi4 si4 ce fd a1 a2 a3) (gR E (fun u : (Nat → Int32) × (Nat → Int32) × (Nat → Int64) × (Nat → Int32) => [(h, .inr (4, fs)), (qb, .inl (eI E, 4, .inl u.1)), (qs, .inl (eI E, 4, .inl u.2.1)), (qc, .inl (eJ E, 160, .inr (.inl u.2.2.1))), (qf, .inl (eI E, 7, .inl u.2.2.2))]) A) A) [.ref h, .int a1, .int a2, .int a3].toArray sG 0 0 A) (F0 mG 85 ls []) := by
              intro fu
              induction fu with
              | zero => intro i h1 h2; exact absurd h2 (by omega)
              | succ fu ih =>
                intro i hi hin   H locs ls hP hD hS hl
                refine lv_iload F.1 F.2.1 dX4_sheet_85 (lv_at hl 0 rfl) ?_
                refine lv_bipush (v := 40) F.1 F.2.1 dX4_sheet_87 (by decide) ?_
                refine lv_icmp_ge (tgt := 111) F.1 F.2.1 dX4_sheet_89 (by decide) (fun k5 => ?_) (fun k5 => ?_)
                · have hiN : 40 = i := Nat.le_antisymm ((nI_leI (by omega) (by omega)).mp k5) hi
                  subst hiN
                  refine lv_aload_n F.1 F.2.1 dX4_sheet_111 rfl (lv_at hl 1 rfl) ?_
                  refine g_get F hX hP hin4 0 rfl rfl 13 (by decide) (mm 4 rfl) hf13 dX4_sheet_112 ?_
                  refine lv_iload_n F.1 F.2.1 dX4_sheet_115 rfl (lv_at hl 2 rfl) ?_
                  refine g_iald F hX hP 2 rfl (j := (ix a1)) (rfl) (by omega) (by decide) dX4_sheet_116 ?_
                  refine g_top (nI (if a2 = 0 then 0 else ix a3)) (upd_at _ _ _) ?_
                  exact g_reti F hr hlk (vp_nar_int _) hS hP hD ((upd bi4 (ix a1) a2, upd si4 (ix a1) (nI (if a2 = 0 then 0 else ix a3)), bkO (fun _ => 0) ce (40 * ix a1) 40, fd)) (rfl) (by unfold mn_sheet; rw [if_pos (And.intro k1 kW), if_pos g2, if_pos g1]) dX4_sheet_117
                · have hiN : i < 40 := Nat.lt_of_not_le (fun h => k5 (nI_le h (by omega)))
                  refine lv_aload_n F.1 F.2.1 dX4_sheet_92 rfl (lv_at hl 1 rfl) ?_
                  refine g_get F hX hP hin4 0 rfl rfl 14 (by decide) (mm 5 rfl) hf14 dX4_sheet_93 ?_
                  refine lv_bipush (v := 40) F.1 F.2.1 dX4_sheet_96 (by decide) ?_
                  refine lv_iload_n F.1 F.2.1 dX4_sheet_98 rfl (lv_at hl 2 rfl) ?_
                  refine lv_imul F.1 F.2.1 dX4_sheet_99 ?_
                  refine lv_iload F.1 F.2.1 dX4_sheet_100 (lv_at hl 0 rfl) ?_
                  refine lv_iadd F.1 F.2.1 dX4_sheet_102 ?_
                  refine lv_lconst (v := 0) F.1 F.2.1 dX4_sheet_103 (by decide) ?_
                  refine g_last F hX hP hD hS 3 rfl (j := 40 * ix a1 + i) (i40 _ _) (by omega) (by decide) dX4_sheet_104 (fun H locs hP hD hS => ?_)
                  have hP : va_P (eD E) vwCl [(h, .inr (4, fs)), (qb, .inl (eI E, 4, .inl (upd bi4 (ix a1) a2))), (qs, .inl (eI E, 4, .inl (upd si4 (ix a1) (nI (if a2 = 0 then 0 else ix a3))))), (qc, .inl (eJ E, 160, .inr (.inl (vp_updL (bkO (fun _ => 0) ce (40 * ix a1) i) (40 * ix a1 + i) 0)))), (qf, .inl (eI E, 7, .inl fd))] H := hP
                  have hD : va_D A [(h, .inr (4, fs)), (qb, .inl (eI E, 4, .inl (upd bi4 (ix a1) a2))), (qs, .inl (eI E, 4, .inl (upd si4 (ix a1) (nI (if a2 = 0 then 0 else ix a3))))), (qc, .inl (eJ E, 160, .inr (.inl (vp_updL (bkO (fun _ => 0) ce (40 * ix a1) i) (40 * ix a1 + i) 0)))), (qf, .inl (eI E, 7, .inl fd))] := hD
                  refine lv_iinc (v := nI (i + 1)) (lv' := [(4, .int (nI (i + 1))), (0, .ref h), (1, .int (nI (ix a1))), (2, .int a2), (3, .int (nI (ix a3)))]) F.1 F.2.1 dX4_sheet_105 hl (k := 0) rfl (nI_1 _) (by decide) rfl (fun ls hl => ?_)
                  refine lv_goto (tgt := 85) F.1 F.2.1 dX4_sheet_108 (by decide) ?_
                  have ecell : (vp_updL (bkO (fun _ => 0) ce (40 * ix a1) i) (40 * ix a1 + i) 0) = (bkO (fun _ => 0) ce (40 * ix a1) (i + 1)) := bkO_s _ _ _ _ _ rfl
                  rw [ecell] at hP hD
                  clear ecell
                  have hP : va_P (eD E) vwCl [(h, .inr (4, fs)), (qb, .inl (eI E, 4, .inl (upd bi4 (ix a1) a2))), (qs, .inl (eI E, 4, .inl (upd si4 (ix a1) (nI (if a2 = 0 then 0 else ix a3))))), (qc, .inl (eJ E, 160, .inr (.inl (bkO (fun _ => 0) ce (40 * ix a1) (i + 1))))), (qf, .inl (eI E, 7, .inl fd))] H := hP
                  have hD : va_D A [(h, .inr (4, fs)), (qb, .inl (eI E, 4, .inl (upd bi4 (ix a1) a2))), (qs, .inl (eI E, 4, .inl (upd si4 (ix a1) (nI (if a2 = 0 then 0 else ix a3))))), (qc, .inl (eJ E, 160, .inr (.inl (bkO (fun _ => 0) ce (40 * ix a1) (i + 1))))), (qf, .inl (eI E, 7, .inl fd))] := hD
                  exact ih (i + 1) (by omega) (by omega)  _ _ _ hP hD hS (lv_sub hl [0, 1, 2, 3, 4] rfl)
            have ecell : ce = (bkO (fun _ => 0) ce (40 * ix a1) 0) := bkO_0 _ _ _
            rw [ecell] at hP hD
            clear ecell
            have hP : va_P (eD E) vwCl [(h, .inr (4, fs)), (qb, .inl (eI E, 4, .inl (upd bi4 (ix a1) a2))), (qs, .inl (eI E, 4, .inl (upd si4 (ix a1) (nI (if a2 = 0 then 0 else ix a3))))), (qc, .inl (eJ E, 160, .inr (.inl (bkO (fun _ => 0) ce (40 * ix a1) 0)))), (qf, .inl (eI E, 7, .inl fd))] H := hP
            have hD : va_D A [(h, .inr (4, fs)), (qb, .inl (eI E, 4, .inl (upd bi4 (ix a1) a2))), (qs, .inl (eI E, 4, .inl (upd si4 (ix a1) (nI (if a2 = 0 then 0 else ix a3))))), (qc, .inl (eJ E, 160, .inr (.inl (bkO (fun _ => 0) ce (40 * ix a1) 0)))), (qf, .inl (eI E, 7, .inl fd))] := hD
            exact lp85 (40 + 1) 0 (by omega) (by omega)  _ _ _ hP hD hS (lv_sub hl [0, 1, 2, 3, 4] rfl)
          refine lv_if_ne (tgt := 80) F.1 F.2.1 dX4_sheet_73 (by decide) (fun k6 => ?_) (fun k6 => ?_)
          · refine lv_iload_n F.1 F.2.1 dX4_sheet_80 rfl (lv_at hl 3 rfl) ?_
            refine g_top (nI (if a2 = 0 then 0 else ix a3)) (by first | (rw [if_pos k6]; rfl) | (rw [if_neg k6])) ?_
            exact jn81 _ _ _ hP hD hS (lv_sub hl [0, 1, 2, 3] rfl)
          · refine lv_iconst (v := 0) F.1 F.2.1 dX4_sheet_76 (by decide) ?_
            refine lv_goto (tgt := 81) F.1 F.2.1 dX4_sheet_77 (by decide) ?_
            refine g_top (nI (if a2 = 0 then 0 else ix a3)) (by first | (rw [if_pos k6]; rfl) | (rw [if_neg k6])) ?_
            exact jn81 _ _ _ hP hD hS (lv_sub hl [0, 1, 2, 3] rfl)
        · refine lv_aload_n F.1 F.2.1 dX4_sheet_53 rfl (lv_at hl 0 rfl) ?_
          refine lv_ldc (v := (-1000000001)) F.1 F.2.1 F.2.2.2.1 (F.2.2.2.2 _ (mm 1 rfl)) dX4_sheet_54 ?_
          refine g_goI (wr := [(qb, .inl (eI E, 4, .inl bi4)), (qs, .inl (eI E, 4, .inl si4)), (qc, .inl (eJ E, 160, .inr (.inl ce)))]) (g_runV (As := [.int (-1000000001)]) (rest := []) F hX hP hD hS hA (c_X4_finds l E h fs qf fd (-1000000001) 0 (by first | assumption | rfl) (by decide +kernel) (by decide) H.size) (cwV 1 F.2.2.2.2 gX4_sheet_X4_finds rfl rfl rfl (by decide +kernel) ⟨Nat.le_of_ble_eq_true rfl, Nat.le_of_ble_eq_true rfl⟩) [0, 4] rfl rfl (q0 := 0) (ci := 4) rfl rfl rfl hl.1 rfl (Nat.le_of_ble_eq_true rfl) dX4_sheet_56 ⟨Nat.le_refl _, Nat.le_refl _⟩) hP hD hS hA [0, 4] [1, 2, 3] rfl rfl rfl (by decide) (fun r _ H locs hq hP hD hS => ?_)
          have hP : va_P (eD E) vwCl [(h, .inr (4, fs)), (qb, .inl (eI E, 4, .inl bi4)), (qs, .inl (eI E, 4, .inl si4)), (qc, .inl (eJ E, 160, .inr (.inl ce))), (qf, .inl (eI E, 7, .inl (upd fd 0 (fd 0 + 1))))] H := hP.sub [3, 0, 1, 2, 4] rfl
          have hD : va_D A [(h, .inr (4, fs)), (qb, .inl (eI E, 4, .inl bi4)), (qs, .inl (eI E, 4, .inl si4)), (qc, .inl (eJ E, 160, .inr (.inl ce))), (qf, .inl (eI E, 7, .inl (upd fd 0 (fd 0 + 1))))] := hD.sub [3, 0, 1, 2, 4] (by decide) rfl
          subst hq
          exact g_reti F hr hlk (vp_nar_int _) hS hP hD ((bi4, si4, ce, upd fd 0 (fd 0 + 1))) (rfl) (by unfold mn_sheet; rw [if_pos (And.intro k1 kW), if_pos k3, if_neg k4]; rfl) dX4_sheet_59
      · refine lv_aload_n F.1 F.2.1 dX4_sheet_40 rfl (lv_at hl 0 rfl) ?_
        refine lv_ldc (v := (-1000000007)) F.1 F.2.1 F.2.2.2.1 (F.2.2.2.2 _ (mm 2 rfl)) dX4_sheet_41 ?_
        refine g_goI (wr := [(qb, .inl (eI E, 4, .inl bi4)), (qs, .inl (eI E, 4, .inl si4)), (qc, .inl (eJ E, 160, .inr (.inl ce)))]) (g_runV (As := [.int (-1000000007)]) (rest := []) F hX hP hD hS hA (c_X4_finds l E h fs qf fd (-1000000007) 6 (by first | assumption | rfl) (by decide +kernel) (by decide) H.size) (cwV 1 F.2.2.2.2 gX4_sheet_X4_finds rfl rfl rfl (by decide +kernel) ⟨Nat.le_of_ble_eq_true rfl, Nat.le_of_ble_eq_true rfl⟩) [0, 4] rfl rfl (q0 := 0) (ci := 4) rfl rfl rfl hl.1 rfl (Nat.le_of_ble_eq_true rfl) dX4_sheet_43 ⟨Nat.le_refl _, Nat.le_refl _⟩) hP hD hS hA [0, 4] [1, 2, 3] rfl rfl rfl (by decide) (fun r _ H locs hq hP hD hS => ?_)
        have hP : va_P (eD E) vwCl [(h, .inr (4, fs)), (qb, .inl (eI E, 4, .inl bi4)), (qs, .inl (eI E, 4, .inl si4)), (qc, .inl (eJ E, 160, .inr (.inl ce))), (qf, .inl (eI E, 7, .inl (upd fd 6 (fd 6 + 1))))] H := hP.sub [3, 0, 1, 2, 4] rfl
        have hD : va_D A [(h, .inr (4, fs)), (qb, .inl (eI E, 4, .inl bi4)), (qs, .inl (eI E, 4, .inl si4)), (qc, .inl (eJ E, 160, .inr (.inl ce))), (qf, .inl (eI E, 7, .inl (upd fd 6 (fd 6 + 1))))] := hD.sub [3, 0, 1, 2, 4] (by decide) rfl
        subst hq
        exact g_reti F hr hlk (vp_nar_int _) hS hP hD ((bi4, si4, ce, upd fd 6 (fd 6 + 1))) (rfl) (by unfold mn_sheet; rw [if_pos (And.intro k1 kW), if_neg k3]; rfl) dX4_sheet_46
    · refine lv_iload_n F.1 F.2.1 dX4_sheet_11 rfl (lv_at hl 2 rfl) ?_
      refine lv_bipush (v := 8) F.1 F.2.1 dX4_sheet_12 (by decide) ?_
      refine lv_icmp_eq (tgt := 36) F.1 F.2.1 dX4_sheet_14 (by decide) (fun k7 => ?_) (fun k7 => ?_)
      · have kW : isW a2 = true := by first | exact isW_0 k7 | exact isW_8 k7 | exact isW_16 k7 | exact isW_64 k7
        refine lv_iload_n F.1 F.2.1 dX4_sheet_36 rfl (lv_at hl 3 rfl) ?_
        refine lv_if_ge (tgt := 47) F.1 F.2.1 dX4_sheet_37 (by decide) (fun k8 => ?_) (fun k8 => ?_)
        · refine lv_iload_n F.1 F.2.1 dX4_sheet_47 rfl (lv_at hl 3 rfl) ?_
          refine lv_bipush (v := 40) F.1 F.2.1 dX4_sheet_48 (by decide) ?_
          refine lv_icmp_le (tgt := 60) F.1 F.2.1 dX4_sheet_50 (by decide) (fun k9 => ?_) (fun k9 => ?_)
          · obtain ⟨e_a1, b_a1⟩ := ix_of 3 k1 (by decide) (by decide)
            have hl : lv_has ls 5 [(0, .ref h), (1, .int (nI (ix a1))), (2, .int a2), (3, .int a3)] := by rw [← e_a1]; exact hl
            have e_a3 := nI_ge0 k8
            have hl : lv_has ls 5 [(0, .ref h), (1, .int (nI (ix a1))), (2, .int a2), (3, .int (nI (ix a3)))] := by rw [← e_a3]; exact hl
            have g2 := k8
            have g1 := k9
            refine lv_aload_n F.1 F.2.1 dX4_sheet_60 rfl (lv_at hl 0 rfl) ?_
            refine g_get F hX hP hin4 0 rfl rfl 12 (by decide) (mm 3 rfl) hf12 dX4_sheet_61 ?_
            refine lv_iload_n F.1 F.2.1 dX4_sheet_64 rfl (lv_at hl 1 rfl) ?_
            refine lv_iload_n F.1 F.2.1 dX4_sheet_65 rfl (lv_at hl 2 rfl) ?_
            refine g_iast F hX hP hD hS 1 rfl (j := (ix a1)) (rfl) (by omega) (by decide) dX4_sheet_66 (fun H locs hP hD hS => ?_)
            have hP : va_P (eD E) vwCl [(h, .inr (4, fs)), (qb, .inl (eI E, 4, .inl (upd bi4 (ix a1) a2))), (qs, .inl (eI E, 4, .inl si4)), (qc, .inl (eJ E, 160, .inr (.inl ce))), (qf, .inl (eI E, 7, .inl fd))] H := hP
            have hD : va_D A [(h, .inr (4, fs)), (qb, .inl (eI E, 4, .inl (upd bi4 (ix a1) a2))), (qs, .inl (eI E, 4, .inl si4)), (qc, .inl (eJ E, 160, .inr (.inl ce))), (qf, .inl (eI E, 7, .inl fd))] := hD
            refine lv_aload_n F.1 F.2.1 dX4_sheet_67 rfl (lv_at hl 0 rfl) ?_
            refine g_get F hX hP hin4 0 rfl rfl 13 (by decide) (mm 4 rfl) hf13 dX4_sheet_68 ?_
            refine lv_iload_n F.1 F.2.1 dX4_sheet_71 rfl (lv_at hl 1 rfl) ?_
            refine lv_iload_n F.1 F.2.1 dX4_sheet_72 rfl (lv_at hl 2 rfl) ?_
            have jn81 : ∀ (H : Heap) (locs : List Loc) (ls : Array Slot), va_P (eD E) vwCl [(h, .inr (4, fs)), (qb, .inl (eI E, 4, .inl (upd bi4 (ix a1) a2))), (qs, .inl (eI E, 4, .inl si4)), (qc, .inl (eJ E, 160, .inr (.inl ce))), (qf, .inl (eI E, 7, .inl fd))] H → va_D A [(h, .inr (4, fs)), (qb, .inl (eI E, 4, .inl (upd bi4 (ix a1) a2))), (qs, .inl (eI E, 4, .inl si4)), (qc, .inl (eJ E, 160, .inr (.inl ce))), (qf, .inl (eI E, 7, .inl fd))] → va_S A sG.heap H locs → lv_has ls 5 [(0, .ref h), (1, .int (nI (ix a1))), (2, .int a2), (3, .int (nI (ix a3)))] → W pG l eG { frames := 2, cells := 0, slots := 0, locals := 43 } sG mG [.ref h, .int a1, .int a2, .int a3].toArray below meth cG H locs 0 0 (MQ below (va_Qi (fun (r : Int32) (u : (Nat → Int32) × (Nat → Int32) × (Nat → Int64) × (Nat → Int32)) => (r, u) = mn_sheet bi4 si4 ce fd a1 a2 a3) (gR E (fun u : (Nat → Int32) × (Nat → Int32) × (Nat → Int64) × (Nat → Int32) => [(h, .inr (4, fs)), (qb, .inl (eI E, 4, .inl u.1)), (qs, .inl (eI E, 4, .inl u.2.1)), (qc, .inl (eJ E, 160, .inr (.inl u.2.2.1))), (qf, .inl (eI E, 7, .inl u.2.2.2))]) A) A) [.ref h, .int a1, .int a2, .int a3].toArray sG 0 0 A) (F0 mG 81 ls [.int (nI (if a2 = 0 then 0 else ix a3)), .int (nI (ix a1)), .ref qs]) := by
              intro H locs ls hP hD hS hl
              refine g_iast F hX hP hD hS 2 rfl (j := (ix a1)) (rfl) (by omega) (by decide) dX4_sheet_81 (fun H locs hP hD hS => ?_)
              have hP : va_P (eD E) vwCl [(h, .inr (4, fs)), (qb, .inl (eI E, 4, .inl (upd bi4 (ix a1) a2))), (qs, .inl (eI E, 4, .inl (upd si4 (ix a1) (nI (if a2 = 0 then 0 else ix a3))))), (qc, .inl (eJ E, 160, .inr (.inl ce))), (qf, .inl (eI E, 7, .inl fd))] H := hP
              have hD : va_D A [(h, .inr (4, fs)), (qb, .inl (eI E, 4, .inl (upd bi4 (ix a1) a2))), (qs, .inl (eI E, 4, .inl (upd si4 (ix a1) (nI (if a2 = 0 then 0 else ix a3))))), (qc, .inl (eJ E, 160, .inr (.inl ce))), (qf, .inl (eI E, 7, .inl fd))] := hD
              refine lv_iconst (v := 0) F.1 F.2.1 dX4_sheet_82 (by decide) ?_
              refine lv_istore (lv' := [(4, .int 0), (0, .ref h), (1, .int (nI (ix a1))), (2, .int a2), (3, .int (nI (ix a3)))]) F.1 F.2.1 dX4_sheet_83 hl (by decide) rfl (fun ls hl => ?_)
              have lp85 : ∀ (fu i : Nat), i ≤ 40 → 40 + 1 ≤ i + fu → ∀ (H : Heap) (locs : List Loc) (ls : Array Slot), va_P (eD E) vwCl [(h, .inr (4, fs)), (qb, .inl (eI E, 4, .inl (upd bi4 (ix a1) a2))), (qs, .inl (eI E, 4, .inl (upd si4 (ix a1) (nI (if a2 = 0 then 0 else ix a3))))), (qc, .inl (eJ E, 160, .inr (.inl (bkO (fun _ => 0) ce (40 * ix a1) i)))), (qf, .inl (eI E, 7, .inl fd))] H → va_D A [(h, .inr (4, fs)), (qb, .inl (eI E, 4, .inl (upd bi4 (ix a1) a2))), (qs, .inl (eI E, 4, .inl (upd si4 (ix a1) (nI (if a2 = 0 then 0 else ix a3))))), (qc, .inl (eJ E, 160, .inr (.inl (bkO (fun _ => 0) ce (40 * ix a1) i)))), (qf, .inl (eI E, 7, .inl fd))] → va_S A sG.heap H locs → lv_has ls 5 [(4, .int (nI i)), (0, .ref h), (1, .int (nI (ix a1))), (2, .int a2), (3, .int (nI (ix a3)))] → W pG l eG { frames := 2, cells := 0, slots := 0, locals := 43 } sG mG [.ref h, .int a1, .int a2, .int a3].toArray below meth cG H locs 0 0 (MQ below (va_Qi (fun (r : Int32) (u : (Nat → Int32) × (Nat → Int32) × (Nat → Int64) × (Nat → Int32)) => (r, u) = mn_sheet bi4 si4 ce fd a1 a2 a3) (gR E (fun u : (Nat → Int32) × (Nat → Int32) × (Nat → Int64) × (Nat → Int32) => [(h, .inr (4, fs)), (qb, .inl (eI E, 4, .inl u.1)), (qs, .inl (eI E, 4, .inl u.2.1)), (qc, .inl (eJ E, 160, .inr (.inl u.2.2.1))), (qf, .inl (eI E, 7, .inl u.2.2.2))]) A) A) [.ref h, .int a1, .int a2, .int a3].toArray sG 0 0 A) (F0 mG 85 ls []) := by
                intro fu
                induction fu with
                | zero => intro i h1 h2; exact absurd h2 (by omega)
                | succ fu ih =>
                  intro i hi hin   H locs ls hP hD hS hl
                  refine lv_iload F.1 F.2.1 dX4_sheet_85 (lv_at hl 0 rfl) ?_
                  refine lv_bipush (v := 40) F.1 F.2.1 dX4_sheet_87 (by decide) ?_
                  refine lv_icmp_ge (tgt := 111) F.1 F.2.1 dX4_sheet_89 (by decide) (fun k10 => ?_) (fun k10 => ?_)
                  · have hiN : 40 = i := Nat.le_antisymm ((nI_leI (by omega) (by omega)).mp k10) hi
                    subst hiN
                    refine lv_aload_n F.1 F.2.1 dX4_sheet_111 rfl (lv_at hl 1 rfl) ?_
                    refine g_get F hX hP hin4 0 rfl rfl 13 (by decide) (mm 4 rfl) hf13 dX4_sheet_112 ?_
                    refine lv_iload_n F.1 F.2.1 dX4_sheet_115 rfl (lv_at hl 2 rfl) ?_
                    refine g_iald F hX hP 2 rfl (j := (ix a1)) (rfl) (by omega) (by decide) dX4_sheet_116 ?_
                    refine g_top (nI (if a2 = 0 then 0 else ix a3)) (upd_at _ _ _) ?_
                    exact g_reti F hr hlk (vp_nar_int _) hS hP hD ((upd bi4 (ix a1) a2, upd si4 (ix a1) (nI (if a2 = 0 then 0 else ix a3)), bkO (fun _ => 0) ce (40 * ix a1) 40, fd)) (rfl) (by unfold mn_sheet; rw [if_pos (And.intro k1 kW), if_pos g2, if_pos g1]) dX4_sheet_117
                  · have hiN : i < 40 := Nat.lt_of_not_le (fun h => k10 (nI_le h (by omega)))
                    refine lv_aload_n F.1 F.2.1 dX4_sheet_92 rfl (lv_at hl 1 rfl) ?_
                    refine g_get F hX hP hin4 0 rfl rfl 14 (by decide) (mm 5 rfl) hf14 dX4_sheet_93 ?_
                    refine lv_bipush (v := 40) F.1 F.2.1 dX4_sheet_96 (by decide) ?_
                    refine lv_iload_n F.1 F.2.1 dX4_sheet_98 rfl (lv_at hl 2 rfl) ?_
                    refine lv_imul F.1 F.2.1 dX4_sheet_99 ?_
                    refine lv_iload F.1 F.2.1 dX4_sheet_100 (lv_at hl 0 rfl) ?_
                    refine lv_iadd F.1 F.2.1 dX4_sheet_102 ?_
                    refine lv_lconst (v := 0) F.1 F.2.1 dX4_sheet_103 (by decide) ?_
                    refine g_last F hX hP hD hS 3 rfl (j := 40 * ix a1 + i) (i40 _ _) (by omega) (by decide) dX4_sheet_104 (fun H locs hP hD hS => ?_)
                    have hP : va_P (eD E) vwCl [(h, .inr (4, fs)), (qb, .inl (eI E, 4, .inl (upd bi4 (ix a1) a2))), (qs, .inl (eI E, 4, .inl (upd si4 (ix a1) (nI (if a2 = 0 then 0 else ix a3))))), (qc, .inl (eJ E, 160, .inr (.inl (vp_updL (bkO (fun _ => 0) ce (40 * ix a1) i) (40 * ix a1 + i) 0)))), (qf, .inl (eI E, 7, .inl fd))] H := hP
                    have hD : va_D A [(h, .inr (4, fs)), (qb, .inl (eI E, 4, .inl (upd bi4 (ix a1) a2))), (qs, .inl (eI E, 4, .inl (upd si4 (ix a1) (nI (if a2 = 0 then 0 else ix a3))))), (qc, .inl (eJ E, 160, .inr (.inl (vp_updL (bkO (fun _ => 0) ce (40 * ix a1) i) (40 * ix a1 + i) 0)))), (qf, .inl (eI E, 7, .inl fd))] := hD
                    refine lv_iinc (v := nI (i + 1)) (lv' := [(4, .int (nI (i + 1))), (0, .ref h), (1, .int (nI (ix a1))), (2, .int a2), (3, .int (nI (ix a3)))]) F.1 F.2.1 dX4_sheet_105 hl (k := 0) rfl (nI_1 _) (by decide) rfl (fun ls hl => ?_)
                    refine lv_goto (tgt := 85) F.1 F.2.1 dX4_sheet_108 (by decide) ?_
                    have ecell : (vp_updL (bkO (fun _ => 0) ce (40 * ix a1) i) (40 * ix a1 + i) 0) = (bkO (fun _ => 0) ce (40 * ix a1) (i + 1)) := bkO_s _ _ _ _ _ rfl
                    rw [ecell] at hP hD
                    clear ecell
                    have hP : va_P (eD E) vwCl [(h, .inr (4, fs)), (qb, .inl (eI E, 4, .inl (upd bi4 (ix a1) a2))), (qs, .inl (eI E, 4, .inl (upd si4 (ix a1) (nI (if a2 = 0 then 0 else ix a3))))), (qc, .inl (eJ E, 160, .inr (.inl (bkO (fun _ => 0) ce (40 * ix a1) (i + 1))))), (qf, .inl (eI E, 7, .inl fd))] H := hP
                    have hD : va_D A [(h, .inr (4, fs)), (qb, .inl (eI E, 4, .inl (upd bi4 (ix a1) a2))), (qs, .inl (eI E, 4, .inl (upd si4 (ix a1) (nI (if a2 = 0 then 0 else ix a3))))), (qc, .inl (eJ E, 160, .inr (.inl (bkO (fun _ => 0) ce (40 * ix a1) (i + 1))))), (qf, .inl (eI E, 7, .inl fd))] := hD
                    exact ih (i + 1) (by omega) (by omega)  _ _ _ hP hD hS (lv_sub hl [0, 1, 2, 3, 4] rfl)
              have ecell : ce = (bkO (fun _ => 0) ce (40 * ix a1) 0) := bkO_0 _ _ _
              rw [ecell] at hP hD
              clear ecell
              have hP : va_P (eD E) vwCl [(h, .inr (4, fs)), (qb, .inl (eI E, 4, .inl (upd bi4 (ix a1) a2))), (qs, .inl (eI E, 4, .inl (upd si4 (ix a1) (nI (if a2 = 0 then 0 else ix a3))))), (qc, .inl (eJ E, 160, .inr (.inl (bkO (fun _ => 0) ce (40 * ix a1) 0)))), (qf, .inl (eI E, 7, .inl fd))] H := hP
              have hD : va_D A [(h, .inr (4, fs)), (qb, .inl (eI E, 4, .inl (upd bi4 (ix a1) a2))), (qs, .inl (eI E, 4, .inl (upd si4 (ix a1) (nI (if a2 = 0 then 0 else ix a3))))), (qc, .inl (eJ E, 160, .inr (.inl (bkO (fun _ => 0) ce (40 * ix a1) 0)))), (qf, .inl (eI E, 7, .inl fd))] := hD
              exact lp85 (40 + 1) 0 (by omega) (by omega)  _ _ _ hP hD hS (lv_sub hl [0, 1, 2, 3, 4] rfl)
            refine lv_if_ne (tgt := 80) F.1 F.2.1 dX4_sheet_73 (by decide) (fun k11 => ?_) (fun k11 => ?_)
            · refine lv_iload_n F.1 F.2.1 dX4_sheet_80 rfl (lv_at hl 3 rfl) ?_
              refine g_top (nI (if a2 = 0 then 0 else ix a3)) (by first | (rw [if_pos k11]; rfl) | (rw [if_neg k11])) ?_
              exact jn81 _ _ _ hP hD hS (lv_sub hl [0, 1, 2, 3] rfl)
            · refine lv_iconst (v := 0) F.1 F.2.1 dX4_sheet_76 (by decide) ?_
              refine lv_goto (tgt := 81) F.1 F.2.1 dX4_sheet_77 (by decide) ?_
              refine g_top (nI (if a2 = 0 then 0 else ix a3)) (by first | (rw [if_pos k11]; rfl) | (rw [if_neg k11])) ?_
              exact jn81 _ _ _ hP hD hS (lv_sub hl [0, 1, 2, 3] rfl)
          · refine lv_aload_n F.1 F.2.1 dX4_sheet_53 rfl (lv_at hl 0 rfl) ?_
            refine lv_ldc (v := (-1000000001)) F.1 F.2.1 F.2.2.2.1 (F.2.2.2.2 _ (mm 1 rfl)) dX4_sheet_54 ?_
            refine g_goI (wr := [(qb, .inl (eI E, 4, .inl bi4)), (qs, .inl (eI E, 4, .inl si4)), (qc, .inl (eJ E, 160, .inr (.inl ce)))]) (g_runV (As := [.int (-1000000001)]) (rest := []) F hX hP hD hS hA (c_X4_finds l E h fs qf fd (-1000000001) 0 (by first | assumption | rfl) (by decide +kernel) (by decide) H.size) (cwV 1 F.2.2.2.2 gX4_sheet_X4_finds rfl rfl rfl (by decide +kernel) ⟨Nat.le_of_ble_eq_true rfl, Nat.le_of_ble_eq_true rfl⟩) [0, 4] rfl rfl (q0 := 0) (ci := 4) rfl rfl rfl hl.1 rfl (Nat.le_of_ble_eq_true rfl) dX4_sheet_56 ⟨Nat.le_refl _, Nat.le_refl _⟩) hP hD hS hA [0, 4] [1, 2, 3] rfl rfl rfl (by decide) (fun r _ H locs hq hP hD hS => ?_)
            have hP : va_P (eD E) vwCl [(h, .inr (4, fs)), (qb, .inl (eI E, 4, .inl bi4)), (qs, .inl (eI E, 4, .inl si4)), (qc, .inl (eJ E, 160, .inr (.inl ce))), (qf, .inl (eI E, 7, .inl (upd fd 0 (fd 0 + 1))))] H := hP.sub [3, 0, 1, 2, 4] rfl
            have hD : va_D A [(h, .inr (4, fs)), (qb, .inl (eI E, 4, .inl bi4)), (qs, .inl (eI E, 4, .inl si4)), (qc, .inl (eJ E, 160, .inr (.inl ce))), (qf, .inl (eI E, 7, .inl (upd fd 0 (fd 0 + 1))))] := hD.sub [3, 0, 1, 2, 4] (by decide) rfl
            subst hq
            exact g_reti F hr hlk (vp_nar_int _) hS hP hD ((bi4, si4, ce, upd fd 0 (fd 0 + 1))) (rfl) (by unfold mn_sheet; rw [if_pos (And.intro k1 kW), if_pos k8, if_neg k9]; rfl) dX4_sheet_59
        · refine lv_aload_n F.1 F.2.1 dX4_sheet_40 rfl (lv_at hl 0 rfl) ?_
          refine lv_ldc (v := (-1000000007)) F.1 F.2.1 F.2.2.2.1 (F.2.2.2.2 _ (mm 2 rfl)) dX4_sheet_41 ?_
          refine g_goI (wr := [(qb, .inl (eI E, 4, .inl bi4)), (qs, .inl (eI E, 4, .inl si4)), (qc, .inl (eJ E, 160, .inr (.inl ce)))]) (g_runV (As := [.int (-1000000007)]) (rest := []) F hX hP hD hS hA (c_X4_finds l E h fs qf fd (-1000000007) 6 (by first | assumption | rfl) (by decide +kernel) (by decide) H.size) (cwV 1 F.2.2.2.2 gX4_sheet_X4_finds rfl rfl rfl (by decide +kernel) ⟨Nat.le_of_ble_eq_true rfl, Nat.le_of_ble_eq_true rfl⟩) [0, 4] rfl rfl (q0 := 0) (ci := 4) rfl rfl rfl hl.1 rfl (Nat.le_of_ble_eq_true rfl) dX4_sheet_43 ⟨Nat.le_refl _, Nat.le_refl _⟩) hP hD hS hA [0, 4] [1, 2, 3] rfl rfl rfl (by decide) (fun r _ H locs hq hP hD hS => ?_)
          have hP : va_P (eD E) vwCl [(h, .inr (4, fs)), (qb, .inl (eI E, 4, .inl bi4)), (qs, .inl (eI E, 4, .inl si4)), (qc, .inl (eJ E, 160, .inr (.inl ce))), (qf, .inl (eI E, 7, .inl (upd fd 6 (fd 6 + 1))))] H := hP.sub [3, 0, 1, 2, 4] rfl
          have hD : va_D A [(h, .inr (4, fs)), (qb, .inl (eI E, 4, .inl bi4)), (qs, .inl (eI E, 4, .inl si4)), (qc, .inl (eJ E, 160, .inr (.inl ce))), (qf, .inl (eI E, 7, .inl (upd fd 6 (fd 6 + 1))))] := hD.sub [3, 0, 1, 2, 4] (by decide) rfl
          subst hq
          exact g_reti F hr hlk (vp_nar_int _) hS hP hD ((bi4, si4, ce, upd fd 6 (fd 6 + 1))) (rfl) (by unfold mn_sheet; rw [if_pos (And.intro k1 kW), if_neg k8]; rfl) dX4_sheet_46
      · refine lv_iload_n F.1 F.2.1 dX4_sheet_17 rfl (lv_at hl 2 rfl) ?_
        refine lv_bipush (v := 16) F.1 F.2.1 dX4_sheet_18 (by decide) ?_
        refine lv_icmp_eq (tgt := 36) F.1 F.2.1 dX4_sheet_20 (by decide) (fun k12 => ?_) (fun k12 => ?_)
        · have kW : isW a2 = true := by first | exact isW_0 k12 | exact isW_8 k12 | exact isW_16 k12 | exact isW_64 k12
          refine lv_iload_n F.1 F.2.1 dX4_sheet_36 rfl (lv_at hl 3 rfl) ?_
          refine lv_if_ge (tgt := 47) F.1 F.2.1 dX4_sheet_37 (by decide) (fun k13 => ?_) (fun k13 => ?_)
          · refine lv_iload_n F.1 F.2.1 dX4_sheet_47 rfl (lv_at hl 3 rfl) ?_
            refine lv_bipush (v := 40) F.1 F.2.1 dX4_sheet_48 (by decide) ?_
            refine lv_icmp_le (tgt := 60) F.1 F.2.1 dX4_sheet_50 (by decide) (fun k14 => ?_) (fun k14 => ?_)
            · obtain ⟨e_a1, b_a1⟩ := ix_of 3 k1 (by decide) (by decide)
              have hl : lv_has ls 5 [(0, .ref h), (1, .int (nI (ix a1))), (2, .int a2), (3, .int a3)] := by rw [← e_a1]; exact hl
              have e_a3 := nI_ge0 k13
              have hl : lv_has ls 5 [(0, .ref h), (1, .int (nI (ix a1))), (2, .int a2), (3, .int (nI (ix a3)))] := by rw [← e_a3]; exact hl
              have g2 := k13
              have g1 := k14
              refine lv_aload_n F.1 F.2.1 dX4_sheet_60 rfl (lv_at hl 0 rfl) ?_
              refine g_get F hX hP hin4 0 rfl rfl 12 (by decide) (mm 3 rfl) hf12 dX4_sheet_61 ?_
              refine lv_iload_n F.1 F.2.1 dX4_sheet_64 rfl (lv_at hl 1 rfl) ?_
              refine lv_iload_n F.1 F.2.1 dX4_sheet_65 rfl (lv_at hl 2 rfl) ?_
              refine g_iast F hX hP hD hS 1 rfl (j := (ix a1)) (rfl) (by omega) (by decide) dX4_sheet_66 (fun H locs hP hD hS => ?_)
              have hP : va_P (eD E) vwCl [(h, .inr (4, fs)), (qb, .inl (eI E, 4, .inl (upd bi4 (ix a1) a2))), (qs, .inl (eI E, 4, .inl si4)), (qc, .inl (eJ E, 160, .inr (.inl ce))), (qf, .inl (eI E, 7, .inl fd))] H := hP
              have hD : va_D A [(h, .inr (4, fs)), (qb, .inl (eI E, 4, .inl (upd bi4 (ix a1) a2))), (qs, .inl (eI E, 4, .inl si4)), (qc, .inl (eJ E, 160, .inr (.inl ce))), (qf, .inl (eI E, 7, .inl fd))] := hD
              refine lv_aload_n F.1 F.2.1 dX4_sheet_67 rfl (lv_at hl 0 rfl) ?_
              refine g_get F hX hP hin4 0 rfl rfl 13 (by decide) (mm 4 rfl) hf13 dX4_sheet_68 ?_
              refine lv_iload_n F.1 F.2.1 dX4_sheet_71 rfl (lv_at hl 1 rfl) ?_
              refine lv_iload_n F.1 F.2.1 dX4_sheet_72 rfl (lv_at hl 2 rfl) ?_
              have jn81 : ∀ (H : Heap) (locs : List Loc) (ls : Array Slot), va_P (eD E) vwCl [(h, .inr (4, fs)), (qb, .inl (eI E, 4, .inl (upd bi4 (ix a1) a2))), (qs, .inl (eI E, 4, .inl si4)), (qc, .inl (eJ E, 160, .inr (.inl ce))), (qf, .inl (eI E, 7, .inl fd))] H → va_D A [(h, .inr (4, fs)), (qb, .inl (eI E, 4, .inl (upd bi4 (ix a1) a2))), (qs, .inl (eI E, 4, .inl si4)), (qc, .inl (eJ E, 160, .inr (.inl ce))), (qf, .inl (eI E, 7, .inl fd))] → va_S A sG.heap H locs → lv_has ls 5 [(0, .ref h), (1, .int (nI (ix a1))), (2, .int a2), (3, .int (nI (ix a3)))] → W pG l eG { frames := 2, cells := 0, slots := 0, locals := 43 } sG mG [.ref h, .int a1, .int a2, .int a3].toArray below meth cG H locs 0 0 (MQ below (va_Qi (fun (r : Int32) (u : (Nat → Int32) × (Nat → Int32) × (Nat → Int64) × (Nat → Int32)) => (r, u) = mn_sheet bi4 si4 ce fd a1 a2 a3) (gR E (fun u : (Nat → Int32) × (Nat → Int32) × (Nat → Int64) × (Nat → Int32) => [(h, .inr (4, fs)), (qb, .inl (eI E, 4, .inl u.1)), (qs, .inl (eI E, 4, .inl u.2.1)), (qc, .inl (eJ E, 160, .inr (.inl u.2.2.1))), (qf, .inl (eI E, 7, .inl u.2.2.2))]) A) A) [.ref h, .int a1, .int a2, .int a3].toArray sG 0 0 A) (F0 mG 81 ls [.int (nI (if a2 = 0 then 0 else ix a3)), .int (nI (ix a1)), .ref qs]) := by
                intro H locs ls hP hD hS hl
                refine g_iast F hX hP hD hS 2 rfl (j := (ix a1)) (rfl) (by omega) (by decide) dX4_sheet_81 (fun H locs hP hD hS => ?_)
                have hP : va_P (eD E) vwCl [(h, .inr (4, fs)), (qb, .inl (eI E, 4, .inl (upd bi4 (ix a1) a2))), (qs, .inl (eI E, 4, .inl (upd si4 (ix a1) (nI (if a2 = 0 then 0 else ix a3))))), (qc, .inl (eJ E, 160, .inr (.inl ce))), (qf, .inl (eI E, 7, .inl fd))] H := hP
                have hD : va_D A [(h, .inr (4, fs)), (qb, .inl (eI E, 4, .inl (upd bi4 (ix a1) a2))), (qs, .inl (eI E, 4, .inl (upd si4 (ix a1) (nI (if a2 = 0 then 0 else ix a3))))), (qc, .inl (eJ E, 160, .inr (.inl ce))), (qf, .inl (eI E, 7, .inl fd))] := hD
                refine lv_iconst (v := 0) F.1 F.2.1 dX4_sheet_82 (by decide) ?_
                refine lv_istore (lv' := [(4, .int 0), (0, .ref h), (1, .int (nI (ix a1))), (2, .int a2), (3, .int (nI (ix a3)))]) F.1 F.2.1 dX4_sheet_83 hl (by decide) rfl (fun ls hl => ?_)
                have lp85 : ∀ (fu i : Nat), i ≤ 40 → 40 + 1 ≤ i + fu → ∀ (H : Heap) (locs : List Loc) (ls : Array Slot), va_P (eD E) vwCl [(h, .inr (4, fs)), (qb, .inl (eI E, 4, .inl (upd bi4 (ix a1) a2))), (qs, .inl (eI E, 4, .inl (upd si4 (ix a1) (nI (if a2 = 0 then 0 else ix a3))))), (qc, .inl (eJ E, 160, .inr (.inl (bkO (fun _ => 0) ce (40 * ix a1) i)))), (qf, .inl (eI E, 7, .inl fd))] H → va_D A [(h, .inr (4, fs)), (qb, .inl (eI E, 4, .inl (upd bi4 (ix a1) a2))), (qs, .inl (eI E, 4, .inl (upd si4 (ix a1) (nI (if a2 = 0 then 0 else ix a3))))), (qc, .inl (eJ E, 160, .inr (.inl (bkO (fun _ => 0) ce (40 * ix a1) i)))), (qf, .inl (eI E, 7, .inl fd))] → va_S A sG.heap H locs → lv_has ls 5 [(4, .int (nI i)), (0, .ref h), (1, .int (nI (ix a1))), (2, .int a2), (3, .int (nI (ix a3)))] → W pG l eG { frames := 2, cells := 0, slots := 0, locals := 43 } sG mG [.ref h, .int a1, .int a2, .int a3].toArray below meth cG H locs 0 0 (MQ below (va_Qi (fun (r : Int32) (u : (Nat → Int32) × (Nat → Int32) × (Nat → Int64) × (Nat → Int32)) => (r, u) = mn_sheet bi4 si4 ce fd a1 a2 a3) (gR E (fun u : (Nat → Int32) × (Nat → Int32) × (Nat → Int64) × (Nat → Int32) => [(h, .inr (4, fs)), (qb, .inl (eI E, 4, .inl u.1)), (qs, .inl (eI E, 4, .inl u.2.1)), (qc, .inl (eJ E, 160, .inr (.inl u.2.2.1))), (qf, .inl (eI E, 7, .inl u.2.2.2))]) A) A) [.ref h, .int a1, .int a2, .int a3].toArray sG 0 0 A) (F0 mG 85 ls []) := by
                  intro fu
                  induction fu with
                  | zero => intro i h1 h2; exact absurd h2 (by omega)
                  | succ fu ih =>
                    intro i hi hin   H locs ls hP hD hS hl
                    refine lv_iload F.1 F.2.1 dX4_sheet_85 (lv_at hl 0 rfl) ?_
                    refine lv_bipush (v := 40) F.1 F.2.1 dX4_sheet_87 (by decide) ?_
                    refine lv_icmp_ge (tgt := 111) F.1 F.2.1 dX4_sheet_89 (by decide) (fun k15 => ?_) (fun k15 => ?_)
                    · have hiN : 40 = i := Nat.le_antisymm ((nI_leI (by omega) (by omega)).mp k15) hi
                      subst hiN
                      refine lv_aload_n F.1 F.2.1 dX4_sheet_111 rfl (lv_at hl 1 rfl) ?_
                      refine g_get F hX hP hin4 0 rfl rfl 13 (by decide) (mm 4 rfl) hf13 dX4_sheet_112 ?_
                      refine lv_iload_n F.1 F.2.1 dX4_sheet_115 rfl (lv_at hl 2 rfl) ?_
                      refine g_iald F hX hP 2 rfl (j := (ix a1)) (rfl) (by omega) (by decide) dX4_sheet_116 ?_
                      refine g_top (nI (if a2 = 0 then 0 else ix a3)) (upd_at _ _ _) ?_
                      exact g_reti F hr hlk (vp_nar_int _) hS hP hD ((upd bi4 (ix a1) a2, upd si4 (ix a1) (nI (if a2 = 0 then 0 else ix a3)), bkO (fun _ => 0) ce (40 * ix a1) 40, fd)) (rfl) (by unfold mn_sheet; rw [if_pos (And.intro k1 kW), if_pos g2, if_pos g1]) dX4_sheet_117
                    · have hiN : i < 40 := Nat.lt_of_not_le (fun h => k15 (nI_le h (by omega)))
                      refine lv_aload_n F.1 F.2.1 dX4_sheet_92 rfl (lv_at hl 1 rfl) ?_
                      refine g_get F hX hP hin4 0 rfl rfl 14 (by decide) (mm 5 rfl) hf14 dX4_sheet_93 ?_
                      refine lv_bipush (v := 40) F.1 F.2.1 dX4_sheet_96 (by decide) ?_
                      refine lv_iload_n F.1 F.2.1 dX4_sheet_98 rfl (lv_at hl 2 rfl) ?_
                      refine lv_imul F.1 F.2.1 dX4_sheet_99 ?_
                      refine lv_iload F.1 F.2.1 dX4_sheet_100 (lv_at hl 0 rfl) ?_
                      refine lv_iadd F.1 F.2.1 dX4_sheet_102 ?_
                      refine lv_lconst (v := 0) F.1 F.2.1 dX4_sheet_103 (by decide) ?_
                      refine g_last F hX hP hD hS 3 rfl (j := 40 * ix a1 + i) (i40 _ _) (by omega) (by decide) dX4_sheet_104 (fun H locs hP hD hS => ?_)
                      have hP : va_P (eD E) vwCl [(h, .inr (4, fs)), (qb, .inl (eI E, 4, .inl (upd bi4 (ix a1) a2))), (qs, .inl (eI E, 4, .inl (upd si4 (ix a1) (nI (if a2 = 0 then 0 else ix a3))))), (qc, .inl (eJ E, 160, .inr (.inl (vp_updL (bkO (fun _ => 0) ce (40 * ix a1) i) (40 * ix a1 + i) 0)))), (qf, .inl (eI E, 7, .inl fd))] H := hP
                      have hD : va_D A [(h, .inr (4, fs)), (qb, .inl (eI E, 4, .inl (upd bi4 (ix a1) a2))), (qs, .inl (eI E, 4, .inl (upd si4 (ix a1) (nI (if a2 = 0 then 0 else ix a3))))), (qc, .inl (eJ E, 160, .inr (.inl (vp_updL (bkO (fun _ => 0) ce (40 * ix a1) i) (40 * ix a1 + i) 0)))), (qf, .inl (eI E, 7, .inl fd))] := hD
                      refine lv_iinc (v := nI (i + 1)) (lv' := [(4, .int (nI (i + 1))), (0, .ref h), (1, .int (nI (ix a1))), (2, .int a2), (3, .int (nI (ix a3)))]) F.1 F.2.1 dX4_sheet_105 hl (k := 0) rfl (nI_1 _) (by decide) rfl (fun ls hl => ?_)
                      refine lv_goto (tgt := 85) F.1 F.2.1 dX4_sheet_108 (by decide) ?_
                      have ecell : (vp_updL (bkO (fun _ => 0) ce (40 * ix a1) i) (40 * ix a1 + i) 0) = (bkO (fun _ => 0) ce (40 * ix a1) (i + 1)) := bkO_s _ _ _ _ _ rfl
                      rw [ecell] at hP hD
                      clear ecell
                      have hP : va_P (eD E) vwCl [(h, .inr (4, fs)), (qb, .inl (eI E, 4, .inl (upd bi4 (ix a1) a2))), (qs, .inl (eI E, 4, .inl (upd si4 (ix a1) (nI (if a2 = 0 then 0 else ix a3))))), (qc, .inl (eJ E, 160, .inr (.inl (bkO (fun _ => 0) ce (40 * ix a1) (i + 1))))), (qf, .inl (eI E, 7, .inl fd))] H := hP
                      have hD : va_D A [(h, .inr (4, fs)), (qb, .inl (eI E, 4, .inl (upd bi4 (ix a1) a2))), (qs, .inl (eI E, 4, .inl (upd si4 (ix a1) (nI (if a2 = 0 then 0 else ix a3))))), (qc, .inl (eJ E, 160, .inr (.inl (bkO (fun _ => 0) ce (40 * ix a1) (i + 1))))), (qf, .inl (eI E, 7, .inl fd))] := hD
                      exact ih (i + 1) (by omega) (by omega)  _ _ _ hP hD hS (lv_sub hl [0, 1, 2, 3, 4] rfl)
                have ecell : ce = (bkO (fun _ => 0) ce (40 * ix a1) 0) := bkO_0 _ _ _
                rw [ecell] at hP hD
                clear ecell
                have hP : va_P (eD E) vwCl [(h, .inr (4, fs)), (qb, .inl (eI E, 4, .inl (upd bi4 (ix a1) a2))), (qs, .inl (eI E, 4, .inl (upd si4 (ix a1) (nI (if a2 = 0 then 0 else ix a3))))), (qc, .inl (eJ E, 160, .inr (.inl (bkO (fun _ => 0) ce (40 * ix a1) 0)))), (qf, .inl (eI E, 7, .inl fd))] H := hP
                have hD : va_D A [(h, .inr (4, fs)), (qb, .inl (eI E, 4, .inl (upd bi4 (ix a1) a2))), (qs, .inl (eI E, 4, .inl (upd si4 (ix a1) (nI (if a2 = 0 then 0 else ix a3))))), (qc, .inl (eJ E, 160, .inr (.inl (bkO (fun _ => 0) ce (40 * ix a1) 0)))), (qf, .inl (eI E, 7, .inl fd))] := hD
                exact lp85 (40 + 1) 0 (by omega) (by omega)  _ _ _ hP hD hS (lv_sub hl [0, 1, 2, 3, 4] rfl)
              refine lv_if_ne (tgt := 80) F.1 F.2.1 dX4_sheet_73 (by decide) (fun k16 => ?_) (fun k16 => ?_)
              · refine lv_iload_n F.1 F.2.1 dX4_sheet_80 rfl (lv_at hl 3 rfl) ?_
                refine g_top (nI (if a2 = 0 then 0 else ix a3)) (by first | (rw [if_pos k16]; rfl) | (rw [if_neg k16])) ?_
                exact jn81 _ _ _ hP hD hS (lv_sub hl [0, 1, 2, 3] rfl)
              · refine lv_iconst (v := 0) F.1 F.2.1 dX4_sheet_76 (by decide) ?_
                refine lv_goto (tgt := 81) F.1 F.2.1 dX4_sheet_77 (by decide) ?_
                refine g_top (nI (if a2 = 0 then 0 else ix a3)) (by first | (rw [if_pos k16]; rfl) | (rw [if_neg k16])) ?_
                exact jn81 _ _ _ hP hD hS (lv_sub hl [0, 1, 2, 3] rfl)
            · refine lv_aload_n F.1 F.2.1 dX4_sheet_53 rfl (lv_at hl 0 rfl) ?_
              refine lv_ldc (v := (-1000000001)) F.1 F.2.1 F.2.2.2.1 (F.2.2.2.2 _ (mm 1 rfl)) dX4_sheet_54 ?_
              refine g_goI (wr := [(qb, .inl (eI E, 4, .inl bi4)), (qs, .inl (eI E, 4, .inl si4)), (qc, .inl (eJ E, 160, .inr (.inl ce)))]) (g_runV (As := [.int (-1000000001)]) (rest := []) F hX hP hD hS hA (c_X4_finds l E h fs qf fd (-1000000001) 0 (by first | assumption | rfl) (by decide +kernel) (by decide) H.size) (cwV 1 F.2.2.2.2 gX4_sheet_X4_finds rfl rfl rfl (by decide +kernel) ⟨Nat.le_of_ble_eq_true rfl, Nat.le_of_ble_eq_true rfl⟩) [0, 4] rfl rfl (q0 := 0) (ci := 4) rfl rfl rfl hl.1 rfl (Nat.le_of_ble_eq_true rfl) dX4_sheet_56 ⟨Nat.le_refl _, Nat.le_refl _⟩) hP hD hS hA [0, 4] [1, 2, 3] rfl rfl rfl (by decide) (fun r _ H locs hq hP hD hS => ?_)
              have hP : va_P (eD E) vwCl [(h, .inr (4, fs)), (qb, .inl (eI E, 4, .inl bi4)), (qs, .inl (eI E, 4, .inl si4)), (qc, .inl (eJ E, 160, .inr (.inl ce))), (qf, .inl (eI E, 7, .inl (upd fd 0 (fd 0 + 1))))] H := hP.sub [3, 0, 1, 2, 4] rfl
              have hD : va_D A [(h, .inr (4, fs)), (qb, .inl (eI E, 4, .inl bi4)), (qs, .inl (eI E, 4, .inl si4)), (qc, .inl (eJ E, 160, .inr (.inl ce))), (qf, .inl (eI E, 7, .inl (upd fd 0 (fd 0 + 1))))] := hD.sub [3, 0, 1, 2, 4] (by decide) rfl
              subst hq
              exact g_reti F hr hlk (vp_nar_int _) hS hP hD ((bi4, si4, ce, upd fd 0 (fd 0 + 1))) (rfl) (by unfold mn_sheet; rw [if_pos (And.intro k1 kW), if_pos k13, if_neg k14]; rfl) dX4_sheet_59
          · refine lv_aload_n F.1 F.2.1 dX4_sheet_40 rfl (lv_at hl 0 rfl) ?_
            refine lv_ldc (v := (-1000000007)) F.1 F.2.1 F.2.2.2.1 (F.2.2.2.2 _ (mm 2 rfl)) dX4_sheet_41 ?_
            refine g_goI (wr := [(qb, .inl (eI E, 4, .inl bi4)), (qs, .inl (eI E, 4, .inl si4)), (qc, .inl (eJ E, 160, .inr (.inl ce)))]) (g_runV (As := [.int (-1000000007)]) (rest := []) F hX hP hD hS hA (c_X4_finds l E h fs qf fd (-1000000007) 6 (by first | assumption | rfl) (by decide +kernel) (by decide) H.size) (cwV 1 F.2.2.2.2 gX4_sheet_X4_finds rfl rfl rfl (by decide +kernel) ⟨Nat.le_of_ble_eq_true rfl, Nat.le_of_ble_eq_true rfl⟩) [0, 4] rfl rfl (q0 := 0) (ci := 4) rfl rfl rfl hl.1 rfl (Nat.le_of_ble_eq_true rfl) dX4_sheet_43 ⟨Nat.le_refl _, Nat.le_refl _⟩) hP hD hS hA [0, 4] [1, 2, 3] rfl rfl rfl (by decide) (fun r _ H locs hq hP hD hS => ?_)
            have hP : va_P (eD E) vwCl [(h, .inr (4, fs)), (qb, .inl (eI E, 4, .inl bi4)), (qs, .inl (eI E, 4, .inl si4)), (qc, .inl (eJ E, 160, .inr (.inl ce))), (qf, .inl (eI E, 7, .inl (upd fd 6 (fd 6 + 1))))] H := hP.sub [3, 0, 1, 2, 4] rfl
            have hD : va_D A [(h, .inr (4, fs)), (qb, .inl (eI E, 4, .inl bi4)), (qs, .inl (eI E, 4, .inl si4)), (qc, .inl (eJ E, 160, .inr (.inl ce))), (qf, .inl (eI E, 7, .inl (upd fd 6 (fd 6 + 1))))] := hD.sub [3, 0, 1, 2, 4] (by decide) rfl
            subst hq
            exact g_reti F hr hlk (vp_nar_int _) hS hP hD ((bi4, si4, ce, upd fd 6 (fd 6 + 1))) (rfl) (by unfold mn_sheet; rw [if_pos (And.intro k1 kW), if_neg k13]; rfl) dX4_sheet_46
        · refine lv_iload_n F.1 F.2.1 dX4_sheet_23 rfl (lv_at hl 2 rfl) ?_
          refine lv_bipush (v := 64) F.1 F.2.1 dX4_sheet_24 (by decide) ?_
          refine lv_icmp_eq (tgt := 36) F.1 F.2.1 dX4_sheet_26 (by decide) (fun k17 => ?_) (fun k17 => ?_)
          · have kW : isW a2 = true := by first | exact isW_0 k17 | exact isW_8 k17 | exact isW_16 k17 | exact isW_64 k17
            refine lv_iload_n F.1 F.2.1 dX4_sheet_36 rfl (lv_at hl 3 rfl) ?_
            refine lv_if_ge (tgt := 47) F.1 F.2.1 dX4_sheet_37 (by decide) (fun k18 => ?_) (fun k18 => ?_)
            · refine lv_iload_n F.1 F.2.1 dX4_sheet_47 rfl (lv_at hl 3 rfl) ?_
              refine lv_bipush (v := 40) F.1 F.2.1 dX4_sheet_48 (by decide) ?_
              refine lv_icmp_le (tgt := 60) F.1 F.2.1 dX4_sheet_50 (by decide) (fun k19 => ?_) (fun k19 => ?_)
              · obtain ⟨e_a1, b_a1⟩ := ix_of 3 k1 (by decide) (by decide)
                have hl : lv_has ls 5 [(0, .ref h), (1, .int (nI (ix a1))), (2, .int a2), (3, .int a3)] := by rw [← e_a1]; exact hl
                have e_a3 := nI_ge0 k18
                have hl : lv_has ls 5 [(0, .ref h), (1, .int (nI (ix a1))), (2, .int a2), (3, .int (nI (ix a3)))] := by rw [← e_a3]; exact hl
                have g2 := k18
                have g1 := k19
                refine lv_aload_n F.1 F.2.1 dX4_sheet_60 rfl (lv_at hl 0 rfl) ?_
                refine g_get F hX hP hin4 0 rfl rfl 12 (by decide) (mm 3 rfl) hf12 dX4_sheet_61 ?_
                refine lv_iload_n F.1 F.2.1 dX4_sheet_64 rfl (lv_at hl 1 rfl) ?_
                refine lv_iload_n F.1 F.2.1 dX4_sheet_65 rfl (lv_at hl 2 rfl) ?_
                refine g_iast F hX hP hD hS 1 rfl (j := (ix a1)) (rfl) (by omega) (by decide) dX4_sheet_66 (fun H locs hP hD hS => ?_)
                have hP : va_P (eD E) vwCl [(h, .inr (4, fs)), (qb, .inl (eI E, 4, .inl (upd bi4 (ix a1) a2))), (qs, .inl (eI E, 4, .inl si4)), (qc, .inl (eJ E, 160, .inr (.inl ce))), (qf, .inl (eI E, 7, .inl fd))] H := hP
                have hD : va_D A [(h, .inr (4, fs)), (qb, .inl (eI E, 4, .inl (upd bi4 (ix a1) a2))), (qs, .inl (eI E, 4, .inl si4)), (qc, .inl (eJ E, 160, .inr (.inl ce))), (qf, .inl (eI E, 7, .inl fd))] := hD
                refine lv_aload_n F.1 F.2.1 dX4_sheet_67 rfl (lv_at hl 0 rfl) ?_
                refine g_get F hX hP hin4 0 rfl rfl 13 (by decide) (mm 4 rfl) hf13 dX4_sheet_68 ?_
                refine lv_iload_n F.1 F.2.1 dX4_sheet_71 rfl (lv_at hl 1 rfl) ?_
                refine lv_iload_n F.1 F.2.1 dX4_sheet_72 rfl (lv_at hl 2 rfl) ?_
                have jn81 : ∀ (H : Heap) (locs : List Loc) (ls : Array Slot), va_P (eD E) vwCl [(h, .inr (4, fs)), (qb, .inl (eI E, 4, .inl (upd bi4 (ix a1) a2))), (qs, .inl (eI E, 4, .inl si4)), (qc, .inl (eJ E, 160, .inr (.inl ce))), (qf, .inl (eI E, 7, .inl fd))] H → va_D A [(h, .inr (4, fs)), (qb, .inl (eI E, 4, .inl (upd bi4 (ix a1) a2))), (qs, .inl (eI E, 4, .inl si4)), (qc, .inl (eJ E, 160, .inr (.inl ce))), (qf, .inl (eI E, 7, .inl fd))] → va_S A sG.heap H locs → lv_has ls 5 [(0, .ref h), (1, .int (nI (ix a1))), (2, .int a2), (3, .int (nI (ix a3)))] → W pG l eG { frames := 2, cells := 0, slots := 0, locals := 43 } sG mG [.ref h, .int a1, .int a2, .int a3].toArray below meth cG H locs 0 0 (MQ below (va_Qi (fun (r : Int32) (u : (Nat → Int32) × (Nat → Int32) × (Nat → Int64) × (Nat → Int32)) => (r, u) = mn_sheet bi4 si4 ce fd a1 a2 a3) (gR E (fun u : (Nat → Int32) × (Nat → Int32) × (Nat → Int64) × (Nat → Int32) => [(h, .inr (4, fs)), (qb, .inl (eI E, 4, .inl u.1)), (qs, .inl (eI E, 4, .inl u.2.1)), (qc, .inl (eJ E, 160, .inr (.inl u.2.2.1))), (qf, .inl (eI E, 7, .inl u.2.2.2))]) A) A) [.ref h, .int a1, .int a2, .int a3].toArray sG 0 0 A) (F0 mG 81 ls [.int (nI (if a2 = 0 then 0 else ix a3)), .int (nI (ix a1)), .ref qs]) := by
                  intro H locs ls hP hD hS hl
                  refine g_iast F hX hP hD hS 2 rfl (j := (ix a1)) (rfl) (by omega) (by decide) dX4_sheet_81 (fun H locs hP hD hS => ?_)
                  have hP : va_P (eD E) vwCl [(h, .inr (4, fs)), (qb, .inl (eI E, 4, .inl (upd bi4 (ix a1) a2))), (qs, .inl (eI E, 4, .inl (upd si4 (ix a1) (nI (if a2 = 0 then 0 else ix a3))))), (qc, .inl (eJ E, 160, .inr (.inl ce))), (qf, .inl (eI E, 7, .inl fd))] H := hP
                  have hD : va_D A [(h, .inr (4, fs)), (qb, .inl (eI E, 4, .inl (upd bi4 (ix a1) a2))), (qs, .inl (eI E, 4, .inl (upd si4 (ix a1) (nI (if a2 = 0 then 0 else ix a3))))), (qc, .inl (eJ E, 160, .inr (.inl ce))), (qf, .inl (eI E, 7, .inl fd))] := hD
                  refine lv_iconst (v := 0) F.1 F.2.1 dX4_sheet_82 (by decide) ?_
                  refine lv_istore (lv' := [(4, .int 0), (0, .ref h), (1, .int (nI (ix a1))), (2, .int a2), (3, .int (nI (ix a3)))]) F.1 F.2.1 dX4_sheet_83 hl (by decide) rfl (fun ls hl => ?_)
                  have lp85 : ∀ (fu i : Nat), i ≤ 40 → 40 + 1 ≤ i + fu → ∀ (H : Heap) (locs : List Loc) (ls : Array Slot), va_P (eD E) vwCl [(h, .inr (4, fs)), (qb, .inl (eI E, 4, .inl (upd bi4 (ix a1) a2))), (qs, .inl (eI E, 4, .inl (upd si4 (ix a1) (nI (if a2 = 0 then 0 else ix a3))))), (qc, .inl (eJ E, 160, .inr (.inl (bkO (fun _ => 0) ce (40 * ix a1) i)))), (qf, .inl (eI E, 7, .inl fd))] H → va_D A [(h, .inr (4, fs)), (qb, .inl (eI E, 4, .inl (upd bi4 (ix a1) a2))), (qs, .inl (eI E, 4, .inl (upd si4 (ix a1) (nI (if a2 = 0 then 0 else ix a3))))), (qc, .inl (eJ E, 160, .inr (.inl (bkO (fun _ => 0) ce (40 * ix a1) i)))), (qf, .inl (eI E, 7, .inl fd))] → va_S A sG.heap H locs → lv_has ls 5 [(4, .int (nI i)), (0, .ref h), (1, .int (nI (ix a1))), (2, .int a2), (3, .int (nI (ix a3)))] → W pG l eG { frames := 2, cells := 0, slots := 0, locals := 43 } sG mG [.ref h, .int a1, .int a2, .int a3].toArray below meth cG H locs 0 0 (MQ below (va_Qi (fun (r : Int32) (u : (Nat → Int32) × (Nat → Int32) × (Nat → Int64) × (Nat → Int32)) => (r, u) = mn_sheet bi4 si4 ce fd a1 a2 a3) (gR E (fun u : (Nat → Int32) × (Nat → Int32) × (Nat → Int64) × (Nat → Int32) => [(h, .inr (4, fs)), (qb, .inl (eI E, 4, .inl u.1)), (qs, .inl (eI E, 4, .inl u.2.1)), (qc, .inl (eJ E, 160, .inr (.inl u.2.2.1))), (qf, .inl (eI E, 7, .inl u.2.2.2))]) A) A) [.ref h, .int a1, .int a2, .int a3].toArray sG 0 0 A) (F0 mG 85 ls []) := by
                    intro fu
                    induction fu with
                    | zero => intro i h1 h2; exact absurd h2 (by omega)
                    | succ fu ih =>
                      intro i hi hin   H locs ls hP hD hS hl
                      refine lv_iload F.1 F.2.1 dX4_sheet_85 (lv_at hl 0 rfl) ?_
                      refine lv_bipush (v := 40) F.1 F.2.1 dX4_sheet_87 (by decide) ?_
                      refine lv_icmp_ge (tgt := 111) F.1 F.2.1 dX4_sheet_89 (by decide) (fun k20 => ?_) (fun k20 => ?_)
                      · have hiN : 40 = i := Nat.le_antisymm ((nI_leI (by omega) (by omega)).mp k20) hi
                        subst hiN
                        refine lv_aload_n F.1 F.2.1 dX4_sheet_111 rfl (lv_at hl 1 rfl) ?_
                        refine g_get F hX hP hin4 0 rfl rfl 13 (by decide) (mm 4 rfl) hf13 dX4_sheet_112 ?_
                        refine lv_iload_n F.1 F.2.1 dX4_sheet_115 rfl (lv_at hl 2 rfl) ?_
                        refine g_iald F hX hP 2 rfl (j := (ix a1)) (rfl) (by omega) (by decide) dX4_sheet_116 ?_
                        refine g_top (nI (if a2 = 0 then 0 else ix a3)) (upd_at _ _ _) ?_
                        exact g_reti F hr hlk (vp_nar_int _) hS hP hD ((upd bi4 (ix a1) a2, upd si4 (ix a1) (nI (if a2 = 0 then 0 else ix a3)), bkO (fun _ => 0) ce (40 * ix a1) 40, fd)) (rfl) (by unfold mn_sheet; rw [if_pos (And.intro k1 kW), if_pos g2, if_pos g1]) dX4_sheet_117
                      · have hiN : i < 40 := Nat.lt_of_not_le (fun h => k20 (nI_le h (by omega)))
                        refine lv_aload_n F.1 F.2.1 dX4_sheet_92 rfl (lv_at hl 1 rfl) ?_
                        refine g_get F hX hP hin4 0 rfl rfl 14 (by decide) (mm 5 rfl) hf14 dX4_sheet_93 ?_
                        refine lv_bipush (v := 40) F.1 F.2.1 dX4_sheet_96 (by decide) ?_
                        refine lv_iload_n F.1 F.2.1 dX4_sheet_98 rfl (lv_at hl 2 rfl) ?_
                        refine lv_imul F.1 F.2.1 dX4_sheet_99 ?_
                        refine lv_iload F.1 F.2.1 dX4_sheet_100 (lv_at hl 0 rfl) ?_
                        refine lv_iadd F.1 F.2.1 dX4_sheet_102 ?_
                        refine lv_lconst (v := 0) F.1 F.2.1 dX4_sheet_103 (by decide) ?_
                        refine g_last F hX hP hD hS 3 rfl (j := 40 * ix a1 + i) (i40 _ _) (by omega) (by decide) dX4_sheet_104 (fun H locs hP hD hS => ?_)
                        have hP : va_P (eD E) vwCl [(h, .inr (4, fs)), (qb, .inl (eI E, 4, .inl (upd bi4 (ix a1) a2))), (qs, .inl (eI E, 4, .inl (upd si4 (ix a1) (nI (if a2 = 0 then 0 else ix a3))))), (qc, .inl (eJ E, 160, .inr (.inl (vp_updL (bkO (fun _ => 0) ce (40 * ix a1) i) (40 * ix a1 + i) 0)))), (qf, .inl (eI E, 7, .inl fd))] H := hP
                        have hD : va_D A [(h, .inr (4, fs)), (qb, .inl (eI E, 4, .inl (upd bi4 (ix a1) a2))), (qs, .inl (eI E, 4, .inl (upd si4 (ix a1) (nI (if a2 = 0 then 0 else ix a3))))), (qc, .inl (eJ E, 160, .inr (.inl (vp_updL (bkO (fun _ => 0) ce (40 * ix a1) i) (40 * ix a1 + i) 0)))), (qf, .inl (eI E, 7, .inl fd))] := hD
                        refine lv_iinc (v := nI (i + 1)) (lv' := [(4, .int (nI (i + 1))), (0, .ref h), (1, .int (nI (ix a1))), (2, .int a2), (3, .int (nI (ix a3)))]) F.1 F.2.1 dX4_sheet_105 hl (k := 0) rfl (nI_1 _) (by decide) rfl (fun ls hl => ?_)
                        refine lv_goto (tgt := 85) F.1 F.2.1 dX4_sheet_108 (by decide) ?_
                        have ecell : (vp_updL (bkO (fun _ => 0) ce (40 * ix a1) i) (40 * ix a1 + i) 0) = (bkO (fun _ => 0) ce (40 * ix a1) (i + 1)) := bkO_s _ _ _ _ _ rfl
                        rw [ecell] at hP hD
                        clear ecell
                        have hP : va_P (eD E) vwCl [(h, .inr (4, fs)), (qb, .inl (eI E, 4, .inl (upd bi4 (ix a1) a2))), (qs, .inl (eI E, 4, .inl (upd si4 (ix a1) (nI (if a2 = 0 then 0 else ix a3))))), (qc, .inl (eJ E, 160, .inr (.inl (bkO (fun _ => 0) ce (40 * ix a1) (i + 1))))), (qf, .inl (eI E, 7, .inl fd))] H := hP
                        have hD : va_D A [(h, .inr (4, fs)), (qb, .inl (eI E, 4, .inl (upd bi4 (ix a1) a2))), (qs, .inl (eI E, 4, .inl (upd si4 (ix a1) (nI (if a2 = 0 then 0 else ix a3))))), (qc, .inl (eJ E, 160, .inr (.inl (bkO (fun _ => 0) ce (40 * ix a1) (i + 1))))), (qf, .inl (eI E, 7, .inl fd))] := hD
                        exact ih (i + 1) (by omega) (by omega)  _ _ _ hP hD hS (lv_sub hl [0, 1, 2, 3, 4] rfl)
                  have ecell : ce = (bkO (fun _ => 0) ce (40 * ix a1) 0) := bkO_0 _ _ _
                  rw [ecell] at hP hD
                  clear ecell
                  have hP : va_P (eD E) vwCl [(h, .inr (4, fs)), (qb, .inl (eI E, 4, .inl (upd bi4 (ix a1) a2))), (qs, .inl (eI E, 4, .inl (upd si4 (ix a1) (nI (if a2 = 0 then 0 else ix a3))))), (qc, .inl (eJ E, 160, .inr (.inl (bkO (fun _ => 0) ce (40 * ix a1) 0)))), (qf, .inl (eI E, 7, .inl fd))] H := hP
                  have hD : va_D A [(h, .inr (4, fs)), (qb, .inl (eI E, 4, .inl (upd bi4 (ix a1) a2))), (qs, .inl (eI E, 4, .inl (upd si4 (ix a1) (nI (if a2 = 0 then 0 else ix a3))))), (qc, .inl (eJ E, 160, .inr (.inl (bkO (fun _ => 0) ce (40 * ix a1) 0)))), (qf, .inl (eI E, 7, .inl fd))] := hD
                  exact lp85 (40 + 1) 0 (by omega) (by omega)  _ _ _ hP hD hS (lv_sub hl [0, 1, 2, 3, 4] rfl)
                refine lv_if_ne (tgt := 80) F.1 F.2.1 dX4_sheet_73 (by decide) (fun k21 => ?_) (fun k21 => ?_)
                · refine lv_iload_n F.1 F.2.1 dX4_sheet_80 rfl (lv_at hl 3 rfl) ?_
                  refine g_top (nI (if a2 = 0 then 0 else ix a3)) (by first | (rw [if_pos k21]; rfl) | (rw [if_neg k21])) ?_
                  exact jn81 _ _ _ hP hD hS (lv_sub hl [0, 1, 2, 3] rfl)
                · refine lv_iconst (v := 0) F.1 F.2.1 dX4_sheet_76 (by decide) ?_
                  refine lv_goto (tgt := 81) F.1 F.2.1 dX4_sheet_77 (by decide) ?_
                  refine g_top (nI (if a2 = 0 then 0 else ix a3)) (by first | (rw [if_pos k21]; rfl) | (rw [if_neg k21])) ?_
                  exact jn81 _ _ _ hP hD hS (lv_sub hl [0, 1, 2, 3] rfl)
              · refine lv_aload_n F.1 F.2.1 dX4_sheet_53 rfl (lv_at hl 0 rfl) ?_
                refine lv_ldc (v := (-1000000001)) F.1 F.2.1 F.2.2.2.1 (F.2.2.2.2 _ (mm 1 rfl)) dX4_sheet_54 ?_
                refine g_goI (wr := [(qb, .inl (eI E, 4, .inl bi4)), (qs, .inl (eI E, 4, .inl si4)), (qc, .inl (eJ E, 160, .inr (.inl ce)))]) (g_runV (As := [.int (-1000000001)]) (rest := []) F hX hP hD hS hA (c_X4_finds l E h fs qf fd (-1000000001) 0 (by first | assumption | rfl) (by decide +kernel) (by decide) H.size) (cwV 1 F.2.2.2.2 gX4_sheet_X4_finds rfl rfl rfl (by decide +kernel) ⟨Nat.le_of_ble_eq_true rfl, Nat.le_of_ble_eq_true rfl⟩) [0, 4] rfl rfl (q0 := 0) (ci := 4) rfl rfl rfl hl.1 rfl (Nat.le_of_ble_eq_true rfl) dX4_sheet_56 ⟨Nat.le_refl _, Nat.le_refl _⟩) hP hD hS hA [0, 4] [1, 2, 3] rfl rfl rfl (by decide) (fun r _ H locs hq hP hD hS => ?_)
                have hP : va_P (eD E) vwCl [(h, .inr (4, fs)), (qb, .inl (eI E, 4, .inl bi4)), (qs, .inl (eI E, 4, .inl si4)), (qc, .inl (eJ E, 160, .inr (.inl ce))), (qf, .inl (eI E, 7, .inl (upd fd 0 (fd 0 + 1))))] H := hP.sub [3, 0, 1, 2, 4] rfl
                have hD : va_D A [(h, .inr (4, fs)), (qb, .inl (eI E, 4, .inl bi4)), (qs, .inl (eI E, 4, .inl si4)), (qc, .inl (eJ E, 160, .inr (.inl ce))), (qf, .inl (eI E, 7, .inl (upd fd 0 (fd 0 + 1))))] := hD.sub [3, 0, 1, 2, 4] (by decide) rfl
                subst hq
                exact g_reti F hr hlk (vp_nar_int _) hS hP hD ((bi4, si4, ce, upd fd 0 (fd 0 + 1))) (rfl) (by unfold mn_sheet; rw [if_pos (And.intro k1 kW), if_pos k18, if_neg k19]; rfl) dX4_sheet_59
            · refine lv_aload_n F.1 F.2.1 dX4_sheet_40 rfl (lv_at hl 0 rfl) ?_
              refine lv_ldc (v := (-1000000007)) F.1 F.2.1 F.2.2.2.1 (F.2.2.2.2 _ (mm 2 rfl)) dX4_sheet_41 ?_
              refine g_goI (wr := [(qb, .inl (eI E, 4, .inl bi4)), (qs, .inl (eI E, 4, .inl si4)), (qc, .inl (eJ E, 160, .inr (.inl ce)))]) (g_runV (As := [.int (-1000000007)]) (rest := []) F hX hP hD hS hA (c_X4_finds l E h fs qf fd (-1000000007) 6 (by first | assumption | rfl) (by decide +kernel) (by decide) H.size) (cwV 1 F.2.2.2.2 gX4_sheet_X4_finds rfl rfl rfl (by decide +kernel) ⟨Nat.le_of_ble_eq_true rfl, Nat.le_of_ble_eq_true rfl⟩) [0, 4] rfl rfl (q0 := 0) (ci := 4) rfl rfl rfl hl.1 rfl (Nat.le_of_ble_eq_true rfl) dX4_sheet_43 ⟨Nat.le_refl _, Nat.le_refl _⟩) hP hD hS hA [0, 4] [1, 2, 3] rfl rfl rfl (by decide) (fun r _ H locs hq hP hD hS => ?_)
              have hP : va_P (eD E) vwCl [(h, .inr (4, fs)), (qb, .inl (eI E, 4, .inl bi4)), (qs, .inl (eI E, 4, .inl si4)), (qc, .inl (eJ E, 160, .inr (.inl ce))), (qf, .inl (eI E, 7, .inl (upd fd 6 (fd 6 + 1))))] H := hP.sub [3, 0, 1, 2, 4] rfl
              have hD : va_D A [(h, .inr (4, fs)), (qb, .inl (eI E, 4, .inl bi4)), (qs, .inl (eI E, 4, .inl si4)), (qc, .inl (eJ E, 160, .inr (.inl ce))), (qf, .inl (eI E, 7, .inl (upd fd 6 (fd 6 + 1))))] := hD.sub [3, 0, 1, 2, 4] (by decide) rfl
              subst hq
              exact g_reti F hr hlk (vp_nar_int _) hS hP hD ((bi4, si4, ce, upd fd 6 (fd 6 + 1))) (rfl) (by unfold mn_sheet; rw [if_pos (And.intro k1 kW), if_neg k18]; rfl) dX4_sheet_46
          · refine lv_aload_n F.1 F.2.1 dX4_sheet_29 rfl (lv_at hl 0 rfl) ?_
            refine lv_ldc (v := (-1000000001)) F.1 F.2.1 F.2.2.2.1 (F.2.2.2.2 _ (mm 1 rfl)) dX4_sheet_30 ?_
            refine g_goI (wr := [(qb, .inl (eI E, 4, .inl bi4)), (qs, .inl (eI E, 4, .inl si4)), (qc, .inl (eJ E, 160, .inr (.inl ce)))]) (g_runV (As := [.int (-1000000001)]) (rest := []) F hX hP hD hS hA (c_X4_finds l E h fs qf fd (-1000000001) 0 (by first | assumption | rfl) (by decide +kernel) (by decide) H.size) (cwV 1 F.2.2.2.2 gX4_sheet_X4_finds rfl rfl rfl (by decide +kernel) ⟨Nat.le_of_ble_eq_true rfl, Nat.le_of_ble_eq_true rfl⟩) [0, 4] rfl rfl (q0 := 0) (ci := 4) rfl rfl rfl hl.1 rfl (Nat.le_of_ble_eq_true rfl) dX4_sheet_32 ⟨Nat.le_refl _, Nat.le_refl _⟩) hP hD hS hA [0, 4] [1, 2, 3] rfl rfl rfl (by decide) (fun r _ H locs hq hP hD hS => ?_)
            have hP : va_P (eD E) vwCl [(h, .inr (4, fs)), (qb, .inl (eI E, 4, .inl bi4)), (qs, .inl (eI E, 4, .inl si4)), (qc, .inl (eJ E, 160, .inr (.inl ce))), (qf, .inl (eI E, 7, .inl (upd fd 0 (fd 0 + 1))))] H := hP.sub [3, 0, 1, 2, 4] rfl
            have hD : va_D A [(h, .inr (4, fs)), (qb, .inl (eI E, 4, .inl bi4)), (qs, .inl (eI E, 4, .inl si4)), (qc, .inl (eJ E, 160, .inr (.inl ce))), (qf, .inl (eI E, 7, .inl (upd fd 0 (fd 0 + 1))))] := hD.sub [3, 0, 1, 2, 4] (by decide) rfl
            subst hq
            exact g_reti F hr hlk (vp_nar_int _) hS hP hD ((bi4, si4, ce, upd fd 0 (fd 0 + 1))) (rfl) (by unfold mn_sheet; simp [isW, fn, k1, k2, k7, k12, k17]) dX4_sheet_35
