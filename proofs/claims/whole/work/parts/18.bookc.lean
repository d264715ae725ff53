theorem okL_t {v : Int64} (h1 : ¬ lg_cmp v 0 < 0) (h2 : ¬ 0 < lg_cmp v 20) : inM v 0 20 = true := by
  unfold inM
  rw [show (0 : Int32).toInt64 = 0 from by decide, show (20 : Int32).toInt64 = 20 from by decide, decide_eq_false h1, decide_eq_false h2]; rfl
theorem okL_a {v : Int64} (h1 : lg_cmp v 0 < 0) : inM v 0 20 = false := by
  unfold inM
  rw [show (0 : Int32).toInt64 = 0 from by decide, decide_eq_true h1]; rfl
theorem okL_b {v : Int64} (h2 : 0 < lg_cmp v 20) : inM v 0 20 = false := by
  unfold inM
  rw [show (20 : Int32).toInt64 = 20 from by decide, decide_eq_true h2]
  exact Bool.and_false _
/-- a sheet laid over a row of noises, which stands at o -/
def laN (nu : Nat → Int64) (o : Nat) (no : Nat → Int32) : Nat → Nat × (Nat → Int32)
  | 0 => (0, no)
  | i + 1 => bif inM (nu i) 0 20 then ((laN nu o no i).1 + 1, upd (laN nu o no i).2 (o + i) (nu i).toInt32) else laN nu o no i
theorem laN_y {nu : Nat → Int64} {o : Nat} {no : Nat → Int32} {i : Nat} (h : inM (nu i) 0 20 = true) : laN nu o no (i + 1) = ((laN nu o no i).1 + 1, upd (laN nu o no i).2 (o + i) (nu i).toInt32) := by
  show (bif inM (nu i) 0 20 then _ else _) = _
  rw [h]; rfl
theorem laN_n {nu : Nat → Int64} {o : Nat} {no : Nat → Int32} {i : Nat} (h : inM (nu i) 0 20 = false) : laN nu o no (i + 1) = laN nu o no i := by
  show (bif inM (nu i) 0 20 then _ else _) = _
  rw [h]; rfl
def cn_lays (bt_ : Int32) (Z : Nat) (nu : Nat → Int64) (no fd : Nat → Int32) (a1 : Int32) : Int32 × (Nat → Int32) × (Nat → Int32) := if inR a1 0 3 = true then (if bt_ = 0 then (-1000000006, no, fn fd 5) else (nI (laN nu 0 no (min Z 30)).1, (laN nu 0 no (min Z 30)).2, fd)) else (-1000000001, no, fn fd 0)
theorem min_l {Z i : Nat} (h : Z ≤ i) (h2 : i ≤ min Z 30) : i = min Z 30 := by omega
set_option maxHeartbeats 4000000 in
set_option maxRecDepth 100000 in
theorem c_X3_lays (l : Launch) (E : gE) (x : Nat) (fx : List Value) (qS : Nat) (qf : Nat) (h : Nat) (mi : Int32) (fo : Int32) (wi : Int32) (sp : Int32) (P : Nat) (wa : Int32) (qn : Nat) (qk : Nat) (qp : Nat) (qq : Nat) (qc : Nat) (sf : Nat → Option Nat) (sa : Nat) (bt_ : Int32) (Z : Nat) (nb : Nat) (nu : Nat → Int64) (no : Nat → Int32) (fd : Nat → Int32) (a1 : Int32) (hx0 : fx[0]? = some (.ref h)) (hx4 : fx[4]? = some (.ref qS)) (hx5 : fx[5]? = some (.ref qf)) (hZ : Z ≤ 40) (hsf : inR a1 0 3 = true → sf (ix a1) = some sa) : gI l yX3_lays wsX3_lays ({ frames := 2, cells := 0, slots := 0, locals := 44 }) E [(x, .inr (3, fx)), (h, .inr (2, [.int mi, .int fo, .int wi, .int sp, .ref qn, .int (nI P), .ref qk, .ref qp, .ref qq, .ref qc, .int wa])), (qn, .inl (eI E, 30, .inl no)), (qS, .inl (eS E, 4, .inr (.inr (.inr (.inr sf))))), (sa, .inr (0, [.int bt_, .int (nI Z), .ref nb])), (nb, .inl (eJ E, 40, .inr (.inl nu))), (qf, .inl (eI E, 7, .inl fd))] (fun u : (Nat → Int32) × (Nat → Int32) => [(x, .inr (3, fx)), (h, .inr (2, [.int mi, .int fo, .int wi, .int sp, .ref qn, .int (nI P), .ref qk, .ref qp, .ref qq, .ref qc, .int wa])), (qn, .inl (eI E, 30, .inl u.1)), (qS, .inl (eS E, 4, .inr (.inr (.inr (.inr sf))))), (sa, .inr (0, [.int bt_, .int (nI Z), .ref nb])), (nb, .inl (eJ E, 40, .inr (.inl nu))), (qf, .inl (eI E, 7, .inl u.2))]) [.ref x, .int a1] (fun (r : Int32) (u : (Nat → Int32) × (Nat → Int32)) => (r, u) = cn_lays bt_ Z nu no fd a1) := by
  have hin0 : ∀ w ∈ wsX00, w ∈ wsX3_lays := (fun _ h => (List.mem_cons_of_mem _ (List.mem_append_left _ (List.mem_append_right _ h))))
  have hin2 : ∀ w ∈ wsX20, w ∈ wsX3_lays := (fun _ h => (List.mem_cons_of_mem _ (List.mem_append_right _ h)))
  have hin3 : ∀ w ∈ wsX30, w ∈ wsX3_lays := (fun _ h => (List.mem_cons_of_mem _ (List.mem_append_left _ (List.mem_append_left _ (List.mem_append_right _ h)))))
  refine gI.of (cc := cX3_lays) (maxL := 6) (by decide) rfl (Nat.le_of_ble_eq_true rfl) ?_
  intro pG eG sG mG below meth cG A ls H locs F hr hlk hX hP hD hA hS hl
  have hl : lv_has ls 6 [(0, .ref x), (1, .int a1)] := hl
  refine lv_iload_n F.1 F.2.1 dX3_lays_0 rfl (lv_at hl 1 rfl) ?_
  refine g_goIr (g_runS (As := [.int a1]) (rest := []) F hX hP hD hS hA (c_X3_isSheet l E a1 H.size) (va_cwS 1 F.2.2.2.2 gX3_lays_X3_isSheet rfl rfl rfl (by decide +kernel) ⟨Nat.le_of_ble_eq_true rfl, Nat.le_of_ble_eq_true rfl⟩) [] rfl rfl rfl hl.1 rfl (Nat.le_of_ble_eq_true rfl) dX3_lays_1 ⟨Nat.le_refl _, Nat.le_refl _⟩) hP hD hS hA [] rfl (fun r _ H locs hq hP hS => ?_)
  subst hq
  refine g_bne (tgt := 14) F dX3_lays_4 (by decide) (fun k1 => ?_) (fun k1 => ?_)
  · obtain ⟨e_a1, b_a1⟩ := ix_of 3 k1 (by decide) (by decide)
    have hl : lv_has ls 6 [(0, .ref x), (1, .int (nI (ix a1)))] := by rw [← e_a1]; exact hl
    refine lv_aload_n F.1 F.2.1 dX3_lays_14 rfl (lv_at hl 0 rfl) ?_
    refine g_get F hX hP hin3 0 rfl rfl 4 (by decide) (mm 2 rfl) hx4 dX3_lays_15 ?_
    refine lv_iload_n F.1 F.2.1 dX3_lays_18 rfl (lv_at hl 1 rfl) ?_
    refine g_aald F hX hP 3 rfl (j := ix a1) (rfl) (by omega) (by decide) (v := sa) (hsf k1) dX3_lays_19 ?_
    refine g_goIr (g_runV (As := []) (rest := []) F hX hP hD hS hA (c_X0_isMissing l E sa bt_ Z nb H.size) (cwV 0 F.2.2.2.2 gX3_lays_X0_isMissing rfl rfl rfl (by decide +kernel) ⟨Nat.le_of_ble_eq_true rfl, Nat.le_of_ble_eq_true rfl⟩) [4] rfl rfl (q0 := 4) (ci := 0) rfl rfl rfl hl.1 rfl (Nat.le_of_ble_eq_true rfl) dX3_lays_20 ⟨Nat.le_refl _, Nat.le_refl _⟩) hP hD hS hA [4] rfl (fun r _ H locs hq hP hS => ?_)
    subst hq
    refine g_beq (tgt := 33) F dX3_lays_23 (by decide) (fun k2 => ?_) (fun k2 => ?_)
    · refine lv_iconst (v := 0) F.1 F.2.1 dX3_lays_33 (by decide) ?_
      refine lv_istore_n (lv' := [(2, .int 0), (0, .ref x), (1, .int (nI (ix a1)))]) F.1 F.2.1 dX3_lays_34 rfl hl (by decide) rfl (fun ls hl => ?_)
      refine lv_iconst (v := 0) F.1 F.2.1 dX3_lays_35 (by decide) ?_
      refine lv_istore_n (lv' := [(3, .int 0), (2, .int 0), (0, .ref x), (1, .int (nI (ix a1)))]) F.1 F.2.1 dX3_lays_36 rfl hl (by decide) rfl (fun ls hl => ?_)
      have lp37 : ∀ (fu i : Nat), i ≤ (min Z 30) → (min Z 30) + 1 ≤ i + fu → ∀ (H : Heap) (locs : List Loc) (ls : Array Slot), va_P (eD E) vwCl [(x, .inr (3, fx)), (h, .inr (2, [.int mi, .int fo, .int wi, .int sp, .ref qn, .int (nI P), .ref qk, .ref qp, .ref qq, .ref qc, .int wa])), (qn, .inl (eI E, 30, .inl ((laN nu 0 no i).2))), (qS, .inl (eS E, 4, .inr (.inr (.inr (.inr sf))))), (sa, .inr (0, [.int bt_, .int (nI Z), .ref nb])), (nb, .inl (eJ E, 40, .inr (.inl nu))), (qf, .inl (eI E, 7, .inl fd))] H → va_D A [(x, .inr (3, fx)), (h, .inr (2, [.int mi, .int fo, .int wi, .int sp, .ref qn, .int (nI P), .ref qk, .ref qp, .ref qq, .ref qc, .int wa])), (qn, .inl (eI E, 30, .inl ((laN nu 0 no i).2))), (qS, .inl (eS E, 4, .inr (.inr (.inr (.inr sf))))), (sa, .inr (0, [.int bt_, .int (nI Z), .ref nb])), (nb, .inl (eJ E, 40, .inr (.inl nu))), (qf, .inl (eI E, 7, .inl fd))] → va_S A sG.heap H locs → lv_has ls 6 [(3, .int (nI i)), (2, .int (nI (laN nu 0 no i).1)), (0, .ref x), (1, .int (nI (ix a1)))] → W pG l eG { frames := 2, cells := 0, slots := 0, locals := 44 } sG mG [.ref x, .int a1].toArray below meth cG H locs 0 0 (MQ below (va_Qi (fun (r : Int32) (u : (Nat → Int32) × (Nat → Int32)) => (r, u) = cn_lays bt_ Z nu no fd a1) (gR E (fun u : (Nat → Int32) × (Nat → Int32) => [(x, .inr (3, fx)), (h, .inr (2, [.int mi, .int fo, .int wi, .int sp, .ref qn, .int (nI P), .ref qk, .ref qp, .ref qq, .ref qc, .int wa])), (qn, .inl (eI E, 30, .inl u.1)), (qS, .inl (eS E, 4, .inr (.inr (.inr (.inr sf))))), (sa, .inr (0, [.int bt_, .int (nI Z), .ref nb])), (nb, .inl (eJ E, 40, .inr (.inl nu))), (qf, .inl (eI E, 7, .inl u.2))]) A) A) [.ref x, .int a1].toArray sG 0 0 A) (F0 mG 37 ls []) := by
        intro fu
        induction fu with
        | zero => intro i h1 h2; exact absurd h2 (by omega)
        | succ fu ih =>
          intro i hi hin   H locs ls hP hD hS hl
          refine lv_iload_n F.1 F.2.1 dX3_lays_37 rfl (lv_at hl 0 rfl) ?_
          refine lv_aload_n F.1 F.2.1 dX3_lays_38 rfl (lv_at hl 2 rfl) ?_
          refine g_get F hX hP hin3 0 rfl rfl 4 (by decide) (mm 2 rfl) hx4 dX3_lays_39 ?_
          refine lv_iload_n F.1 F.2.1 dX3_lays_42 rfl (lv_at hl 3 rfl) ?_
          refine g_aald F hX hP 3 rfl (j := ix a1) (rfl) (by omega) (by decide) (v := sa) (hsf k1) dX3_lays_43 ?_
          refine g_get F hX hP hin0 4 rfl rfl 1 (by decide) (mm 4 rfl) rfl dX3_lays_44 ?_
          refine lv_icmp_ge (tgt := 106) F.1 F.2.1 dX3_lays_47 (by decide) (fun k3 => ?_) (fun k3 => ?_)
          · refine lv_iload_n F.1 F.2.1 dX3_lays_106 rfl (lv_at hl 1 rfl) ?_
            first | rw [min_l ((nI_leI (by omega) (by omega)).mp k3) hi] at hP hD ⊢ | skip
            exact g_reti F hr hlk (vp_nar_int _) hS hP hD (_) (rfl) (by unfold cn_lays; rw [if_pos k1, if_neg (of_decide_eq_false k2)]) dX3_lays_107
          · refine lv_iload_n F.1 F.2.1 dX3_lays_50 rfl (lv_at hl 0 rfl) ?_
            refine lv_bipush (v := 30) F.1 F.2.1 dX3_lays_51 (by decide) ?_
            refine lv_icmp_ge (tgt := 106) F.1 F.2.1 dX3_lays_53 (by decide) (fun k4 => ?_) (fun k4 => ?_)
            · have hiN : (min Z 30) = i := Nat.le_antisymm (Nat.le_trans (Nat.min_le_right _ _) ((nI_leI (by decide) (by omega)).mp k4)) hi
              subst hiN
              refine lv_iload_n F.1 F.2.1 dX3_lays_106 rfl (lv_at hl 1 rfl) ?_
              first | rw [min_l ((nI_leI (by omega) (by omega)).mp k3) hi] at hP hD ⊢ | skip
              exact g_reti F hr hlk (vp_nar_int _) hS hP hD (_) (rfl) (by unfold cn_lays; rw [if_pos k1, if_neg (of_decide_eq_false k2)]) dX3_lays_107
            · have hiN : i < (min Z 30) := Nat.lt_min.mpr ⟨Nat.lt_of_not_le (fun h => k3 (nI_le h (by omega))), Nat.lt_of_not_le (fun h => k4 (nI_le h (by omega)))⟩
              refine lv_aload_n F.1 F.2.1 dX3_lays_56 rfl (lv_at hl 2 rfl) ?_
              refine g_get F hX hP hin3 0 rfl rfl 4 (by decide) (mm 2 rfl) hx4 dX3_lays_57 ?_
              refine lv_iload_n F.1 F.2.1 dX3_lays_60 rfl (lv_at hl 3 rfl) ?_
              refine g_aald F hX hP 3 rfl (j := ix a1) (rfl) (by omega) (by decide) (v := sa) (hsf k1) dX3_lays_61 ?_
              refine g_get F hX hP hin0 4 rfl rfl 2 (by decide) (mm 5 rfl) rfl dX3_lays_62 ?_
              refine lv_iload_n F.1 F.2.1 dX3_lays_65 rfl (lv_at hl 0 rfl) ?_
              refine g_lald F hX hP 5 rfl (j := i) (rfl) (by omega) (by decide) dX3_lays_66 ?_
              refine lv_lstore (lv' := [(4, .long (nu i)), (3, .int (nI i)), (2, .int (nI (laN nu 0 no i).1)), (0, .ref x), (1, .int (nI (ix a1)))]) F.1 F.2.1 dX3_lays_67 hl (by decide) rfl (fun ls hl => ?_)
              refine lv_lload F.1 F.2.1 dX3_lays_69 (lv_at hl 0 rfl) ?_
              refine lv_lconst (v := 0) F.1 F.2.1 dX3_lays_71 (by decide) ?_
              refine W.lcmp F.1 F.2.1 dX3_lays_72 ?_
              refine lv_if_lt (tgt := 100) F.1 F.2.1 dX3_lays_73 (by decide) (fun k5 => ?_) (fun k5 => ?_)
              · refine lv_iinc (v := nI (i + 1)) (lv' := [(3, .int (nI (i + 1))), (4, .long (nu i)), (2, .int (nI (laN nu 0 no i).1)), (0, .ref x), (1, .int (nI (ix a1)))]) F.1 F.2.1 dX3_lays_100 hl (k := 1) rfl (nI_1 _) (by decide) rfl (fun ls hl => ?_)
                refine lv_goto (tgt := 37) F.1 F.2.1 dX3_lays_103 (by decide) ?_
                rw [show (nI (laN nu 0 no i).1 : Int32) = nI (laN nu 0 no (i + 1)).1 from by first | exact (congrArg (fun q : Nat × (Nat → Int32) => nI q.1) (laN_n (nu := nu) (o := 0) (no := no) (i := i) (by first | exact okL_a (v := nu i) k5 | exact okL_b (v := nu i) k5))).symm | (have e := laN_y (nu := nu) (o := 0) (no := no) (i := i) (okL_t (v := nu i) k3 k5); rw [Nat.zero_add] at e; exact (congrArg (fun q : Nat × (Nat → Int32) => nI q.1) e).symm)] at hl
                have ecell : ((laN nu 0 no i).2) = ((laN nu 0 no (i + 1)).2) := by first | exact (congrArg (fun q : Nat × (Nat → Int32) => q.2) (laN_n (nu := nu) (o := 0) (no := no) (i := i) (by first | exact okL_a (v := nu i) k5 | exact okL_b (v := nu i) k5))).symm | (have e := laN_y (nu := nu) (o := 0) (no := no) (i := i) (okL_t (v := nu i) k3 k5); rw [Nat.zero_add] at e; exact (congrArg (fun q : Nat × (Nat → Int32) => q.2) e).symm)
                rw [ecell] at hP hD
                clear ecell
                have hP : va_P (eD E) vwCl [(x, .inr (3, fx)), (h, .inr (2, [.int mi, .int fo, .int wi, .int sp, .ref qn, .int (nI P), .ref qk, .ref qp, .ref qq, .ref qc, .int wa])), (qn, .inl (eI E, 30, .inl ((laN nu 0 no (i + 1)).2))), (qS, .inl (eS E, 4, .inr (.inr (.inr (.inr sf))))), (sa, .inr (0, [.int bt_, .int (nI Z), .ref nb])), (nb, .inl (eJ E, 40, .inr (.inl nu))), (qf, .inl (eI E, 7, .inl fd))] H := hP
                have hD : va_D A [(x, .inr (3, fx)), (h, .inr (2, [.int mi, .int fo, .int wi, .int sp, .ref qn, .int (nI P), .ref qk, .ref qp, .ref qq, .ref qc, .int wa])), (qn, .inl (eI E, 30, .inl ((laN nu 0 no (i + 1)).2))), (qS, .inl (eS E, 4, .inr (.inr (.inr (.inr sf))))), (sa, .inr (0, [.int bt_, .int (nI Z), .ref nb])), (nb, .inl (eJ E, 40, .inr (.inl nu))), (qf, .inl (eI E, 7, .inl fd))] := hD
                exact ih (i + 1) (by omega) (by omega)  _ _ _ hP hD hS (lv_sub hl [0, 2, 3, 4] rfl)
              · refine lv_lload F.1 F.2.1 dX3_lays_76 (lv_at hl 0 rfl) ?_
                refine lv_ldc2 (v := 20) F.1 F.2.1 F.2.2.2.1 (F.2.2.2.2 _ (mm 6 rfl)) dX3_lays_78 ?_
                refine W.lcmp F.1 F.2.1 dX3_lays_81 ?_
                refine lv_if_gt (tgt := 100) F.1 F.2.1 dX3_lays_82 (by decide) (fun k6 => ?_) (fun k6 => ?_)
                · refine lv_iinc (v := nI (i + 1)) (lv' := [(3, .int (nI (i + 1))), (4, .long (nu i)), (2, .int (nI (laN nu 0 no i).1)), (0, .ref x), (1, .int (nI (ix a1)))]) F.1 F.2.1 dX3_lays_100 hl (k := 1) rfl (nI_1 _) (by decide) rfl (fun ls hl => ?_)
                  refine lv_goto (tgt := 37) F.1 F.2.1 dX3_lays_103 (by decide) ?_
                  rw [show (nI (laN nu 0 no i).1 : Int32) = nI (laN nu 0 no (i + 1)).1 from by first | exact (congrArg (fun q : Nat × (Nat → Int32) => nI q.1) (laN_n (nu := nu) (o := 0) (no := no) (i := i) (by first | exact okL_a (v := nu i) k6 | exact okL_b (v := nu i) k6))).symm | (have e := laN_y (nu := nu) (o := 0) (no := no) (i := i) (okL_t (v := nu i) k5 k6); rw [Nat.zero_add] at e; exact (congrArg (fun q : Nat × (Nat → Int32) => nI q.1) e).symm)] at hl
                  have ecell : ((laN nu 0 no i).2) = ((laN nu 0 no (i + 1)).2) := by first | exact (congrArg (fun q : Nat × (Nat → Int32) => q.2) (laN_n (nu := nu) (o := 0) (no := no) (i := i) (by first | exact okL_a (v := nu i) k6 | exact okL_b (v := nu i) k6))).symm | (have e := laN_y (nu := nu) (o := 0) (no := no) (i := i) (okL_t (v := nu i) k5 k6); rw [Nat.zero_add] at e; exact (congrArg (fun q : Nat × (Nat → Int32) => q.2) e).symm)
                  rw [ecell] at hP hD
                  clear ecell
                  have hP : va_P (eD E) vwCl [(x, .inr (3, fx)), (h, .inr (2, [.int mi, .int fo, .int wi, .int sp, .ref qn, .int (nI P), .ref qk, .ref qp, .ref qq, .ref qc, .int wa])), (qn, .inl (eI E, 30, .inl ((laN nu 0 no (i + 1)).2))), (qS, .inl (eS E, 4, .inr (.inr (.inr (.inr sf))))), (sa, .inr (0, [.int bt_, .int (nI Z), .ref nb])), (nb, .inl (eJ E, 40, .inr (.inl nu))), (qf, .inl (eI E, 7, .inl fd))] H := hP
                  have hD : va_D A [(x, .inr (3, fx)), (h, .inr (2, [.int mi, .int fo, .int wi, .int sp, .ref qn, .int (nI P), .ref qk, .ref qp, .ref qq, .ref qc, .int wa])), (qn, .inl (eI E, 30, .inl ((laN nu 0 no (i + 1)).2))), (qS, .inl (eS E, 4, .inr (.inr (.inr (.inr sf))))), (sa, .inr (0, [.int bt_, .int (nI Z), .ref nb])), (nb, .inl (eJ E, 40, .inr (.inl nu))), (qf, .inl (eI E, 7, .inl fd))] := hD
                  exact ih (i + 1) (by omega) (by omega)  _ _ _ hP hD hS (lv_sub hl [0, 2, 3, 4] rfl)
                · refine lv_aload_n F.1 F.2.1 dX3_lays_85 rfl (lv_at hl 3 rfl) ?_
                  refine g_get F hX hP hin3 0 rfl rfl 0 (by decide) (mm 7 rfl) hx0 dX3_lays_86 ?_
                  refine g_get F hX hP hin2 1 rfl rfl 4 (by decide) (mm 8 rfl) rfl dX3_lays_89 ?_
                  refine lv_iload_n F.1 F.2.1 dX3_lays_92 rfl (lv_at hl 1 rfl) ?_
                  refine lv_lload F.1 F.2.1 dX3_lays_93 (lv_at hl 0 rfl) ?_
                  refine lv_l2i (v := (nu i : Int64).toInt32) F.1 F.2.1 dX3_lays_95 rfl ?_
                  refine g_iast F hX hP hD hS 2 rfl (j := i) (rfl) (by omega) (by decide) dX3_lays_96 (fun H locs hP hD hS => ?_)
                  have hP : va_P (eD E) vwCl [(x, .inr (3, fx)), (h, .inr (2, [.int mi, .int fo, .int wi, .int sp, .ref qn, .int (nI P), .ref qk, .ref qp, .ref qq, .ref qc, .int wa])), (qn, .inl (eI E, 30, .inl (upd ((laN nu 0 no i).2) i ((nu i : Int64).toInt32)))), (qS, .inl (eS E, 4, .inr (.inr (.inr (.inr sf))))), (sa, .inr (0, [.int bt_, .int (nI Z), .ref nb])), (nb, .inl (eJ E, 40, .inr (.inl nu))), (qf, .inl (eI E, 7, .inl fd))] H := hP
                  have hD : va_D A [(x, .inr (3, fx)), (h, .inr (2, [.int mi, .int fo, .int wi, .int sp, .ref qn, .int (nI P), .ref qk, .ref qp, .ref qq, .ref qc, .int wa])), (qn, .inl (eI E, 30, .inl (upd ((laN nu 0 no i).2) i ((nu i : Int64).toInt32)))), (qS, .inl (eS E, 4, .inr (.inr (.inr (.inr sf))))), (sa, .inr (0, [.int bt_, .int (nI Z), .ref nb])), (nb, .inl (eJ E, 40, .inr (.inl nu))), (qf, .inl (eI E, 7, .inl fd))] := hD
                  refine lv_iinc (v := nI ((laN nu 0 no i).1 + 1)) (lv' := [(2, .int (nI ((laN nu 0 no i).1 + 1))), (4, .long (nu i)), (3, .int (nI i)), (0, .ref x), (1, .int (nI (ix a1)))]) F.1 F.2.1 dX3_lays_97 hl (k := 2) rfl (nI_1 _) (by decide) rfl (fun ls hl => ?_)
                  refine lv_iinc (v := nI (i + 1)) (lv' := [(3, .int (nI (i + 1))), (2, .int (nI ((laN nu 0 no i).1 + 1))), (4, .long (nu i)), (0, .ref x), (1, .int (nI (ix a1)))]) F.1 F.2.1 dX3_lays_100 hl (k := 2) rfl (nI_1 _) (by decide) rfl (fun ls hl => ?_)
                  refine lv_goto (tgt := 37) F.1 F.2.1 dX3_lays_103 (by decide) ?_
                  rw [show (nI ((laN nu 0 no i).1 + 1) : Int32) = nI (laN nu 0 no (i + 1)).1 from by first | exact (congrArg (fun q : Nat × (Nat → Int32) => nI q.1) (laN_n (nu := nu) (o := 0) (no := no) (i := i) (by first | exact okL_a (v := nu i) k6 | exact okL_b (v := nu i) k6))).symm | (have e := laN_y (nu := nu) (o := 0) (no := no) (i := i) (okL_t (v := nu i) k5 k6); rw [Nat.zero_add] at e; exact (congrArg (fun q : Nat × (Nat → Int32) => nI q.1) e).symm)] at hl
                  have ecell : (upd ((laN nu 0 no i).2) i ((nu i : Int64).toInt32)) = ((laN nu 0 no (i + 1)).2) := by first | exact (congrArg (fun q : Nat × (Nat → Int32) => q.2) (laN_n (nu := nu) (o := 0) (no := no) (i := i) (by first | exact okL_a (v := nu i) k6 | exact okL_b (v := nu i) k6))).symm | (have e := laN_y (nu := nu) (o := 0) (no := no) (i := i) (okL_t (v := nu i) k5 k6); rw [Nat.zero_add] at e; exact (congrArg (fun q : Nat × (Nat → Int32) => q.2) e).symm)
                  rw [ecell] at hP hD
                  clear ecell
                  have hP : va_P (eD E) vwCl [(x, .inr (3, fx)), (h, .inr (2, [.int mi, .int fo, .int wi, .int sp, .ref qn, .int (nI P), .ref qk, .ref qp, .ref qq, .ref qc, .int wa])), (qn, .inl (eI E, 30, .inl ((laN nu 0 no (i + 1)).2))), (qS, .inl (eS E, 4, .inr (.inr (.inr (.inr sf))))), (sa, .inr (0, [.int bt_, .int (nI Z), .ref nb])), (nb, .inl (eJ E, 40, .inr (.inl nu))), (qf, .inl (eI E, 7, .inl fd))] H := hP
                  have hD : va_D A [(x, .inr (3, fx)), (h, .inr (2, [.int mi, .int fo, .int wi, .int sp, .ref qn, .int (nI P), .ref qk, .ref qp, .ref qq, .ref qc, .int wa])), (qn, .inl (eI E, 30, .inl ((laN nu 0 no (i + 1)).2))), (qS, .inl (eS E, 4, .inr (.inr (.inr (.inr sf))))), (sa, .inr (0, [.int bt_, .int (nI Z), .ref nb])), (nb, .inl (eJ E, 40, .inr (.inl nu))), (qf, .inl (eI E, 7, .inl fd))] := hD
                  exact ih (i + 1) (by omega) (by omega)  _ _ _ hP hD hS (lv_sub hl [0, 1, 3, 4] rfl)
      have hP : va_P (eD E) vwCl [(x, .inr (3, fx)), (h, .inr (2, [.int mi, .int fo, .int wi, .int sp, .ref qn, .int (nI P), .ref qk, .ref qp, .ref qq, .ref qc, .int wa])), (qn, .inl (eI E, 30, .inl ((laN nu 0 no 0).2))), (qS, .inl (eS E, 4, .inr (.inr (.inr (.inr sf))))), (sa, .inr (0, [.int bt_, .int (nI Z), .ref nb])), (nb, .inl (eJ E, 40, .inr (.inl nu))), (qf, .inl (eI E, 7, .inl fd))] H := hP
      have hD : va_D A [(x, .inr (3, fx)), (h, .inr (2, [.int mi, .int fo, .int wi, .int sp, .ref qn, .int (nI P), .ref qk, .ref qp, .ref qq, .ref qc, .int wa])), (qn, .inl (eI E, 30, .inl ((laN nu 0 no 0).2))), (qS, .inl (eS E, 4, .inr (.inr (.inr (.inr sf))))), (sa, .inr (0, [.int bt_, .int (nI Z), .ref nb])), (nb, .inl (eJ E, 40, .inr (.inl nu))), (qf, .inl (eI E, 7, .inl fd))] := hD
      exact lp37 ((min Z 30) + 1) 0 (by omega) (by omega)  _ _ _ hP hD hS (lv_sub hl [0, 1, 2, 3] rfl)
    · refine lv_aload_n F.1 F.2.1 dX3_lays_26 rfl (lv_at hl 0 rfl) ?_
      refine lv_ldc (v := (-1000000006)) F.1 F.2.1 F.2.2.2.1 (F.2.2.2.2 _ (mm 3 rfl)) dX3_lays_27 ?_
      refine g_goI (wr := [(h, .inr (2, [.int mi, .int fo, .int wi, .int sp, .ref qn, .int (nI P), .ref qk, .ref qp, .ref qq, .ref qc, .int wa])), (qn, .inl (eI E, 30, .inl no)), (qS, .inl (eS E, 4, .inr (.inr (.inr (.inr sf))))), (sa, .inr (0, [.int bt_, .int (nI Z), .ref nb])), (nb, .inl (eJ E, 40, .inr (.inl nu)))]) (g_runV (As := [.int (-1000000006)]) (rest := []) F hX hP hD hS hA (c_X3_found l E x fx qf fd (-1000000006) 5 (by first | assumption | rfl) (by decide +kernel) (by decide) H.size) (cwV 1 F.2.2.2.2 gX3_lays_X3_found rfl rfl rfl (by decide +kernel) ⟨Nat.le_of_ble_eq_true rfl, Nat.le_of_ble_eq_true rfl⟩) [0, 6] rfl rfl (q0 := 0) (ci := 3) rfl rfl rfl hl.1 rfl (Nat.le_of_ble_eq_true rfl) dX3_lays_29 ⟨Nat.le_refl _, Nat.le_refl _⟩) hP hD hS hA [0, 6] [1, 2, 3, 4, 5] rfl rfl rfl (by decide) (fun r _ H locs hq hP hD hS => ?_)
      have hP : va_P (eD E) vwCl [(x, .inr (3, fx)), (h, .inr (2, [.int mi, .int fo, .int wi, .int sp, .ref qn, .int (nI P), .ref qk, .ref qp, .ref qq, .ref qc, .int wa])), (qn, .inl (eI E, 30, .inl no)), (qS, .inl (eS E, 4, .inr (.inr (.inr (.inr sf))))), (sa, .inr (0, [.int bt_, .int (nI Z), .ref nb])), (nb, .inl (eJ E, 40, .inr (.inl nu))), (qf, .inl (eI E, 7, .inl (fn fd 5)))] H := hP.sub [5, 0, 1, 2, 3, 4, 6] rfl
      have hD : va_D A [(x, .inr (3, fx)), (h, .inr (2, [.int mi, .int fo, .int wi, .int sp, .ref qn, .int (nI P), .ref qk, .ref qp, .ref qq, .ref qc, .int wa])), (qn, .inl (eI E, 30, .inl no)), (qS, .inl (eS E, 4, .inr (.inr (.inr (.inr sf))))), (sa, .inr (0, [.int bt_, .int (nI Z), .ref nb])), (nb, .inl (eJ E, 40, .inr (.inl nu))), (qf, .inl (eI E, 7, .inl (fn fd 5)))] := hD.sub [5, 0, 1, 2, 3, 4, 6] (by decide) rfl
      subst hq
      exact g_reti F hr hlk (vp_nar_int _) hS hP hD ((no, fn fd 5)) (rfl) (by unfold cn_lays; rw [if_pos k1, if_pos (of_decide_eq_true k2)]) dX3_lays_32
  · refine lv_aload_n F.1 F.2.1 dX3_lays_7 rfl (lv_at hl 0 rfl) ?_
    refine lv_ldc (v := (-1000000001)) F.1 F.2.1 F.2.2.2.1 (F.2.2.2.2 _ (mm 1 rfl)) dX3_lays_8 ?_
    refine g_goI (wr := [(h, .inr (2, [.int mi, .int fo, .int wi, .int sp, .ref qn, .int (nI P), .ref qk, .ref qp, .ref qq, .ref qc, .int wa])), (qn, .inl (eI E, 30, .inl no)), (qS, .inl (eS E, 4, .inr (.inr (.inr (.inr sf))))), (sa, .inr (0, [.int bt_, .int (nI Z), .ref nb])), (nb, .inl (eJ E, 40, .inr (.inl nu)))]) (g_runV (As := [.int (-1000000001)]) (rest := []) F hX hP hD hS hA (c_X3_found l E x fx qf fd (-1000000001) 0 (by first | assumption | rfl) (by decide +kernel) (by decide) H.size) (cwV 1 F.2.2.2.2 gX3_lays_X3_found rfl rfl rfl (by decide +kernel) ⟨Nat.le_of_ble_eq_true rfl, Nat.le_of_ble_eq_true rfl⟩) [0, 6] rfl rfl (q0 := 0) (ci := 3) rfl rfl rfl hl.1 rfl (Nat.le_of_ble_eq_true rfl) dX3_lays_10 ⟨Nat.le_refl _, Nat.le_refl _⟩) hP hD hS hA [0, 6] [1, 2, 3, 4, 5] rfl rfl rfl (by decide) (fun r _ H locs hq hP hD hS => ?_)
    have hP : va_P (eD E) vwCl [(x, .inr (3, fx)), (h, .inr (2, [.int mi, .int fo, .int wi, .int sp, .ref qn, .int (nI P), .ref qk, .ref qp, .ref qq, .ref qc, .int wa])), (qn, .inl (eI E, 30, .inl no)), (qS, .inl (eS E, 4, .inr (.inr (.inr (.inr sf))))), (sa, .inr (0, [.int bt_, .int (nI Z), .ref nb])), (nb, .inl (eJ E, 40, .inr (.inl nu))), (qf, .inl (eI E, 7, .inl (fn fd 0)))] H := hP.sub [5, 0, 1, 2, 3, 4, 6] rfl
    have hD : va_D A [(x, .inr (3, fx)), (h, .inr (2, [.int mi, .int fo, .int wi, .int sp, .ref qn, .int (nI P), .ref qk, .ref qp, .ref qq, .ref qc, .int wa])), (qn, .inl (eI E, 30, .inl no)), (qS, .inl (eS E, 4, .inr (.inr (.inr (.inr sf))))), (sa, .inr (0, [.int bt_, .int (nI Z), .ref nb])), (nb, .inl (eJ E, 40, .inr (.inl nu))), (qf, .inl (eI E, 7, .inl (fn fd 0)))] := hD.sub [5, 0, 1, 2, 3, 4, 6] (by decide) rfl
    subst hq
    exact g_reti F hr hlk (vp_nar_int _) hS hP hD ((no, fn fd 0)) (rfl) (by unfold cn_lays; (try simp only [k1, and_self, true_and, and_true, if_true, Bool.false_eq_true, false_and, and_false, if_false]); all_goals simp [k1]) dX3_lays_13
