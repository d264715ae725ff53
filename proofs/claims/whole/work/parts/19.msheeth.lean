theorem fs1_sn (p : Nat → Bool) : ∀ (n i : Nat), (fs1 p (n + 1) i).isNone = ((fs1 p n i).isNone && !p (i + n))
  | 0, i => by
    show (bif p i then some i else none).isNone = (true && !p i)
    cases p i <;> rfl
  | n + 1, i => by
    show (bif p i then some i else fs1 p (n + 1) (i + 1)).isNone = ((bif p i then some i else fs1 p n (i + 1)).isNone && !p (i + (n + 1)))
    cases p i
    · show (fs1 p (n + 1) (i + 1)).isNone = ((fs1 p n (i + 1)).isNone && !p (i + (n + 1)))
      rw [fs1_sn p n (i + 1), show i + 1 + n = i + (n + 1) by omega]
    · rfl
theorem gaw_s (f : Nat → Int32) (nu : Nat → Int64) (i : Nat) : gaw f nu (i + 1) = (gaw f nu i && decide (nu i = (f i).toInt64)) := by
  unfold gaw
  rw [fs1_sn, Nat.zero_add, Bool.not_not]
theorem gaw_f {f : Nat → Int32} {nu : Nat → Int64} {i : Nat} (h : gaw f nu i = false) : ∀ k, gaw f nu (i + k) = false
  | 0 => h
  | k + 1 => by
    show gaw f nu (i + k + 1) = false
    rw [gaw_s, gaw_f h k]; rfl
theorem gaw_e {f : Nat → Int32} {nu : Nat → Int64} {i Z : Nat} (h : gaw f nu i = false) (hi : i ≤ Z) : gaw f nu i = gaw f nu Z := by
  obtain ⟨k, rfl⟩ : ∃ k, Z = i + k := ⟨Z - i, by omega⟩
  rw [gaw_f h k, h]
theorem gaw_a {f : Nat → Int32} {nu : Nat → Int64} {i : Nat} (h : gaw f nu i = true) (h2 : ¬ lg_cmp (nu i) (f i).toInt64 = 0) : 0 = bi (gaw f nu (i + 1)) := by
  rw [gaw_s, h, decide_eq_false (fun q => h2 ((lg_cmp_eq _ _).mpr q))]; rfl
theorem gaw_b {f : Nat → Int32} {nu : Nat → Int64} {i : Nat} (h : gaw f nu i = true) (h2 : lg_cmp (nu i) (f i).toInt64 = 0) : 1 = bi (gaw f nu (i + 1)) := by
  rw [gaw_s, h, decide_eq_true ((lg_cmp_eq _ _).mp h2)]; rfl
set_option maxHeartbeats 4000000 in
set_option maxRecDepth 100000 in
theorem c_X4_isBook (l : Launch) (E : gE) (h : Nat) (fs : List Value) (qm : Nat) (qw : Nat) (qs : Nat) (qc : Nat) (m : Nat → Int32) (w : Nat → Int32) (si4 : Nat → Int32) (ce : Nat → Int64) (P : Nat) (Z : Nat) (s : Nat) (j : Nat) (hf0 : fs[0]? = some (.ref qm)) (hf2 : fs[2]? = some (.ref qw)) (hf13 : fs[13]? = some (.ref qs)) (hf14 : fs[14]? = some (.ref qc)) (hm4 : m 4 = nI P) (hP8 : P ≤ 8) (hZ : Z ≤ 40) (hs4 : s < 4 ∧ si4 s = nI Z) (hj8 : j < 8) : gI l yX4_isBook wsX4_isBook ({ frames := 7, cells := 0, slots := 0, locals := 147 }) E [(h, .inr (4, fs)), (qm, .inl (eI E, 75, .inl m)), (qw, .inl (eI E, 75, .inl w)), (qs, .inl (eI E, 4, .inl si4)), (qc, .inl (eJ E, 160, .inr (.inl ce)))] (fun _ : Unit => [(h, .inr (4, fs)), (qm, .inl (eI E, 75, .inl w)), (qw, .inl (eI E, 75, .inl w)), (qs, .inl (eI E, 4, .inl si4)), (qc, .inl (eJ E, 160, .inr (.inl ce)))]) [.ref h, .int (nI s), .int (nI j)] (fun (r : Int32) (_ : Unit) => r = bi (gaw (fun n => pf (itM P m n) j 1) (fun q => ce (40 * s + q)) Z)) := by
  have hin4 : ∀ w ∈ wsX40, w ∈ wsX4_isBook := (fun _ h => (List.mem_cons_of_mem _ (List.mem_append_right _ h)))
  refine gI.of (cc := cX4_isBook) (maxL := 5) (by decide) rfl (Nat.le_of_ble_eq_true rfl) ?_
  intro pG eG sG mG below meth cG A ls H locs F hr hlk hX hP hD hA hS hl
  have hl : lv_has ls 5 [(0, .ref h), (1, .int (nI s)), (2, .int (nI j))] := hl
  refine lv_iconst (v := 1) F.1 F.2.1 dX4_isBook_0 (by decide) ?_
  refine lv_istore_n (lv' := [(3, .int 1), (0, .ref h), (1, .int (nI s)), (2, .int (nI j))]) F.1 F.2.1 dX4_isBook_1 rfl hl (by decide) rfl (fun ls hl => ?_)
  refine lv_iconst (v := 0) F.1 F.2.1 dX4_isBook_2 (by decide) ?_
  refine lv_istore (lv' := [(4, .int 0), (3, .int 1), (0, .ref h), (1, .int (nI s)), (2, .int (nI j))]) F.1 F.2.1 dX4_isBook_3 hl (by decide) rfl (fun ls hl => ?_)
  have lp5 : ∀ (fu i : Nat), i ≤ Z → Z + 1 ≤ i + fu → ∀ (H : Heap) (locs : List Loc) (ls : Array Slot), va_P (eD E) vwCl [(h, .inr (4, fs)), (qm, .inl (eI E, 75, .inl (itM P m i))), (qw, .inl (eI E, 75, .inl w)), (qs, .inl (eI E, 4, .inl si4)), (qc, .inl (eJ E, 160, .inr (.inl ce)))] H → va_D A [(h, .inr (4, fs)), (qm, .inl (eI E, 75, .inl (itM P m i))), (qw, .inl (eI E, 75, .inl w)), (qs, .inl (eI E, 4, .inl si4)), (qc, .inl (eJ E, 160, .inr (.inl ce)))] → va_S A sG.heap H locs → lv_has ls 5 [(4, .int (nI i)), (3, .int (bi (gaw (fun n => pf (itM P m n) j 1) (fun q => ce (40 * s + q)) i))), (0, .ref h), (1, .int (nI s)), (2, .int (nI j))] → W pG l eG { frames := 7, cells := 0, slots := 0, locals := 147 } sG mG [.ref h, .int (nI s), .int (nI j)].toArray below meth cG H locs 0 0 (MQ below (va_Qi (fun (r : Int32) (_ : Unit) => r = bi (gaw (fun n => pf (itM P m n) j 1) (fun q => ce (40 * s + q)) Z)) (gR E (fun _ : Unit => [(h, .inr (4, fs)), (qm, .inl (eI E, 75, .inl w)), (qw, .inl (eI E, 75, .inl w)), (qs, .inl (eI E, 4, .inl si4)), (qc, .inl (eJ E, 160, .inr (.inl ce)))]) A) A) [.ref h, .int (nI s), .int (nI j)].toArray sG 0 0 A) (F0 mG 5 ls []) := by
    intro fu
    induction fu with
    | zero => intro i h1 h2; exact absurd h2 (by omega)
    | succ fu ih =>
      intro i hi hin   H locs ls hP hD hS hl
      refine lv_iload F.1 F.2.1 dX4_isBook_5 (lv_at hl 0 rfl) ?_
      refine lv_aload_n F.1 F.2.1 dX4_isBook_7 rfl (lv_at hl 2 rfl) ?_
      refine g_get F hX hP hin4 0 rfl rfl 13 (by decide) (mm 1 rfl) hf13 dX4_isBook_8 ?_
      refine lv_iload_n F.1 F.2.1 dX4_isBook_11 rfl (lv_at hl 3 rfl) ?_
      refine g_iald F hX hP 3 rfl (j := s) (rfl) (hs4.1) (by decide) dX4_isBook_12 ?_
      refine g_top (nI Z) (hs4.2) ?_
      refine lv_icmp_ge (tgt := 59) F.1 F.2.1 dX4_isBook_13 (by decide) (fun k1 => ?_) (fun k1 => ?_)
      · have hiN : Z = i := Nat.le_antisymm ((nI_leI (by omega) (by omega)).mp k1) hi
        subst hiN
        refine lv_aload_n F.1 F.2.1 dX4_isBook_59 rfl (lv_at hl 2 rfl) ?_
        refine g_goV (wr := [(qs, .inl (eI E, 4, .inl si4)), (qc, .inl (eJ E, 160, .inr (.inl ce)))]) (g_runV (As := []) (rest := []) F hX hP hD hS hA (c_X4_putsBack l E h fs qm qw (itM P m Z) w (by first | assumption | rfl) (by first | assumption | rfl) H.size) (cwV 0 F.2.2.2.2 gX4_isBook_X4_putsBack rfl rfl rfl (by decide +kernel) ⟨Nat.le_of_ble_eq_true rfl, Nat.le_of_ble_eq_true rfl⟩) [0, 1, 2] rfl rfl (q0 := 0) (ci := 4) rfl rfl rfl hl.1 rfl (Nat.le_of_ble_eq_true rfl) dX4_isBook_60 ⟨Nat.le_refl _, Nat.le_refl _⟩) hP hD hS hA [0, 1, 2] [3, 4] rfl rfl rfl (by decide) (fun _ H locs hq hP hD hS => ?_)
        have hP : va_P (eD E) vwCl [(h, .inr (4, fs)), (qm, .inl (eI E, 75, .inl w)), (qw, .inl (eI E, 75, .inl w)), (qs, .inl (eI E, 4, .inl si4)), (qc, .inl (eJ E, 160, .inr (.inl ce)))] H := hP.sub [2, 3, 4, 0, 1] rfl
        have hD : va_D A [(h, .inr (4, fs)), (qm, .inl (eI E, 75, .inl w)), (qw, .inl (eI E, 75, .inl w)), (qs, .inl (eI E, 4, .inl si4)), (qc, .inl (eJ E, 160, .inr (.inl ce)))] := hD.sub [2, 3, 4, 0, 1] (by decide) rfl
        refine lv_iload_n F.1 F.2.1 dX4_isBook_63 rfl (lv_at hl 1 rfl) ?_
        exact g_reti F hr hlk (bi_nar _) hS hP hD (()) (rfl) (by first | rfl | exact congrArg bi (gaw_e {c} hi)) dX4_isBook_64
      · have hiN : i < Z := Nat.lt_of_not_le (fun h => k1 (nI_le h (by omega)))
        refine lv_iload_n F.1 F.2.1 dX4_isBook_16 rfl (lv_at hl 1 rfl) ?_
        refine g_beq (tgt := 59) F dX4_isBook_17 (by decide) (fun k2 => ?_) (fun k2 => ?_)
        · refine lv_aload_n F.1 F.2.1 dX4_isBook_59 rfl (lv_at hl 2 rfl) ?_
          refine g_goV (wr := [(qs, .inl (eI E, 4, .inl si4)), (qc, .inl (eJ E, 160, .inr (.inl ce)))]) (g_runV (As := []) (rest := []) F hX hP hD hS hA (c_X4_putsBack l E h fs qm qw (itM P m i) w (by first | assumption | rfl) (by first | assumption | rfl) H.size) (cwV 0 F.2.2.2.2 gX4_isBook_X4_putsBack rfl rfl rfl (by decide +kernel) ⟨Nat.le_of_ble_eq_true rfl, Nat.le_of_ble_eq_true rfl⟩) [0, 1, 2] rfl rfl (q0 := 0) (ci := 4) rfl rfl rfl hl.1 rfl (Nat.le_of_ble_eq_true rfl) dX4_isBook_60 ⟨Nat.le_refl _, Nat.le_refl _⟩) hP hD hS hA [0, 1, 2] [3, 4] rfl rfl rfl (by decide) (fun _ H locs hq hP hD hS => ?_)
          have hP : va_P (eD E) vwCl [(h, .inr (4, fs)), (qm, .inl (eI E, 75, .inl w)), (qw, .inl (eI E, 75, .inl w)), (qs, .inl (eI E, 4, .inl si4)), (qc, .inl (eJ E, 160, .inr (.inl ce)))] H := hP.sub [2, 3, 4, 0, 1] rfl
          have hD : va_D A [(h, .inr (4, fs)), (qm, .inl (eI E, 75, .inl w)), (qw, .inl (eI E, 75, .inl w)), (qs, .inl (eI E, 4, .inl si4)), (qc, .inl (eJ E, 160, .inr (.inl ce)))] := hD.sub [2, 3, 4, 0, 1] (by decide) rfl
          refine lv_iload_n F.1 F.2.1 dX4_isBook_63 rfl (lv_at hl 1 rfl) ?_
          exact g_reti F hr hlk (bi_nar _) hS hP hD (()) (rfl) (by first | rfl | exact congrArg bi (gaw_e k2 hi)) dX4_isBook_64
        · refine lv_aload_n F.1 F.2.1 dX4_isBook_20 rfl (lv_at hl 2 rfl) ?_
          refine g_get F hX hP hin4 0 rfl rfl 14 (by decide) (mm 2 rfl) hf14 dX4_isBook_21 ?_
          refine lv_bipush (v := 40) F.1 F.2.1 dX4_isBook_24 (by decide) ?_
          refine lv_iload_n F.1 F.2.1 dX4_isBook_26 rfl (lv_at hl 3 rfl) ?_
          refine lv_imul F.1 F.2.1 dX4_isBook_27 ?_
          refine lv_iload F.1 F.2.1 dX4_isBook_28 (lv_at hl 0 rfl) ?_
          refine lv_iadd F.1 F.2.1 dX4_isBook_30 ?_
          refine g_lald F hX hP 4 rfl (j := 40 * s + i) (i40 _ _) (by have := hs4.1; omega) (by decide) dX4_isBook_31 ?_
          refine lv_aload_n F.1 F.2.1 dX4_isBook_32 rfl (lv_at hl 2 rfl) ?_
          refine lv_iload_n F.1 F.2.1 dX4_isBook_33 rfl (lv_at hl 4 rfl) ?_
          refine lv_iconst (v := 1) F.1 F.2.1 dX4_isBook_34 (by decide) ?_
          refine g_goIr (g_runV (As := [.int (nI j), .int 1]) (rest := [.long (ce (40 * s + i))]) F hX hP hD hS hA (c_X4_it l E h fs qm (itM P m i) j 1 (by first | assumption | rfl) (by first | assumption | omega) (by decide) H.size) (cwV 2 F.2.2.2.2 gX4_isBook_X4_it rfl rfl rfl (by decide +kernel) ⟨Nat.le_of_ble_eq_true rfl, Nat.le_of_ble_eq_true rfl⟩) [0, 1] rfl rfl (q0 := 0) (ci := 4) rfl rfl rfl hl.1 rfl (Nat.le_of_ble_eq_true rfl) dX4_isBook_35 ⟨Nat.le_refl _, Nat.le_refl _⟩) hP hD hS hA [0, 1] rfl (fun r _ H locs hq hP hS => ?_)
          subst hq
          refine lv_i2l (v := (pf (itM P m i) j 1 : Int32).toInt64) F.1 F.2.1 dX4_isBook_38 rfl ?_
          refine W.lcmp F.1 F.2.1 dX4_isBook_39 ?_
          have jn48 : ∀ (H : Heap) (locs : List Loc) (ls : Array Slot), va_P (eD E) vwCl [(h, .inr (4, fs)), (qm, .inl (eI E, 75, .inl (itM P m i))), (qw, .inl (eI E, 75, .inl w)), (qs, .inl (eI E, 4, .inl si4)), (qc, .inl (eJ E, 160, .inr (.inl ce)))] H → va_D A [(h, .inr (4, fs)), (qm, .inl (eI E, 75, .inl (itM P m i))), (qw, .inl (eI E, 75, .inl w)), (qs, .inl (eI E, 4, .inl si4)), (qc, .inl (eJ E, 160, .inr (.inl ce)))] → va_S A sG.heap H locs → lv_has ls 5 [(4, .int (nI i)), (3, .int (bi (gaw (fun n => pf (itM P m n) j 1) (fun q => ce (40 * s + q)) i))), (0, .ref h), (1, .int (nI s)), (2, .int (nI j))] → W pG l eG { frames := 7, cells := 0, slots := 0, locals := 147 } sG mG [.ref h, .int (nI s), .int (nI j)].toArray below meth cG H locs 0 0 (MQ below (va_Qi (fun (r : Int32) (_ : Unit) => r = bi (gaw (fun n => pf (itM P m n) j 1) (fun q => ce (40 * s + q)) Z)) (gR E (fun _ : Unit => [(h, .inr (4, fs)), (qm, .inl (eI E, 75, .inl w)), (qw, .inl (eI E, 75, .inl w)), (qs, .inl (eI E, 4, .inl si4)), (qc, .inl (eJ E, 160, .inr (.inl ce)))]) A) A) [.ref h, .int (nI s), .int (nI j)].toArray sG 0 0 A) (F0 mG 48 ls [.int (bi (gaw (fun n => pf (itM P m n) j 1) (fun q => ce (40 * s + q)) (i + 1)))]) := by
            intro H locs ls hP hD hS hl
            refine lv_istore_n (lv' := [(3, .int (bi (gaw (fun n => pf (itM P m n) j 1) (fun q => ce (40 * s + q)) (i + 1)))), (4, .int (nI i)), (0, .ref h), (1, .int (nI s)), (2, .int (nI j))]) F.1 F.2.1 dX4_isBook_48 rfl hl (by decide) rfl (fun ls hl => ?_)
            refine lv_aload_n F.1 F.2.1 dX4_isBook_49 rfl (lv_at hl 2 rfl) ?_
            refine g_goV (wr := [(qw, .inl (eI E, 75, .inl w)), (qs, .inl (eI E, 4, .inl si4)), (qc, .inl (eJ E, 160, .inr (.inl ce)))]) (g_runV (As := []) (rest := []) F hX hP hD hS hA (c_X4_goes l E h fs qm (itM P m i) P (by first | assumption | rfl) ((itM_lo P m (by decide) (by decide) i).trans hm4) (by first | assumption | omega) H.size) (cwV 0 F.2.2.2.2 gX4_isBook_X4_goes rfl rfl rfl (by decide +kernel) ⟨Nat.le_of_ble_eq_true rfl, Nat.le_of_ble_eq_true rfl⟩) [0, 1] rfl rfl (q0 := 0) (ci := 4) rfl rfl rfl hl.1 rfl (Nat.le_of_ble_eq_true rfl) dX4_isBook_50 ⟨Nat.le_refl _, Nat.le_refl _⟩) hP hD hS hA [0, 1] [2, 3, 4] rfl rfl rfl (by decide) (fun _ H locs hq hP hD hS => ?_)
            have hP : va_P (eD E) vwCl [(h, .inr (4, fs)), (qm, .inl (eI E, 75, .inl (goM P (itM P m i)))), (qw, .inl (eI E, 75, .inl w)), (qs, .inl (eI E, 4, .inl si4)), (qc, .inl (eJ E, 160, .inr (.inl ce)))] H := hP.sub [3, 4, 0, 1, 2] rfl
            have hD : va_D A [(h, .inr (4, fs)), (qm, .inl (eI E, 75, .inl (goM P (itM P m i)))), (qw, .inl (eI E, 75, .inl w)), (qs, .inl (eI E, 4, .inl si4)), (qc, .inl (eJ E, 160, .inr (.inl ce)))] := hD.sub [3, 4, 0, 1, 2] (by decide) rfl
            refine lv_iinc (v := nI (i + 1)) (lv' := [(4, .int (nI (i + 1))), (3, .int (bi (gaw (fun n => pf (itM P m n) j 1) (fun q => ce (40 * s + q)) (i + 1)))), (0, .ref h), (1, .int (nI s)), (2, .int (nI j))]) F.1 F.2.1 dX4_isBook_53 hl (k := 1) rfl (nI_1 _) (by decide) rfl (fun ls hl => ?_)
            refine lv_goto (tgt := 5) F.1 F.2.1 dX4_isBook_56 (by decide) ?_
            have hP : va_P (eD E) vwCl [(h, .inr (4, fs)), (qm, .inl (eI E, 75, .inl (itM P m (i + 1)))), (qw, .inl (eI E, 75, .inl w)), (qs, .inl (eI E, 4, .inl si4)), (qc, .inl (eJ E, 160, .inr (.inl ce)))] H := hP
            have hD : va_D A [(h, .inr (4, fs)), (qm, .inl (eI E, 75, .inl (itM P m (i + 1)))), (qw, .inl (eI E, 75, .inl w)), (qs, .inl (eI E, 4, .inl si4)), (qc, .inl (eJ E, 160, .inr (.inl ce)))] := hD
            exact ih (i + 1) (by omega) (by omega)  _ _ _ hP hD hS (lv_sub hl [0, 1, 2, 3, 4] rfl)
          refine lv_if_ne (tgt := 47) F.1 F.2.1 dX4_isBook_40 (by decide) (fun k3 => ?_) (fun k3 => ?_)
          · refine lv_iconst (v := 0) F.1 F.2.1 dX4_isBook_47 (by decide) ?_
            refine g_top (bi (gaw (fun n => pf (itM P m n) j 1) (fun q => ce (40 * s + q)) (i + 1))) (by first | exact gaw_a (f := (fun n => pf (itM P m n) j 1)) (nu := (fun q => ce (40 * s + q))) k2 k3 | exact gaw_b (f := (fun n => pf (itM P m n) j 1)) (nu := (fun q => ce (40 * s + q))) k2 k3) ?_
            exact jn48 _ _ _ hP hD hS (lv_sub hl [0, 1, 2, 3, 4] rfl)
          · refine lv_iconst (v := 1) F.1 F.2.1 dX4_isBook_43 (by decide) ?_
            refine lv_goto (tgt := 48) F.1 F.2.1 dX4_isBook_44 (by decide) ?_
            refine g_top (bi (gaw (fun n => pf (itM P m n) j 1) (fun q => ce (40 * s + q)) (i + 1))) (by first | exact gaw_a (f := (fun n => pf (itM P m n) j 1)) (nu := (fun q => ce (40 * s + q))) k2 k3 | exact gaw_b (f := (fun n => pf (itM P m n) j 1)) (nu := (fun q => ce (40 * s + q))) k2 k3) ?_
            exact jn48 _ _ _ hP hD hS (lv_sub hl [0, 1, 2, 3, 4] rfl)
  have hP : va_P (eD E) vwCl [(h, .inr (4, fs)), (qm, .inl (eI E, 75, .inl (itM P m 0))), (qw, .inl (eI E, 75, .inl w)), (qs, .inl (eI E, 4, .inl si4)), (qc, .inl (eJ E, 160, .inr (.inl ce)))] H := hP
  have hD : va_D A [(h, .inr (4, fs)), (qm, .inl (eI E, 75, .inl (itM P m 0))), (qw, .inl (eI E, 75, .inl w)), (qs, .inl (eI E, 4, .inl si4)), (qc, .inl (eJ E, 160, .inr (.inl ce)))] := hD
  exact lp5 (Z + 1) 0 (by omega) (by omega)  _ _ _ hP hD hS (lv_sub hl [0, 1, 2, 3, 4] rfl)
