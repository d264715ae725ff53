def sp_write (bt_ : Int32) (Z : Nat) (nu : Nat → Int64) (fd : Nat → Int32) (a1 a2 : Int32) (v : Int64) : Int64 × (Nat → Int64) × (Nat → Int32) := if inR a1 0 3 = true then (if bt_ = 0 then ((-1000000006 : Int32).toInt64, nu, fn fd 5) else if inR a2 0 (nI Z - 1) = true then (nu (ix a2), vp_updL nu (ix a2) (cutC bt_ v), fd) else ((-1000000001 : Int32).toInt64, nu, fn fd 0)) else ((-1000000001 : Int32).toInt64, nu, fn fd 0)
theorem ix_upto {x : Int32} {Z : Nat} (h : inR x 0 (nI Z - 1) = true) (hZ : Z ≤ 40) : x = nI (ix x) ∧ ix x < Z := by
  have h1 := inR_iff.mp h
  have e : (nI Z - 1).toInt = (Z : Int) - 1 := pk_sub_toInt (b := 1) (by omega) (by decide)
  have h0 : 0 ≤ x.toInt := h1.1
  refine ⟨nI_ix h0, ?_⟩
  have := ix_int h0
  rw [e] at h1
  omega
set_option maxHeartbeats 4000000 in
set_option maxRecDepth 100000 in
theorem c_X3_write (l : Launch) (E : gE) (x : Nat) (fx : List Value) (qS : Nat) (qf : Nat) (sf : Nat → Option Nat) (sa : Nat) (bt_ : Int32) (Z : Nat) (nb : Nat) (nu : Nat → Int64) (fd : Nat → Int32) (a1 : Int32) (a2 : Int32) (v : Int64) (hx4 : fx[4]? = some (.ref qS)) (hx5 : fx[5]? = some (.ref qf)) (hZ : Z ≤ 40) (hsf : inR a1 0 3 = true → sf (ix a1) = some sa) : gL l yX3_write wsX3_write ({ frames := 2, cells := 0, slots := 0, locals := 44 }) E [(x, .inr (3, fx)), (qS, .inl (eS E, 4, .inr (.inr (.inr (.inr sf))))), (sa, .inr (0, [.int bt_, .int (nI Z), .ref nb])), (nb, .inl (eJ E, 40, .inr (.inl nu))), (qf, .inl (eI E, 7, .inl fd))] (fun u : (Nat → Int64) × (Nat → Int32) => [(x, .inr (3, fx)), (qS, .inl (eS E, 4, .inr (.inr (.inr (.inr sf))))), (sa, .inr (0, [.int bt_, .int (nI Z), .ref nb])), (nb, .inl (eJ E, 40, .inr (.inl u.1))), (qf, .inl (eI E, 7, .inl u.2))]) [.ref x, .int a1, .int a2, .long v] (fun (r : Int64) (u : (Nat → Int64) × (Nat → Int32)) => (r, u) = sp_write bt_ Z nu fd a1 a2 v) := by
  have hin0 : ∀ w ∈ wsX00, w ∈ wsX3_write := (fun _ h => (List.mem_cons_of_mem _ (List.mem_append_right _ h)))
  have hin3 : ∀ w ∈ wsX30, w ∈ wsX3_write := (fun _ h => (List.mem_cons_of_mem _ (List.mem_append_left _ (List.mem_append_right _ h))))
  refine gL.of (cc := cX3_write) (maxL := 7) (by decide) rfl (Nat.le_of_ble_eq_true rfl) ?_
  intro pG eG sG mG below meth cG A ls H locs F hr hlk hX hP hD hA hS hl
  have hl : lv_has ls 7 [(0, .ref x), (1, .int a1), (2, .int a2), (3, .long v)] := hl
  refine lv_iload_n F.1 F.2.1 dX3_write_0 rfl (lv_at hl 1 rfl) ?_
  refine g_goIr (g_runS (As := [.int a1]) (rest := []) F hX hP hD hS hA (c_X3_isSheet l E a1 H.size) (va_cwS 1 F.2.2.2.2 gX3_write_X3_isSheet rfl rfl rfl (by decide +kernel) ⟨Nat.le_of_ble_eq_true rfl, Nat.le_of_ble_eq_true rfl⟩) [] rfl rfl rfl hl.1 rfl (Nat.le_of_ble_eq_true rfl) dX3_write_1 ⟨Nat.le_refl _, Nat.le_refl _⟩) hP hD hS hA [] rfl (fun r _ H locs hq hP hS => ?_)
  subst hq
  refine g_bne (tgt := 15) F dX3_write_4 (by decide) (fun k1 => ?_) (fun k1 => ?_)
  · obtain ⟨e_a1, b_a1⟩ := ix_of 3 k1 (by decide) (by decide)
    have hl : lv_has ls 7 [(0, .ref x), (1, .int (nI (ix a1))), (2, .int a2), (3, .long v)] := by rw [← e_a1]; exact hl
    refine lv_aload_n F.1 F.2.1 dX3_write_15 rfl (lv_at hl 0 rfl) ?_
    refine g_get F hX hP hin3 0 rfl rfl 4 (by decide) (mm 2 rfl) hx4 dX3_write_16 ?_
    refine lv_iload_n F.1 F.2.1 dX3_write_19 rfl (lv_at hl 1 rfl) ?_
    refine g_aald F hX hP 1 rfl (j := ix a1) (rfl) (by omega) (by decide) (v := sa) (hsf k1) dX3_write_20 ?_
    refine g_goIr (g_runV (As := []) (rest := []) F hX hP hD hS hA (c_X0_isMissing l E sa bt_ Z nb H.size) (cwV 0 F.2.2.2.2 gX3_write_X0_isMissing rfl rfl rfl (by decide +kernel) ⟨Nat.le_of_ble_eq_true rfl, Nat.le_of_ble_eq_true rfl⟩) [2] rfl rfl (q0 := 2) (ci := 0) rfl rfl rfl hl.1 rfl (Nat.le_of_ble_eq_true rfl) dX3_write_21 ⟨Nat.le_refl _, Nat.le_refl _⟩) hP hD hS hA [2] rfl (fun r _ H locs hq hP hS => ?_)
    subst hq
    refine g_beq (tgt := 35) F dX3_write_24 (by decide) (fun k2 => ?_) (fun k2 => ?_)
    · refine lv_iload_n F.1 F.2.1 dX3_write_35 rfl (lv_at hl 2 rfl) ?_
      refine lv_iconst (v := 0) F.1 F.2.1 dX3_write_36 (by decide) ?_
      refine lv_aload_n F.1 F.2.1 dX3_write_37 rfl (lv_at hl 0 rfl) ?_
      refine g_get F hX hP hin3 0 rfl rfl 4 (by decide) (mm 2 rfl) hx4 dX3_write_38 ?_
      refine lv_iload_n F.1 F.2.1 dX3_write_41 rfl (lv_at hl 1 rfl) ?_
      refine g_aald F hX hP 1 rfl (j := ix a1) (rfl) (by omega) (by decide) (v := sa) (hsf k1) dX3_write_42 ?_
      refine g_get F hX hP hin0 2 rfl rfl 1 (by decide) (mm 4 rfl) rfl dX3_write_43 ?_
      refine lv_iconst (v := 1) F.1 F.2.1 dX3_write_46 (by decide) ?_
      refine lv_isub F.1 F.2.1 dX3_write_47 ?_
      refine g_goIr (g_runS (As := [.int a2, .int 0, .int ((nI Z) - 1)]) (rest := []) F hX hP hD hS hA (c_X3_isWithin l E a2 0 ((nI Z) - 1) H.size) (va_cwS 3 F.2.2.2.2 gX3_write_X3_isWithin rfl rfl rfl (by decide +kernel) ⟨Nat.le_of_ble_eq_true rfl, Nat.le_of_ble_eq_true rfl⟩) [] rfl rfl rfl hl.1 rfl (Nat.le_of_ble_eq_true rfl) dX3_write_48 ⟨Nat.le_refl _, Nat.le_refl _⟩) hP hD hS hA [] rfl (fun r _ H locs hq hP hS => ?_)
      subst hq
      refine g_bne (tgt := 62) F dX3_write_51 (by decide) (fun k3 => ?_) (fun k3 => ?_)
      · obtain ⟨e_a2, b_a2⟩ := ix_upto k3 hZ
        have hl : lv_has ls 7 [(0, .ref x), (1, .int (nI (ix a1))), (2, .int (nI (ix a2))), (3, .long v)] := by rw [← e_a2]; exact hl
        refine lv_aload_n F.1 F.2.1 dX3_write_62 rfl (lv_at hl 0 rfl) ?_
        refine g_get F hX hP hin3 0 rfl rfl 4 (by decide) (mm 2 rfl) hx4 dX3_write_63 ?_
        refine lv_iload_n F.1 F.2.1 dX3_write_66 rfl (lv_at hl 1 rfl) ?_
        refine g_aald F hX hP 1 rfl (j := ix a1) (rfl) (by omega) (by decide) (v := sa) (hsf k1) dX3_write_67 ?_
        refine g_get F hX hP hin0 2 rfl rfl 2 (by decide) (mm 5 rfl) rfl dX3_write_68 ?_
        refine lv_iload_n F.1 F.2.1 dX3_write_71 rfl (lv_at hl 2 rfl) ?_
        refine g_lald F hX hP 3 rfl (j := (ix a2)) (rfl) (by omega) (by decide) dX3_write_72 ?_
        refine lv_lstore (lv' := [(5, .long (nu (ix a2))), (0, .ref x), (1, .int (nI (ix a1))), (2, .int (nI (ix a2))), (3, .long v)]) F.1 F.2.1 dX3_write_73 hl (by decide) rfl (fun ls hl => ?_)
        refine lv_aload_n F.1 F.2.1 dX3_write_75 rfl (lv_at hl 1 rfl) ?_
        refine g_get F hX hP hin3 0 rfl rfl 4 (by decide) (mm 2 rfl) hx4 dX3_write_76 ?_
        refine lv_iload_n F.1 F.2.1 dX3_write_79 rfl (lv_at hl 2 rfl) ?_
        refine g_aald F hX hP 1 rfl (j := ix a1) (rfl) (by omega) (by decide) (v := sa) (hsf k1) dX3_write_80 ?_
        refine lv_iload_n F.1 F.2.1 dX3_write_81 rfl (lv_at hl 3 rfl) ?_
        refine lv_lload_n F.1 F.2.1 dX3_write_82 rfl (lv_at hl 4 rfl) ?_
        refine g_goV (wr := [(x, .inr (3, fx)), (qS, .inl (eS E, 4, .inr (.inr (.inr (.inr sf))))), (qf, .inl (eI E, 7, .inl fd))]) (g_runV (As := [.int (nI (ix a2)), .long v]) (rest := []) F hX hP hD hS hA (c_X0_put l E sa bt_ Z nb nu (ix a2) v (by first | assumption | omega) H.size) (cwV 2 F.2.2.2.2 gX3_write_X0_put rfl rfl rfl (by decide +kernel) ⟨Nat.le_of_ble_eq_true rfl, Nat.le_of_ble_eq_true rfl⟩) [2, 3] rfl rfl (q0 := 2) (ci := 0) rfl rfl rfl hl.1 rfl (Nat.le_of_ble_eq_true rfl) dX3_write_83 ⟨Nat.le_refl _, Nat.le_refl _⟩) hP hD hS hA [2, 3] [0, 1, 4] rfl rfl rfl (by decide) (fun _ H locs hq hP hD hS => ?_)
        have hP : va_P (eD E) vwCl [(x, .inr (3, fx)), (qS, .inl (eS E, 4, .inr (.inr (.inr (.inr sf))))), (sa, .inr (0, [.int bt_, .int (nI Z), .ref nb])), (nb, .inl (eJ E, 40, .inr (.inl (vp_updL nu (ix a2) (cutC bt_ v))))), (qf, .inl (eI E, 7, .inl fd))] H := hP.sub [0, 1, 3, 4, 2] rfl
        have hD : va_D A [(x, .inr (3, fx)), (qS, .inl (eS E, 4, .inr (.inr (.inr (.inr sf))))), (sa, .inr (0, [.int bt_, .int (nI Z), .ref nb])), (nb, .inl (eJ E, 40, .inr (.inl (vp_updL nu (ix a2) (cutC bt_ v))))), (qf, .inl (eI E, 7, .inl fd))] := hD.sub [0, 1, 3, 4, 2] (by decide) rfl
        refine lv_lload F.1 F.2.1 dX3_write_86 (lv_at hl 0 rfl) ?_
        exact g_retl F hr hlk hS hP hD ((vp_updL nu (ix a2) (cutC bt_ v), fd)) (rfl) (by unfold sp_write; rw [if_pos k1, if_neg (of_decide_eq_false k2), if_pos k3]) dX3_write_88
      · refine lv_aload_n F.1 F.2.1 dX3_write_54 rfl (lv_at hl 0 rfl) ?_
        refine lv_ldc (v := (-1000000001)) F.1 F.2.1 F.2.2.2.1 (F.2.2.2.2 _ (mm 1 rfl)) dX3_write_55 ?_
        refine g_goI (wr := [(qS, .inl (eS E, 4, .inr (.inr (.inr (.inr sf))))), (sa, .inr (0, [.int bt_, .int (nI Z), .ref nb])), (nb, .inl (eJ E, 40, .inr (.inl nu)))]) (g_runV (As := [.int (-1000000001)]) (rest := []) F hX hP hD hS hA (c_X3_found l E x fx qf fd (-1000000001) 0 (by first | assumption | rfl) (by decide +kernel) (by decide) H.size) (cwV 1 F.2.2.2.2 gX3_write_X3_found rfl rfl rfl (by decide +kernel) ⟨Nat.le_of_ble_eq_true rfl, Nat.le_of_ble_eq_true rfl⟩) [0, 4] rfl rfl (q0 := 0) (ci := 3) rfl rfl rfl hl.1 rfl (Nat.le_of_ble_eq_true rfl) dX3_write_57 ⟨Nat.le_refl _, Nat.le_refl _⟩) hP hD hS hA [0, 4] [1, 2, 3] rfl rfl rfl (by decide) (fun r _ H locs hq hP hD hS => ?_)
        have hP : va_P (eD E) vwCl [(x, .inr (3, fx)), (qS, .inl (eS E, 4, .inr (.inr (.inr (.inr sf))))), (sa, .inr (0, [.int bt_, .int (nI Z), .ref nb])), (nb, .inl (eJ E, 40, .inr (.inl nu))), (qf, .inl (eI E, 7, .inl (fn fd 0)))] H := hP.sub [3, 0, 1, 2, 4] rfl
        have hD : va_D A [(x, .inr (3, fx)), (qS, .inl (eS E, 4, .inr (.inr (.inr (.inr sf))))), (sa, .inr (0, [.int bt_, .int (nI Z), .ref nb])), (nb, .inl (eJ E, 40, .inr (.inl nu))), (qf, .inl (eI E, 7, .inl (fn fd 0)))] := hD.sub [3, 0, 1, 2, 4] (by decide) rfl
        subst hq
        refine lv_i2l (v := ((-1000000001) : Int32).toInt64) F.1 F.2.1 dX3_write_60 rfl ?_
        exact g_retl F hr hlk hS hP hD ((nu, fn fd 0)) (rfl) (by unfold sp_write; rw [if_pos k1, if_neg (of_decide_eq_false k2), if_neg (by rw [k3]; decide)]) dX3_write_61
    · refine lv_aload_n F.1 F.2.1 dX3_write_27 rfl (lv_at hl 0 rfl) ?_
      refine lv_ldc (v := (-1000000006)) F.1 F.2.1 F.2.2.2.1 (F.2.2.2.2 _ (mm 3 rfl)) dX3_write_28 ?_
      refine g_goI (wr := [(qS, .inl (eS E, 4, .inr (.inr (.inr (.inr sf))))), (sa, .inr (0, [.int bt_, .int (nI Z), .ref nb])), (nb, .inl (eJ E, 40, .inr (.inl nu)))]) (g_runV (As := [.int (-1000000006)]) (rest := []) F hX hP hD hS hA (c_X3_found l E x fx qf fd (-1000000006) 5 (by first | assumption | rfl) (by decide +kernel) (by decide) H.size) (cwV 1 F.2.2.2.2 gX3_write_X3_found rfl rfl rfl (by decide +kernel) ⟨Nat.le_of_ble_eq_true rfl, Nat.le_of_ble_eq_true rfl⟩) [0, 4] rfl rfl (q0 := 0) (ci := 3) rfl rfl rfl hl.1 rfl (Nat.le_of_ble_eq_true rfl) dX3_write_30 ⟨Nat.le_refl _, Nat.le_refl _⟩) hP hD hS hA [0, 4] [1, 2, 3] rfl rfl rfl (by decide) (fun r _ H locs hq hP hD hS => ?_)
      have hP : va_P (eD E) vwCl [(x, .inr (3, fx)), (qS, .inl (eS E, 4, .inr (.inr (.inr (.inr sf))))), (sa, .inr (0, [.int bt_, .int (nI Z), .ref nb])), (nb, .inl (eJ E, 40, .inr (.inl nu))), (qf, .inl (eI E, 7, .inl (fn fd 5)))] H := hP.sub [3, 0, 1, 2, 4] rfl
      have hD : va_D A [(x, .inr (3, fx)), (qS, .inl (eS E, 4, .inr (.inr (.inr (.inr sf))))), (sa, .inr (0, [.int bt_, .int (nI Z), .ref nb])), (nb, .inl (eJ E, 40, .inr (.inl nu))), (qf, .inl (eI E, 7, .inl (fn fd 5)))] := hD.sub [3, 0, 1, 2, 4] (by decide) rfl
      subst hq
      refine lv_i2l (v := ((-1000000006) : Int32).toInt64) F.1 F.2.1 dX3_write_33 rfl ?_
      exact g_retl F hr hlk hS hP hD ((nu, fn fd 5)) (rfl) (by unfold sp_write; rw [if_pos k1, if_pos (of_decide_eq_true k2)]) dX3_write_34
  · refine lv_aload_n F.1 F.2.1 dX3_write_7 rfl (lv_at hl 0 rfl) ?_
    refine lv_ldc (v := (-1000000001)) F.1 F.2.1 F.2.2.2.1 (F.2.2.2.2 _ (mm 1 rfl)) dX3_write_8 ?_
    refine g_goI (wr := [(qS, .inl (eS E, 4, .inr (.inr (.inr (.inr sf))))), (sa, .inr (0, [.int bt_, .int (nI Z), .ref nb])), (nb, .inl (eJ E, 40, .inr (.inl nu)))]) (g_runV (As := [.int (-1000000001)]) (rest := []) F hX hP hD hS hA (c_X3_found l E x fx qf fd (-1000000001) 0 (by first | assumption | rfl) (by decide +kernel) (by decide) H.size) (cwV 1 F.2.2.2.2 gX3_write_X3_found rfl rfl rfl (by decide +kernel) ⟨Nat.le_of_ble_eq_true rfl, Nat.le_of_ble_eq_true rfl⟩) [0, 4] rfl rfl (q0 := 0) (ci := 3) rfl rfl rfl hl.1 rfl (Nat.le_of_ble_eq_true rfl) dX3_write_10 ⟨Nat.le_refl _, Nat.le_refl _⟩) hP hD hS hA [0, 4] [1, 2, 3] rfl rfl rfl (by decide) (fun r _ H locs hq hP hD hS => ?_)
    have hP : va_P (eD E) vwCl [(x, .inr (3, fx)), (qS, .inl (eS E, 4, .inr (.inr (.inr (.inr sf))))), (sa, .inr (0, [.int bt_, .int (nI Z), .ref nb])), (nb, .inl (eJ E, 40, .inr (.inl nu))), (qf, .inl (eI E, 7, .inl (fn fd 0)))] H := hP.sub [3, 0, 1, 2, 4] rfl
    have hD : va_D A [(x, .inr (3, fx)), (qS, .inl (eS E, 4, .inr (.inr (.inr (.inr sf))))), (sa, .inr (0, [.int bt_, .int (nI Z), .ref nb])), (nb, .inl (eJ E, 40, .inr (.inl nu))), (qf, .inl (eI E, 7, .inl (fn fd 0)))] := hD.sub [3, 0, 1, 2, 4] (by decide) rfl
    subst hq
    refine lv_i2l (v := ((-1000000001) : Int32).toInt64) F.1 F.2.1 dX3_write_13 rfl ?_
    exact g_retl F hr hlk hS hP hD ((nu, fn fd 0)) (rfl) (by unfold sp_write; rw [k1]; rfl) dX3_write_14
