def fobC (a1 bt_ a2 : Int32) (P : Nat) : Int32 := if inR a1 0 3 = true then (if bt_ = 0 then -1000000006 else if inR a2 0 (nI P - 1) = true then 0 else -1000000001) else -1000000001
def fobK (a1 bt_ : Int32) : Nat := if inR a1 0 3 = true ∧ bt_ = 0 then 5 else 0
theorem fob_k {a1 bt_ a2 : Int32} {P : Nat} (h : ¬ fobC a1 bt_ a2 P = 0) : (-1000000001) - fobC a1 bt_ a2 P = nI (fobK a1 bt_) ∧ fobK a1 bt_ < 7 := by
  unfold fobC fobK at *
  by_cases h1 : inR a1 0 3 = true
  · rw [if_pos h1] at h ⊢
    by_cases h2 : bt_ = 0
    · rw [if_pos h2, if_pos ⟨h1, h2⟩]; decide +kernel
    · rw [if_neg h2] at h ⊢
      rw [if_neg (show ¬ (inR a1 0 3 = true ∧ bt_ = 0) from fun q => h2 q.2)]
      by_cases h3 : inR a2 0 (nI P - 1) = true
      · rw [if_pos h3] at h; exact absurd rfl h
      · rw [if_neg h3]; decide +kernel
  · rw [if_neg h1, if_neg (show ¬ (inR a1 0 3 = true ∧ bt_ = 0) from fun q => h1 q.1)]; decide +kernel
theorem fob_0 {a1 bt_ a2 : Int32} {P : Nat} (h : fobC a1 bt_ a2 P = 0) : inR a1 0 3 = true ∧ ¬ bt_ = 0 ∧ inR a2 0 (nI P - 1) = true := by
  unfold fobC at h
  by_cases h1 : inR a1 0 3 = true
  · rw [if_pos h1] at h
    by_cases h2 : bt_ = 0
    · rw [if_pos h2] at h; exact absurd h (by decide +kernel)
    · rw [if_neg h2] at h
      by_cases h3 : inR a2 0 (nI P - 1) = true
      · exact ⟨h1, h2, h3⟩
      · rw [if_neg h3] at h; exact absurd h (by decide +kernel)
  · rw [if_neg h1] at h; exact absurd h (by decide +kernel)
set_option maxHeartbeats 4000000 in
set_option maxRecDepth 100000 in
theorem c_X3_findingOfBook (l : Launch) (E : gE) (x : Nat) (fx : List Value) (qS : Nat) (h : Nat) (mi : Int32) (fo : Int32) (wi : Int32) (sp : Int32) (P : Nat) (wa : Int32) (qn : Nat) (qk : Nat) (qp : Nat) (qq : Nat) (qc : Nat) (sf : Nat → Option Nat) (sa : Nat) (bt_ : Int32) (Z : Nat) (nb : Nat) (a1 : Int32) (a2 : Int32) (hx0 : fx[0]? = some (.ref h)) (hx4 : fx[4]? = some (.ref qS)) (hsf : inR a1 0 3 = true → sf (ix a1) = some sa) : gI l yX3_findingOfBook wsX3_findingOfBook ({ frames := 2, cells := 0, slots := 0, locals := 43 }) E [(x, .inr (3, fx)), (h, .inr (2, [.int mi, .int fo, .int wi, .int sp, .ref qn, .int (nI P), .ref qk, .ref qp, .ref qq, .ref qc, .int wa])), (qS, .inl (eS E, 4, .inr (.inr (.inr (.inr sf))))), (sa, .inr (0, [.int bt_, .int (nI Z), .ref nb]))] (fun _ : Unit => [(x, .inr (3, fx)), (h, .inr (2, [.int mi, .int fo, .int wi, .int sp, .ref qn, .int (nI P), .ref qk, .ref qp, .ref qq, .ref qc, .int wa])), (qS, .inl (eS E, 4, .inr (.inr (.inr (.inr sf))))), (sa, .inr (0, [.int bt_, .int (nI Z), .ref nb]))]) [.ref x, .int a1, .int a2] (fun (r : Int32) (_ : Unit) => r = fobC a1 bt_ a2 P) := by
  have hin3 : ∀ w ∈ wsX30, w ∈ wsX3_findingOfBook := (fun _ h => (List.mem_cons_of_mem _ (List.mem_append_left _ (List.mem_append_left _ (List.mem_append_right _ h)))))
  refine gI.of (cc := cX3_findingOfBook) (maxL := 3) (by decide) rfl (Nat.le_of_ble_eq_true rfl) ?_
  intro pG eG sG mG below meth cG A ls H locs F hr hlk hX hP hD hA hS hl
  have hl : lv_has ls 3 [(0, .ref x), (1, .int a1), (2, .int a2)] := hl
  refine lv_iload_n F.1 F.2.1 dX3_findingOfBook_0 rfl (lv_at hl 1 rfl) ?_
  refine g_goIr (g_runS (As := [.int a1]) (rest := []) F hX hP hD hS hA (c_X3_isSheet l E a1 H.size) (va_cwS 1 F.2.2.2.2 gX3_findingOfBook_X3_isSheet rfl rfl rfl (by decide +kernel) ⟨Nat.le_of_ble_eq_true rfl, Nat.le_of_ble_eq_true rfl⟩) [] rfl rfl rfl hl.1 rfl (Nat.le_of_ble_eq_true rfl) dX3_findingOfBook_1 ⟨Nat.le_refl _, Nat.le_refl _⟩) hP hD hS hA [] rfl (fun r _ H locs hq hP hS => ?_)
  subst hq
  refine g_bne (tgt := 10) F dX3_findingOfBook_4 (by decide) (fun k1 => ?_) (fun k1 => ?_)
  · obtain ⟨e_a1, b_a1⟩ := ix_of 3 k1 (by decide) (by decide)
    have hl : lv_has ls 3 [(0, .ref x), (1, .int (nI (ix a1))), (2, .int a2)] := by rw [← e_a1]; exact hl
    refine lv_aload_n F.1 F.2.1 dX3_findingOfBook_10 rfl (lv_at hl 0 rfl) ?_
    refine g_get F hX hP hin3 0 rfl rfl 4 (by decide) (mm 2 rfl) hx4 dX3_findingOfBook_11 ?_
    refine lv_iload_n F.1 F.2.1 dX3_findingOfBook_14 rfl (lv_at hl 1 rfl) ?_
    refine g_aald F hX hP 2 rfl (j := ix a1) (rfl) (by omega) (by decide) (v := sa) (hsf k1) dX3_findingOfBook_15 ?_
    refine g_goIr (g_runV (As := []) (rest := []) F hX hP hD hS hA (c_X0_isMissing l E sa bt_ Z nb H.size) (cwV 0 F.2.2.2.2 gX3_findingOfBook_X0_isMissing rfl rfl rfl (by decide +kernel) ⟨Nat.le_of_ble_eq_true rfl, Nat.le_of_ble_eq_true rfl⟩) [3] rfl rfl (q0 := 3) (ci := 0) rfl rfl rfl hl.1 rfl (Nat.le_of_ble_eq_true rfl) dX3_findingOfBook_16 ⟨Nat.le_refl _, Nat.le_refl _⟩) hP hD hS hA [3] rfl (fun r _ H locs hq hP hS => ?_)
    subst hq
    refine g_beq (tgt := 25) F dX3_findingOfBook_19 (by decide) (fun k2 => ?_) (fun k2 => ?_)
    · refine lv_aload_n F.1 F.2.1 dX3_findingOfBook_25 rfl (lv_at hl 0 rfl) ?_
      refine lv_iload_n F.1 F.2.1 dX3_findingOfBook_26 rfl (lv_at hl 2 rfl) ?_
      refine g_goIr (g_runV (As := [.int a2]) (rest := []) F hX hP hD hS hA (c_X3_isPerson l E x fx h mi fo wi sp P wa qn qk qp qq qc a2 (by first | assumption | rfl) H.size) (cwV 1 F.2.2.2.2 gX3_findingOfBook_X3_isPerson rfl rfl rfl (by decide +kernel) ⟨Nat.le_of_ble_eq_true rfl, Nat.le_of_ble_eq_true rfl⟩) [0, 1] rfl rfl (q0 := 0) (ci := 3) rfl rfl rfl hl.1 rfl (Nat.le_of_ble_eq_true rfl) dX3_findingOfBook_27 ⟨Nat.le_refl _, Nat.le_refl _⟩) hP hD hS hA [0, 1] rfl (fun r _ H locs hq hP hS => ?_)
      subst hq
      refine g_beq (tgt := 37) F dX3_findingOfBook_30 (by decide) (fun k3 => ?_) (fun k3 => ?_)
      · refine lv_ldc (v := (-1000000001)) F.1 F.2.1 F.2.2.2.1 (F.2.2.2.2 _ (mm 1 rfl)) dX3_findingOfBook_37 ?_
        exact g_reti F hr hlk (vp_nar_int _) hS hP hD (()) (rfl) (by unfold fobC; rw [if_pos k1, if_neg (of_decide_eq_false k2), k3]; rfl) dX3_findingOfBook_39
      · refine lv_iconst (v := 0) F.1 F.2.1 dX3_findingOfBook_33 (by decide) ?_
        refine lv_goto (tgt := 39) F.1 F.2.1 dX3_findingOfBook_34 (by decide) ?_
        exact g_reti F hr hlk (vp_nar_int _) hS hP hD (()) (rfl) (by unfold fobC; rw [if_pos k1, if_neg (of_decide_eq_false k2), k3]; rfl) dX3_findingOfBook_39
    · refine lv_ldc (v := (-1000000006)) F.1 F.2.1 F.2.2.2.1 (F.2.2.2.2 _ (mm 3 rfl)) dX3_findingOfBook_22 ?_
      exact g_reti F hr hlk (vp_nar_int _) hS hP hD (()) (rfl) (by unfold fobC; rw [if_pos k1, if_pos (of_decide_eq_true k2)]) dX3_findingOfBook_24
  · refine lv_ldc (v := (-1000000001)) F.1 F.2.1 F.2.2.2.1 (F.2.2.2.2 _ (mm 1 rfl)) dX3_findingOfBook_7 ?_
    exact g_reti F hr hlk (vp_nar_int _) hS hP hD (()) (rfl) (by unfold fobC; rw [k1]; rfl) dX3_findingOfBook_9
