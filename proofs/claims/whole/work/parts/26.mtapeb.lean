set_option maxHeartbeats 4000000 in
set_option maxRecDepth 100000 in
theorem c_X4_wordHere (l : Launch) (E : gE) (h : Nat) (qm : Nat) (qk : Nat) (qw : Nat) (kp : Bool) (qf : Nat) (qt : Nat) (L : Nat) (qbi : Nat) (qsi : Nat) (qce : Nat) (tok : Int32) (val : Int32) (bad : Int32) (by1 : Nat → Int32) (p : Nat) (q : Nat) (hL : L ≤ 120) (hpq : p ≤ q ∧ q ≤ L) : gI l yX4_wordHere wsX4_wordHere ({ frames := 1, cells := 0, slots := 0, locals := 24 }) E [(h, .inr (4, [.ref qm, .ref qk, .ref qw, .int (bi kp), .ref qf, .ref qt, .int (nI L), .int tok, .int (nI p), .int (nI q), .int val, .int bad, .ref qbi, .ref qsi, .ref qce])), (qt, .inl (eI E, 120, .inl by1))] (fun _ : Unit => [(h, .inr (4, [.ref qm, .ref qk, .ref qw, .int (bi kp), .ref qf, .ref qt, .int (nI L), .int tok, .int (nI p), .int (nI q), .int val, .int bad, .ref qbi, .ref qsi, .ref qce])), (qt, .inl (eI E, 120, .inl by1))]) [.ref h] (fun (r : Int32) (_ : Unit) => r = tmW by1 p (q - p)) := by
  have hin4 : ∀ w ∈ wsX40, w ∈ wsX4_wordHere := (fun _ h => (List.mem_cons_of_mem _ (List.mem_append_right _ h)))
  refine gI.of (cc := cX4_wordHere) (maxL := 2) (by decide) rfl (Nat.le_of_ble_eq_true rfl) ?_
  intro pG eG sG mG below meth cG A ls H locs F hr hlk hX hP hD hA hS hl
  have hl : lv_has ls 2 [(0, .ref h)] := hl
  refine lv_iconst (v := 0) F.1 F.2.1 dX4_wordHere_0 (by decide) ?_
  refine lv_istore_n (lv' := [(1, .int 0), (0, .ref h)]) F.1 F.2.1 dX4_wordHere_1 rfl hl (by decide) rfl (fun ls hl => ?_)
  have lp2 : ∀ (fu i : Nat), i ≤ 11 → 11 + 1 ≤ i + fu → fs1 (mtM by1 p (q - p)) 11 0 = fs1 (mtM by1 p (q - p)) (11 - i) i → ∀ (H : Heap) (locs : List Loc) (ls : Array Slot), va_P (eD E) vwCl [(h, .inr (4, [.ref qm, .ref qk, .ref qw, .int (bi kp), .ref qf, .ref qt, .int (nI L), .int tok, .int (nI p), .int (nI q), .int val, .int bad, .ref qbi, .ref qsi, .ref qce])), (qt, .inl (eI E, 120, .inl by1))] H → va_D A [(h, .inr (4, [.ref qm, .ref qk, .ref qw, .int (bi kp), .ref qf, .ref qt, .int (nI L), .int tok, .int (nI p), .int (nI q), .int val, .int bad, .ref qbi, .ref qsi, .ref qce])), (qt, .inl (eI E, 120, .inl by1))] → va_S A sG.heap H locs → lv_has ls 2 [(1, .int (nI i)), (0, .ref h)] → W pG l eG { frames := 1, cells := 0, slots := 0, locals := 24 } sG mG [.ref h].toArray below meth cG H locs 0 0 (MQ below (va_Qi (fun (r : Int32) (_ : Unit) => r = tmW by1 p (q - p)) (gR E (fun _ : Unit => [(h, .inr (4, [.ref qm, .ref qk, .ref qw, .int (bi kp), .ref qf, .ref qt, .int (nI L), .int tok, .int (nI p), .int (nI q), .int val, .int bad, .ref qbi, .ref qsi, .ref qce])), (qt, .inl (eI E, 120, .inl by1))]) A) A) [.ref h].toArray sG 0 0 A) (F0 mG 2 ls []) := by
    intro fu
    induction fu with
    | zero => intro i h1 h2; exact absurd h2 (by omega)
    | succ fu ih =>
      intro i hi hin  hsr H locs ls hP hD hS hl
      refine lv_iload_n F.1 F.2.1 dX4_wordHere_2 rfl (lv_at hl 0 rfl) ?_
      refine lv_bipush (v := 11) F.1 F.2.1 dX4_wordHere_3 (by decide) ?_
      refine lv_icmp_ge (tgt := 31) F.1 F.2.1 dX4_wordHere_5 (by decide) (fun k1 => ?_) (fun k1 => ?_)
      · have hiN : 11 = i := Nat.le_antisymm ((nI_leI (by omega) (by omega)).mp k1) hi
        subst hiN
        refine lv_iload_n F.1 F.2.1 dX4_wordHere_31 rfl (lv_at hl 0 rfl) ?_
        refine lv_bipush (v := 11) F.1 F.2.1 dX4_wordHere_32 (by decide) ?_
        refine lv_icmp_ge (tgt := 41) F.1 F.2.1 dX4_wordHere_34 (by decide) (fun k2 => ?_) (fun k2 => ?_)
        · refine lv_bipush (v := 23) F.1 F.2.1 dX4_wordHere_41 (by decide) ?_
          exact g_reti F hr hlk (vp_nar_int _) hS hP hD (()) (rfl) (by first | (unfold tmW; rw [hsr, fs1_yes (p := mtM by1 p (q - p)) hsr (by omega)]; done) | (unfold tmW; rw [hsr, fs1_end]; done) | exact absurd k2 (nI_ge hiN (by decide)) | exact absurd (nI_le (Nat.le_refl 11) (by decide)) k2) dX4_wordHere_43
        · refine lv_iload_n F.1 F.2.1 dX4_wordHere_37 rfl (lv_at hl 0 rfl) ?_
          refine lv_goto (tgt := 43) F.1 F.2.1 dX4_wordHere_38 (by decide) ?_
          exact g_reti F hr hlk (vp_nar_int _) hS hP hD (()) (rfl) (by first | (unfold tmW; rw [hsr, fs1_yes (p := mtM by1 p (q - p)) hsr (by omega)]; done) | (unfold tmW; rw [hsr, fs1_end]; done) | exact absurd k2 (nI_ge hiN (by decide)) | exact absurd (nI_le (Nat.le_refl 11) (by decide)) k2) dX4_wordHere_43
      · have hiN : i < 11 := Nat.lt_of_not_le (fun h => k1 (nI_le h (by omega)))
        refine lv_aload_n F.1 F.2.1 dX4_wordHere_8 rfl (lv_at hl 1 rfl) ?_
        refine lv_iload_n F.1 F.2.1 dX4_wordHere_9 rfl (lv_at hl 0 rfl) ?_
        refine lv_aload_n F.1 F.2.1 dX4_wordHere_10 rfl (lv_at hl 1 rfl) ?_
        refine g_get F hX hP hin4 0 rfl rfl 9 (by decide) (mm 1 rfl) rfl dX4_wordHere_11 ?_
        refine lv_aload_n F.1 F.2.1 dX4_wordHere_14 rfl (lv_at hl 1 rfl) ?_
        refine g_get F hX hP hin4 0 rfl rfl 8 (by decide) (mm 2 rfl) rfl dX4_wordHere_15 ?_
        refine lv_isub F.1 F.2.1 dX4_wordHere_18 ?_
        refine g_top (nI (q - p)) (nI_subN hpq.1 (by omega)) ?_
        refine g_goIr (g_runV (As := [.int (nI i), .int (nI (q - p))]) (rest := []) F hX hP hD hS hA (c_X4_isName l E h qm qk qw kp qf qt L qbi qsi qce tok (nI q) val bad by1 i (q - p) p (by first | assumption | omega) (by omega) (by first | assumption | omega) H.size) (cwV 2 F.2.2.2.2 gX4_wordHere_X4_isName rfl rfl rfl (by decide +kernel) ⟨Nat.le_of_ble_eq_true rfl, Nat.le_of_ble_eq_true rfl⟩) [0, 1] rfl rfl (q0 := 0) (ci := 4) rfl rfl rfl hl.1 rfl (Nat.le_of_ble_eq_true rfl) dX4_wordHere_19 ⟨Nat.le_refl _, Nat.le_refl _⟩) hP hD hS hA [0, 1] rfl (fun r _ H locs hq hP hS => ?_)
        subst hq
        refine g_bne (tgt := 31) F dX4_wordHere_22 (by decide) (fun k3 => ?_) (fun k3 => ?_)
        · refine lv_iload_n F.1 F.2.1 dX4_wordHere_31 rfl (lv_at hl 0 rfl) ?_
          refine lv_bipush (v := 11) F.1 F.2.1 dX4_wordHere_32 (by decide) ?_
          refine lv_icmp_ge (tgt := 41) F.1 F.2.1 dX4_wordHere_34 (by decide) (fun k4 => ?_) (fun k4 => ?_)
          · refine lv_bipush (v := 23) F.1 F.2.1 dX4_wordHere_41 (by decide) ?_
            exact g_reti F hr hlk (vp_nar_int _) hS hP hD (()) (rfl) (by first | (unfold tmW; rw [hsr, fs1_yes (p := mtM by1 p (q - p)) k3 (by omega)]; done) | (unfold tmW; rw [hsr, fs1_end]; done) | exact absurd k4 (nI_ge hiN (by decide)) | exact absurd (nI_le (Nat.le_refl 11) (by decide)) k4) dX4_wordHere_43
          · refine lv_iload_n F.1 F.2.1 dX4_wordHere_37 rfl (lv_at hl 0 rfl) ?_
            refine lv_goto (tgt := 43) F.1 F.2.1 dX4_wordHere_38 (by decide) ?_
            exact g_reti F hr hlk (vp_nar_int _) hS hP hD (()) (rfl) (by first | (unfold tmW; rw [hsr, fs1_yes (p := mtM by1 p (q - p)) k3 (by omega)]; done) | (unfold tmW; rw [hsr, fs1_end]; done) | exact absurd k4 (nI_ge hiN (by decide)) | exact absurd (nI_le (Nat.le_refl 11) (by decide)) k4) dX4_wordHere_43
        · refine lv_iinc (v := nI (i + 1)) (lv' := [(1, .int (nI (i + 1))), (0, .ref h)]) F.1 F.2.1 dX4_wordHere_25 hl (k := 0) rfl (nI_1 _) (by decide) rfl (fun ls hl => ?_)
          refine lv_goto (tgt := 2) F.1 F.2.1 dX4_wordHere_28 (by decide) ?_
          exact ih (i + 1) (by omega) (by omega)  (hsr.trans (fs1_no k3 hiN)) _ _ _ hP hD hS (lv_sub hl [0, 1] rfl)
  exact lp2 (11 + 1) 0 (by omega) (by omega)  (rfl) _ _ _ hP hD hS (lv_sub hl [0, 1] rfl)
section TOKM
variable {by1 : Nat → Int32} {L p : Nat}
theorem tokM3 (h : ¬ p < L) : tq by1 L p = p ∧ tm by1 L p = 22 ∧ vm by1 L p = 0 := by
  unfold tq tm vm; rw [if_neg h, if_neg h, if_neg h]; exact ⟨rfl, rfl, rfl⟩
theorem tokM0 (h : p < L) (h1 : inR (by1 p) 97 122 = true) : tq by1 L p = er by1 97 122 (L - p) p ∧ tm by1 L p = tmW by1 p (er by1 97 122 (L - p) p - p) ∧ vm by1 L p = 0 := by
  have e : tq by1 L p = er by1 97 122 (L - p) p := by unfold tq; rw [if_pos h, h1]; rfl
  refine ⟨e, ?_, ?_⟩
  · unfold tm; rw [if_pos h, h1, e]; rfl
  · unfold vm; rw [if_pos h, h1]; rfl
theorem tokM1 (h : p < L) (h1 : inR (by1 p) 97 122 = false) (h2 : inR (by1 p) 48 57 = true) : tq by1 L p = er by1 48 57 (L - p) p ∧ tm by1 L p = 20 ∧ vm by1 L p = vlM by1 p (er by1 48 57 (L - p) p - p) := by
  have e : tq by1 L p = er by1 48 57 (L - p) p := by unfold tq; rw [if_pos h, h1, h2]; rfl
  refine ⟨e, ?_, ?_⟩
  · unfold tm; rw [if_pos h, h1, h2]; rfl
  · unfold vm; rw [if_pos h, h1, h2, e]; rfl
theorem tokM2 (h : p < L) (h1 : inR (by1 p) 97 122 = false) (h2 : inR (by1 p) 48 57 = false) : tq by1 L p = p + 1 ∧ tm by1 L p = (bif inR (by1 p) 59 59 then 21 else 23) ∧ vm by1 L p = 0 := by
  unfold tq tm vm; rw [if_pos h, if_pos h, if_pos h, h1, h2]; exact ⟨rfl, rfl, rfl⟩
theorem vlM_y {d : Nat} (h : vlM by1 p d ≤ 999) : vlM by1 p (d + 1) = 10 * vlM by1 p d + by1 (p + d) - 48 := if_pos h
theorem vlM_n {d : Nat} (h : ¬ vlM by1 p d ≤ 999) : vlM by1 p (d + 1) = vlM by1 p d := if_neg h
end TOKM
