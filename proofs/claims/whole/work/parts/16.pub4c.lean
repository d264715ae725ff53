set_option maxHeartbeats 4000000 in
set_option maxRecDepth 100000 in
theorem c_X3_wipe (l : Launch) (E : gE) (x : Nat) (fx : List Value) (tp : Nat) (qb : Nat) (L : Nat) (it1_ : Int32) (pc1 : Int32) (bh1 : Int32) (so1 : Int32) (va1 : Int32) (hx3 : fx[3]? = some (.ref tp)) : gI l yX3_wipe wsX3_wipe ({ frames := 0, cells := 0, slots := 0, locals := 0 }) E [(x, .inr (3, fx)), (tp, .inr (1, [.ref qb, .int (nI L), .int it1_, .int pc1, .int bh1, .int so1, .int va1]))] (fun _ : Unit => [(x, .inr (3, fx)), (tp, .inr (1, [.ref qb, .int (nI 0), .int it1_, .int pc1, .int bh1, .int so1, .int va1]))]) [.ref x] (fun (r : Int32) (_ : Unit) => r = nI L) := by
  have hin1 : ∀ w ∈ wsX10, w ∈ wsX3_wipe := (fun _ h => (List.mem_cons_of_mem _ (List.mem_append_right _ h)))
  have hin3 : ∀ w ∈ wsX30, w ∈ wsX3_wipe := (fun _ h => (List.mem_cons_of_mem _ (List.mem_append_left _ (List.mem_append_right _ h))))
  refine gI.of (cc := cX3_wipe) (maxL := 2) (by decide) rfl (Nat.le_of_ble_eq_true rfl) ?_
  intro pG eG sG mG below meth cG A ls H locs F hr hlk hX hP hD hA hS hl
  have hl : lv_has ls 2 [(0, .ref x)] := hl
  refine lv_aload_n F.1 F.2.1 dX3_wipe_0 rfl (lv_at hl 0 rfl) ?_
  refine g_get F hX hP hin3 0 rfl rfl 3 (by decide) (mm 1 rfl) hx3 dX3_wipe_1 ?_
  refine g_get F hX hP hin1 1 rfl rfl 1 (by decide) (mm 2 rfl) rfl dX3_wipe_4 ?_
  refine lv_istore_n (lv' := [(1, .int (nI L)), (0, .ref x)]) F.1 F.2.1 dX3_wipe_7 rfl hl (by decide) rfl (fun ls hl => ?_)
  refine lv_aload_n F.1 F.2.1 dX3_wipe_8 rfl (lv_at hl 1 rfl) ?_
  refine g_get F hX hP hin3 0 rfl rfl 3 (by decide) (mm 1 rfl) hx3 dX3_wipe_9 ?_
  refine lv_iconst (v := 0) F.1 F.2.1 dX3_wipe_12 (by decide) ?_
  refine g_put F hX hP hD hS hin1 tyX1 tyX1_ok nmX1 1 rfl rfl 1 (by decide) (mm 2 rfl) rfl (rfl) (rfl) (Nat.le_of_ble_eq_true rfl) dX3_wipe_13 (fun H locs hP hD hS => ?_)
  have hP : va_P (eD E) vwCl [(x, .inr (3, fx)), (tp, .inr (1, [.ref qb, .int 0, .int it1_, .int pc1, .int bh1, .int so1, .int va1]))] H := hP
  have hD : va_D A [(x, .inr (3, fx)), (tp, .inr (1, [.ref qb, .int 0, .int it1_, .int pc1, .int bh1, .int so1, .int va1]))] := hD
  refine lv_iload_n F.1 F.2.1 dX3_wipe_16 rfl (lv_at hl 0 rfl) ?_
  exact g_reti F hr hlk (vp_nar_int _) hS hP hD (()) (rfl) (rfl) dX3_wipe_17
set_option maxHeartbeats 4000000 in
set_option maxRecDepth 100000 in
theorem c_X4_wipe (l : Launch) (E : gE) (h : Nat) (qm : Nat) (qk : Nat) (qw : Nat) (kp : Bool) (qf : Nat) (qt : Nat) (L : Nat) (tok : Int32) (beg : Int32) (att : Int32) (val : Int32) (bad : Int32) (qbi : Nat) (qsi : Nat) (qce : Nat) : gI l yX4_wipe wsX4_wipe ({ frames := 0, cells := 0, slots := 0, locals := 0 }) E [(h, .inr (4, [.ref qm, .ref qk, .ref qw, .int (bi kp), .ref qf, .ref qt, .int (nI L), .int tok, .int beg, .int att, .int val, .int bad, .ref qbi, .ref qsi, .ref qce]))] (fun _ : Unit => [(h, .inr (4, [.ref qm, .ref qk, .ref qw, .int (bi kp), .ref qf, .ref qt, .int (nI 0), .int tok, .int beg, .int att, .int val, .int bad, .ref qbi, .ref qsi, .ref qce]))]) [.ref h] (fun (r : Int32) (_ : Unit) => r = nI L) := by
  have hin4 : ∀ w ∈ wsX40, w ∈ wsX4_wipe := (fun _ h => (List.mem_cons_of_mem _ (List.mem_append_right _ h)))
  refine gI.of (cc := cX4_wipe) (maxL := 2) (by decide) rfl (Nat.le_of_ble_eq_true rfl) ?_
  intro pG eG sG mG below meth cG A ls H locs F hr hlk hX hP hD hA hS hl
  have hl : lv_has ls 2 [(0, .ref h)] := hl
  refine lv_aload_n F.1 F.2.1 dX4_wipe_0 rfl (lv_at hl 0 rfl) ?_
  refine g_get F hX hP hin4 0 rfl rfl 6 (by decide) (mm 1 rfl) rfl dX4_wipe_1 ?_
  refine lv_istore_n (lv' := [(1, .int (nI L)), (0, .ref h)]) F.1 F.2.1 dX4_wipe_4 rfl hl (by decide) rfl (fun ls hl => ?_)
  refine lv_aload_n F.1 F.2.1 dX4_wipe_5 rfl (lv_at hl 1 rfl) ?_
  refine lv_iconst (v := 0) F.1 F.2.1 dX4_wipe_6 (by decide) ?_
  refine g_put F hX hP hD hS hin4 tyX4 tyX4_ok nmX4 0 rfl rfl 6 (by decide) (mm 1 rfl) rfl (rfl) (rfl) (Nat.le_of_ble_eq_true rfl) dX4_wipe_7 (fun H locs hP hD hS => ?_)
  have hP : va_P (eD E) vwCl [(h, .inr (4, [.ref qm, .ref qk, .ref qw, .int (bi kp), .ref qf, .ref qt, .int 0, .int tok, .int beg, .int att, .int val, .int bad, .ref qbi, .ref qsi, .ref qce]))] H := hP
  have hD : va_D A [(h, .inr (4, [.ref qm, .ref qk, .ref qw, .int (bi kp), .ref qf, .ref qt, .int 0, .int tok, .int beg, .int att, .int val, .int bad, .ref qbi, .ref qsi, .ref qce]))] := hD
  refine lv_iload_n F.1 F.2.1 dX4_wipe_10 rfl (lv_at hl 0 rfl) ?_
  exact g_reti F hr hlk (vp_nar_int _) hS hP hD (()) (rfl) (rfl) dX4_wipe_11
def sp_count (P L : Nat) (no qu fd : Nat → Int32) (a1 : Int32) : Int32 × (Nat → Int32) := if a1 = 0 then (nI P, fd) else if a1 = 1 then (nI L, fd) else if a1 = 2 then (sumF 0 no 30, fd) else if a1 = 3 then (sumF 0 qu P, fd) else (-1000000001, fn fd 0)
set_option maxHeartbeats 4000000 in
set_option maxRecDepth 100000 in
theorem c_X3_count (l : Launch) (E : gE) (x : Nat) (fx : List Value) (tp : Nat) (qf : Nat) (h : Nat) (mi : Int32) (fo : Int32) (wi : Int32) (sp : Int32) (P : Nat) (wa : Int32) (qn : Nat) (qk : Nat) (qp : Nat) (qq : Nat) (qc : Nat) (qb : Nat) (L : Nat) (it1_ : Int32) (pc1 : Int32) (bh1 : Int32) (so1 : Int32) (va1 : Int32) (no : Nat → Int32) (qu : Nat → Int32) (fd : Nat → Int32) (a1 : Int32) (hx0 : fx[0]? = some (.ref h)) (hx3 : fx[3]? = some (.ref tp)) (hx5 : fx[5]? = some (.ref qf)) (hP8 : P ≤ 8) : gI l yX3_count wsX3_count ({ frames := 2, cells := 0, slots := 0, locals := 44 }) E [(x, .inr (3, fx)), (h, .inr (2, [.int mi, .int fo, .int wi, .int sp, .ref qn, .int (nI P), .ref qk, .ref qp, .ref qq, .ref qc, .int wa])), (qn, .inl (eI E, 30, .inl no)), (qq, .inl (eI E, 8, .inl qu)), (tp, .inr (1, [.ref qb, .int (nI L), .int it1_, .int pc1, .int bh1, .int so1, .int va1])), (qf, .inl (eI E, 7, .inl fd))] (fun u : (Nat → Int32) => [(x, .inr (3, fx)), (h, .inr (2, [.int mi, .int fo, .int wi, .int sp, .ref qn, .int (nI P), .ref qk, .ref qp, .ref qq, .ref qc, .int wa])), (qn, .inl (eI E, 30, .inl no)), (qq, .inl (eI E, 8, .inl qu)), (tp, .inr (1, [.ref qb, .int (nI L), .int it1_, .int pc1, .int bh1, .int so1, .int va1])), (qf, .inl (eI E, 7, .inl u))]) [.ref x, .int a1] (fun (r : Int32) (u : (Nat → Int32)) => (r, u) = sp_count P L no qu fd a1) := by
  have hin1 : ∀ w ∈ wsX10, w ∈ wsX3_count := (fun _ h => (List.mem_cons_of_mem _ (List.mem_append_right _ h)))
  have hin2 : ∀ w ∈ wsX20, w ∈ wsX3_count := (fun _ h => (List.mem_cons_of_mem _ (List.mem_append_left _ (List.mem_append_right _ h))))
  have hin3 : ∀ w ∈ wsX30, w ∈ wsX3_count := (fun _ h => (List.mem_cons_of_mem _ (List.mem_append_left _ (List.mem_append_left _ (List.mem_append_right _ h)))))
  refine gI.of (cc := cX3_count) (maxL := 2) (by decide) rfl (Nat.le_of_ble_eq_true rfl) ?_
  intro pG eG sG mG below meth cG A ls H locs F hr hlk hX hP hD hA hS hl
  have hl : lv_has ls 2 [(0, .ref x), (1, .int a1)] := hl
  refine lv_iload_n F.1 F.2.1 dX3_count_0 rfl (lv_at hl 1 rfl) ?_
  by_cases k1 : a1 = 0
  · refine g_top 0 k1 ?_
    refine lv_tableIn (tgt := 32) F.1 F.2.1 dX3_count_1 (by decide) (by decide) rfl (by decide) ?_
    refine lv_aload_n F.1 F.2.1 dX3_count_32 rfl (lv_at hl 0 rfl) ?_
    refine g_get F hX hP hin3 0 rfl rfl 0 (by decide) (mm 1 rfl) hx0 dX3_count_33 ?_
    refine g_get F hX hP hin2 1 rfl rfl 5 (by decide) (mm 2 rfl) rfl dX3_count_36 ?_
    exact g_reti F hr hlk (vp_nar_int _) hS hP hD (fd) (rfl) (by unfold sp_count; (try simp only [and_self, true_and, and_true, if_true, Bool.false_eq_true, false_and, and_false, if_false]); all_goals simp [k1]) dX3_count_39
  by_cases k2 : a1 = 1
  · refine g_top 1 k2 ?_
    refine lv_tableIn (tgt := 40) F.1 F.2.1 dX3_count_1 (by decide) (by decide) rfl (by decide) ?_
    refine lv_aload_n F.1 F.2.1 dX3_count_40 rfl (lv_at hl 0 rfl) ?_
    refine g_get F hX hP hin3 0 rfl rfl 3 (by decide) (mm 3 rfl) hx3 dX3_count_41 ?_
    refine g_get F hX hP hin1 4 rfl rfl 1 (by decide) (mm 4 rfl) rfl dX3_count_44 ?_
    exact g_reti F hr hlk (vp_nar_int _) hS hP hD (fd) (rfl) (by unfold sp_count; (try simp only [and_self, true_and, and_true, if_true, Bool.false_eq_true, false_and, and_false, if_false]); all_goals simp [k1, k2]) dX3_count_47
  by_cases k3 : a1 = 2
  · refine g_top 2 k3 ?_
    refine lv_tableIn (tgt := 48) F.1 F.2.1 dX3_count_1 (by decide) (by decide) rfl (by decide) ?_
    refine lv_aload_n F.1 F.2.1 dX3_count_48 rfl (lv_at hl 0 rfl) ?_
    refine g_get F hX hP hin3 0 rfl rfl 0 (by decide) (mm 1 rfl) hx0 dX3_count_49 ?_
    refine g_goIr (g_runV (As := []) (rest := []) F hX hP hD hS hA (c_X2_noiseOfAll l E h mi fo wi sp P wa qn qk qp qq qc no H.size) (cwV 0 F.2.2.2.2 gX3_count_X2_noiseOfAll rfl rfl rfl (by decide +kernel) ⟨Nat.le_of_ble_eq_true rfl, Nat.le_of_ble_eq_true rfl⟩) [1, 2] rfl rfl (q0 := 1) (ci := 2) rfl rfl rfl hl.1 rfl (Nat.le_of_ble_eq_true rfl) dX3_count_52 ⟨Nat.le_refl _, Nat.le_refl _⟩) hP hD hS hA [1, 2] rfl (fun r _ H locs hq hP hS => ?_)
    subst hq
    exact g_reti F hr hlk (vp_nar_int _) hS hP hD (fd) (rfl) (by unfold sp_count; (try simp only [and_self, true_and, and_true, if_true, Bool.false_eq_true, false_and, and_false, if_false]); all_goals simp [k1, k2, k3]) dX3_count_55
  by_cases k4 : a1 = 3
  · refine g_top 3 k4 ?_
    refine lv_tableIn (tgt := 56) F.1 F.2.1 dX3_count_1 (by decide) (by decide) rfl (by decide) ?_
    refine lv_aload_n F.1 F.2.1 dX3_count_56 rfl (lv_at hl 0 rfl) ?_
    refine g_get F hX hP hin3 0 rfl rfl 0 (by decide) (mm 1 rfl) hx0 dX3_count_57 ?_
    refine g_goIr (g_runV (As := []) (rest := []) F hX hP hD hS hA (c_X2_quietOfAll l E h mi fo wi sp P wa qn qk qp qq qc qu (by first | assumption | omega) H.size) (cwV 0 F.2.2.2.2 gX3_count_X2_quietOfAll rfl rfl rfl (by decide +kernel) ⟨Nat.le_of_ble_eq_true rfl, Nat.le_of_ble_eq_true rfl⟩) [1, 3] rfl rfl (q0 := 1) (ci := 2) rfl rfl rfl hl.1 rfl (Nat.le_of_ble_eq_true rfl) dX3_count_60 ⟨Nat.le_refl _, Nat.le_refl _⟩) hP hD hS hA [1, 3] rfl (fun r _ H locs hq hP hS => ?_)
    subst hq
    exact g_reti F hr hlk (vp_nar_int _) hS hP hD (fd) (rfl) (by unfold sp_count; (try simp only [and_self, true_and, and_true, if_true, Bool.false_eq_true, false_and, and_false, if_false]); all_goals simp [k1, k2, k3, k4]) dX3_count_63
  refine lv_tableOut (tgt := 64) F.1 F.2.1 dX3_count_1 (t_out a1 0 3 (fun kk h1 h2 => by rcases (show kk = 0 ∨ kk = 1 ∨ kk = 2 ∨ kk = 3 by omega) with rfl | rfl | rfl | rfl <;> assumption)) (by decide) ?_
  refine lv_aload_n F.1 F.2.1 dX3_count_64 rfl (lv_at hl 0 rfl) ?_
  refine lv_ldc (v := (-1000000001)) F.1 F.2.1 F.2.2.2.1 (F.2.2.2.2 _ (mm 5 rfl)) dX3_count_65 ?_
  refine g_goI (wr := [(h, .inr (2, [.int mi, .int fo, .int wi, .int sp, .ref qn, .int (nI P), .ref qk, .ref qp, .ref qq, .ref qc, .int wa])), (qn, .inl (eI E, 30, .inl no)), (qq, .inl (eI E, 8, .inl qu)), (tp, .inr (1, [.ref qb, .int (nI L), .int it1_, .int pc1, .int bh1, .int so1, .int va1]))]) (g_runV (As := [.int (-1000000001)]) (rest := []) F hX hP hD hS hA (c_X3_found l E x fx qf fd (-1000000001) 0 (by first | assumption | rfl) (by decide +kernel) (by decide) H.size) (cwV 1 F.2.2.2.2 gX3_count_X3_found rfl rfl rfl (by decide +kernel) ⟨Nat.le_of_ble_eq_true rfl, Nat.le_of_ble_eq_true rfl⟩) [0, 5] rfl rfl (q0 := 0) (ci := 3) rfl rfl rfl hl.1 rfl (Nat.le_of_ble_eq_true rfl) dX3_count_67 ⟨Nat.le_refl _, Nat.le_refl _⟩) hP hD hS hA [0, 5] [1, 2, 3, 4] rfl rfl rfl (by decide) (fun r _ H locs hq hP hD hS => ?_)
  have hP : va_P (eD E) vwCl [(x, .inr (3, fx)), (h, .inr (2, [.int mi, .int fo, .int wi, .int sp, .ref qn, .int (nI P), .ref qk, .ref qp, .ref qq, .ref qc, .int wa])), (qn, .inl (eI E, 30, .inl no)), (qq, .inl (eI E, 8, .inl qu)), (tp, .inr (1, [.ref qb, .int (nI L), .int it1_, .int pc1, .int bh1, .int so1, .int va1])), (qf, .inl (eI E, 7, .inl (fn fd 0)))] H := hP.sub [4, 0, 1, 2, 3, 5] rfl
  have hD : va_D A [(x, .inr (3, fx)), (h, .inr (2, [.int mi, .int fo, .int wi, .int sp, .ref qn, .int (nI P), .ref qk, .ref qp, .ref qq, .ref qc, .int wa])), (qn, .inl (eI E, 30, .inl no)), (qq, .inl (eI E, 8, .inl qu)), (tp, .inr (1, [.ref qb, .int (nI L), .int it1_, .int pc1, .int bh1, .int so1, .int va1])), (qf, .inl (eI E, 7, .inl (fn fd 0)))] := hD.sub [4, 0, 1, 2, 3, 5] (by decide) rfl
  subst hq
  exact g_reti F hr hlk (vp_nar_int _) hS hP hD (fn fd 0) (rfl) (by unfold sp_count; (try simp only [and_self, true_and, and_true, if_true, Bool.false_eq_true, false_and, and_false, if_false]); all_goals simp [k1, k2, k3, k4]) dX3_count_70
set_option maxHeartbeats 4000000 in
set_option maxRecDepth 100000 in
theorem c_X4_allNoise (l : Launch) (E : gE) (h : Nat) (fs : List Value) (qm : Nat) (m : Nat → Int32) (hf0 : fs[0]? = some (.ref qm)) : gI l yX4_allNoise wsX4_allNoise ({ frames := 0, cells := 0, slots := 0, locals := 0 }) E [(h, .inr (4, fs)), (qm, .inl (eI E, 75, .inl m))] (fun _ : Unit => [(h, .inr (4, fs)), (qm, .inl (eI E, 75, .inl m))]) [.ref h] (fun (r : Int32) (_ : Unit) => r = sumF 0 (fun g => m (5 + g)) 30) := by
  have hin4 : ∀ w ∈ wsX40, w ∈ wsX4_allNoise := (fun _ h => (List.mem_cons_of_mem _ (List.mem_append_right _ h)))
  refine gI.of (cc := cX4_allNoise) (maxL := 3) (by decide) rfl (Nat.le_of_ble_eq_true rfl) ?_
  intro pG eG sG mG below meth cG A ls H locs F hr hlk hX hP hD hA hS hl
  have hl : lv_has ls 3 [(0, .ref h)] := hl
  refine lv_iconst (v := 0) F.1 F.2.1 dX4_allNoise_0 (by decide) ?_
  refine lv_istore_n (lv' := [(1, .int 0), (0, .ref h)]) F.1 F.2.1 dX4_allNoise_1 rfl hl (by decide) rfl (fun ls hl => ?_)
  refine lv_iconst (v := 0) F.1 F.2.1 dX4_allNoise_2 (by decide) ?_
  refine lv_istore_n (lv' := [(2, .int 0), (1, .int 0), (0, .ref h)]) F.1 F.2.1 dX4_allNoise_3 rfl hl (by decide) rfl (fun ls hl => ?_)
  have lp4 : ∀ (fu i : Nat), i ≤ 30 → 30 + 1 ≤ i + fu → ∀ (H : Heap) (locs : List Loc) (ls : Array Slot), va_P (eD E) vwCl [(h, .inr (4, fs)), (qm, .inl (eI E, 75, .inl m))] H → va_D A [(h, .inr (4, fs)), (qm, .inl (eI E, 75, .inl m))] → va_S A sG.heap H locs → lv_has ls 3 [(2, .int (nI i)), (1, .int (sumF 0 (fun g => m (5 + g)) i)), (0, .ref h)] → W pG l eG { frames := 0, cells := 0, slots := 0, locals := 0 } sG mG [.ref h].toArray below meth cG H locs 0 0 (MQ below (va_Qi (fun (r : Int32) (_ : Unit) => r = sumF 0 (fun g => m (5 + g)) 30) (gR E (fun _ : Unit => [(h, .inr (4, fs)), (qm, .inl (eI E, 75, .inl m))]) A) A) [.ref h].toArray sG 0 0 A) (F0 mG 4 ls []) := by
    intro fu
    induction fu with
    | zero => intro i h1 h2; exact absurd h2 (by omega)
    | succ fu ih =>
      intro i hi hin   H locs ls hP hD hS hl
      refine lv_iload_n F.1 F.2.1 dX4_allNoise_4 rfl (lv_at hl 0 rfl) ?_
      refine lv_bipush (v := 30) F.1 F.2.1 dX4_allNoise_5 (by decide) ?_
      refine lv_icmp_ge (tgt := 27) F.1 F.2.1 dX4_allNoise_7 (by decide) (fun k1 => ?_) (fun k1 => ?_)
      · have hiN : 30 = i := Nat.le_antisymm ((nI_leI (by omega) (by omega)).mp k1) hi
        subst hiN
        refine lv_iload_n F.1 F.2.1 dX4_allNoise_27 rfl (lv_at hl 1 rfl) ?_
        exact g_reti F hr hlk (vp_nar_int _) hS hP hD (()) (rfl) (rfl) dX4_allNoise_28
      · have hiN : i < 30 := Nat.lt_of_not_le (fun h => k1 (nI_le h (by omega)))
        refine lv_iload_n F.1 F.2.1 dX4_allNoise_10 rfl (lv_at hl 1 rfl) ?_
        refine lv_aload_n F.1 F.2.1 dX4_allNoise_11 rfl (lv_at hl 2 rfl) ?_
        refine g_get F hX hP hin4 0 rfl rfl 0 (by decide) (mm 1 rfl) hf0 dX4_allNoise_12 ?_
        refine lv_iconst (v := 5) F.1 F.2.1 dX4_allNoise_15 (by decide) ?_
        refine lv_iload_n F.1 F.2.1 dX4_allNoise_16 rfl (lv_at hl 0 rfl) ?_
        refine lv_iadd F.1 F.2.1 dX4_allNoise_17 ?_
        refine g_iald F hX hP 1 rfl (j := 5 + i) (nI_add 5 i) (by omega) (by decide) dX4_allNoise_18 ?_
        refine lv_iadd F.1 F.2.1 dX4_allNoise_19 ?_
        refine lv_istore_n (lv' := [(1, .int ((sumF 0 (fun g => m (5 + g)) i) + (m (5 + i)))), (2, .int (nI i)), (0, .ref h)]) F.1 F.2.1 dX4_allNoise_20 rfl hl (by decide) rfl (fun ls hl => ?_)
        refine lv_iinc (v := nI (i + 1)) (lv' := [(2, .int (nI (i + 1))), (1, .int ((sumF 0 (fun g => m (5 + g)) i) + (m (5 + i)))), (0, .ref h)]) F.1 F.2.1 dX4_allNoise_21 hl (k := 1) rfl (nI_1 _) (by decide) rfl (fun ls hl => ?_)
        refine lv_goto (tgt := 4) F.1 F.2.1 dX4_allNoise_24 (by decide) ?_
        exact ih (i + 1) (by omega) (by omega)  _ _ _ hP hD hS (lv_sub hl [0, 1, 2] rfl)
  exact lp4 (30 + 1) 0 (by omega) (by omega)  _ _ _ hP hD hS (lv_sub hl [0, 1, 2] rfl)
set_option maxHeartbeats 4000000 in
set_option maxRecDepth 100000 in
theorem c_X4_count (l : Launch) (E : gE) (h : Nat) (qm : Nat) (qk : Nat) (qw : Nat) (kp : Bool) (qf : Nat) (qt : Nat) (L : Nat) (tok : Int32) (beg : Int32) (att : Int32) (val : Int32) (bad : Int32) (qbi : Nat) (qsi : Nat) (qce : Nat) (m : Nat → Int32) (fd : Nat → Int32) (P : Nat) (a1 : Int32) (hm4 : m 4 = nI P) (hP8 : P ≤ 8) : gI l yX4_count wsX4_count ({ frames := 2, cells := 0, slots := 0, locals := 45 }) E [(h, .inr (4, [.ref qm, .ref qk, .ref qw, .int (bi kp), .ref qf, .ref qt, .int (nI L), .int tok, .int beg, .int att, .int val, .int bad, .ref qbi, .ref qsi, .ref qce])), (qm, .inl (eI E, 75, .inl m)), (qf, .inl (eI E, 7, .inl fd))] (fun u : (Nat → Int32) => [(h, .inr (4, [.ref qm, .ref qk, .ref qw, .int (bi kp), .ref qf, .ref qt, .int (nI L), .int tok, .int beg, .int att, .int val, .int bad, .ref qbi, .ref qsi, .ref qce])), (qm, .inl (eI E, 75, .inl m)), (qf, .inl (eI E, 7, .inl u))]) [.ref h, .int a1] (fun (r : Int32) (u : (Nat → Int32)) => (r, u) = sp_count P L (fun g => m (5 + g)) (fun j => pf m j 2) fd a1) := by
  have hin4 : ∀ w ∈ wsX40, w ∈ wsX4_count := (fun _ h => (List.mem_cons_of_mem _ (List.mem_append_right _ h)))
  refine gI.of (cc := cX4_count) (maxL := 2) (by decide) rfl (Nat.le_of_ble_eq_true rfl) ?_
  intro pG eG sG mG below meth cG A ls H locs F hr hlk hX hP hD hA hS hl
  have hl : lv_has ls 2 [(0, .ref h), (1, .int a1)] := hl
  refine lv_iload_n F.1 F.2.1 dX4_count_0 rfl (lv_at hl 1 rfl) ?_
  by_cases k1 : a1 = 0
  · refine g_top 0 k1 ?_
    refine lv_tableIn (tgt := 32) F.1 F.2.1 dX4_count_1 (by decide) (by decide) rfl (by decide) ?_
    refine lv_aload_n F.1 F.2.1 dX4_count_32 rfl (lv_at hl 0 rfl) ?_
    refine g_get F hX hP hin4 0 rfl rfl 0 (by decide) (mm 1 rfl) rfl dX4_count_33 ?_
    refine lv_iconst (v := 4) F.1 F.2.1 dX4_count_36 (by decide) ?_
    refine g_iald F hX hP 1 rfl (j := 4) (rfl) (by decide) (by decide) dX4_count_37 ?_
    refine g_top (nI P) (hm4) ?_
    exact g_reti F hr hlk (vp_nar_int _) hS hP hD (fd) (rfl) (by unfold sp_count; (try simp only [and_self, true_and, and_true, if_true, Bool.false_eq_true, false_and, and_false, if_false]); all_goals simp [fn, k1]) dX4_count_38
  by_cases k2 : a1 = 1
  · refine g_top 1 k2 ?_
    refine lv_tableIn (tgt := 39) F.1 F.2.1 dX4_count_1 (by decide) (by decide) rfl (by decide) ?_
    refine lv_aload_n F.1 F.2.1 dX4_count_39 rfl (lv_at hl 0 rfl) ?_
    refine g_get F hX hP hin4 0 rfl rfl 6 (by decide) (mm 2 rfl) rfl dX4_count_40 ?_
    exact g_reti F hr hlk (vp_nar_int _) hS hP hD (fd) (rfl) (by unfold sp_count; (try simp only [and_self, true_and, and_true, if_true, Bool.false_eq_true, false_and, and_false, if_false]); all_goals simp [fn, k1, k2]) dX4_count_43
  by_cases k3 : a1 = 2
  · refine g_top 2 k3 ?_
    refine lv_tableIn (tgt := 44) F.1 F.2.1 dX4_count_1 (by decide) (by decide) rfl (by decide) ?_
    refine lv_aload_n F.1 F.2.1 dX4_count_44 rfl (lv_at hl 0 rfl) ?_
    refine g_goIr (g_runV (As := []) (rest := []) F hX hP hD hS hA (c_X4_allNoise l E h [.ref qm, .ref qk, .ref qw, .int (bi kp), .ref qf, .ref qt, .int (nI L), .int tok, .int beg, .int att, .int val, .int bad, .ref qbi, .ref qsi, .ref qce] qm m (by first | assumption | rfl) H.size) (cwV 0 F.2.2.2.2 gX4_count_X4_allNoise rfl rfl rfl (by decide +kernel) ⟨Nat.le_of_ble_eq_true rfl, Nat.le_of_ble_eq_true rfl⟩) [0, 1] rfl rfl (q0 := 0) (ci := 4) rfl rfl rfl hl.1 rfl (Nat.le_of_ble_eq_true rfl) dX4_count_45 ⟨Nat.le_refl _, Nat.le_refl _⟩) hP hD hS hA [0, 1] rfl (fun r _ H locs hq hP hS => ?_)
    subst hq
    exact g_reti F hr hlk (vp_nar_int _) hS hP hD (fd) (rfl) (by unfold sp_count; (try simp only [and_self, true_and, and_true, if_true, Bool.false_eq_true, false_and, and_false, if_false]); all_goals simp [fn, k1, k2, k3]) dX4_count_48
  by_cases k4 : a1 = 3
  · refine g_top 3 k4 ?_
    refine lv_tableIn (tgt := 49) F.1 F.2.1 dX4_count_1 (by decide) (by decide) rfl (by decide) ?_
    refine lv_aload_n F.1 F.2.1 dX4_count_49 rfl (lv_at hl 0 rfl) ?_
    refine lv_iconst (v := 2) F.1 F.2.1 dX4_count_50 (by decide) ?_
    refine g_goIr (g_runV (As := [.int 2]) (rest := []) F hX hP hD hS hA (c_X4_sums l E h [.ref qm, .ref qk, .ref qw, .int (bi kp), .ref qf, .ref qt, .int (nI L), .int tok, .int beg, .int att, .int val, .int bad, .ref qbi, .ref qsi, .ref qce] qm m P 2 (by first | assumption | rfl) (by first | assumption | omega) (by first | assumption | omega) (by decide) H.size) (cwV 1 F.2.2.2.2 gX4_count_X4_sums rfl rfl rfl (by decide +kernel) ⟨Nat.le_of_ble_eq_true rfl, Nat.le_of_ble_eq_true rfl⟩) [0, 1] rfl rfl (q0 := 0) (ci := 4) rfl rfl rfl hl.1 rfl (Nat.le_of_ble_eq_true rfl) dX4_count_51 ⟨Nat.le_refl _, Nat.le_refl _⟩) hP hD hS hA [0, 1] rfl (fun r _ H locs hq hP hS => ?_)
    subst hq
    exact g_reti F hr hlk (vp_nar_int _) hS hP hD (fd) (rfl) (by unfold sp_count; (try simp only [and_self, true_and, and_true, if_true, Bool.false_eq_true, false_and, and_false, if_false]); all_goals simp [fn, k1, k2, k3, k4]) dX4_count_54
  refine lv_tableOut (tgt := 55) F.1 F.2.1 dX4_count_1 (t_out a1 0 3 (fun kk h1 h2 => by rcases (show kk = 0 ∨ kk = 1 ∨ kk = 2 ∨ kk = 3 by omega) with rfl | rfl | rfl | rfl <;> assumption)) (by decide) ?_
  refine lv_aload_n F.1 F.2.1 dX4_count_55 rfl (lv_at hl 0 rfl) ?_
  refine lv_ldc (v := (-1000000001)) F.1 F.2.1 F.2.2.2.1 (F.2.2.2.2 _ (mm 3 rfl)) dX4_count_56 ?_
  refine g_goI (wr := [(qm, .inl (eI E, 75, .inl m))]) (g_runV (As := [.int (-1000000001)]) (rest := []) F hX hP hD hS hA (c_X4_finds l E h [.ref qm, .ref qk, .ref qw, .int (bi kp), .ref qf, .ref qt, .int (nI L), .int tok, .int beg, .int att, .int val, .int bad, .ref qbi, .ref qsi, .ref qce] qf fd (-1000000001) 0 (by first | assumption | rfl) (by decide +kernel) (by decide) H.size) (cwV 1 F.2.2.2.2 gX4_count_X4_finds rfl rfl rfl (by decide +kernel) ⟨Nat.le_of_ble_eq_true rfl, Nat.le_of_ble_eq_true rfl⟩) [0, 2] rfl rfl (q0 := 0) (ci := 4) rfl rfl rfl hl.1 rfl (Nat.le_of_ble_eq_true rfl) dX4_count_58 ⟨Nat.le_refl _, Nat.le_refl _⟩) hP hD hS hA [0, 2] [1] rfl rfl rfl (by decide) (fun r _ H locs hq hP hD hS => ?_)
  have hP : va_P (eD E) vwCl [(h, .inr (4, [.ref qm, .ref qk, .ref qw, .int (bi kp), .ref qf, .ref qt, .int (nI L), .int tok, .int beg, .int att, .int val, .int bad, .ref qbi, .ref qsi, .ref qce])), (qm, .inl (eI E, 75, .inl m)), (qf, .inl (eI E, 7, .inl (upd fd 0 (fd 0 + 1))))] H := hP.sub [1, 0, 2] rfl
  have hD : va_D A [(h, .inr (4, [.ref qm, .ref qk, .ref qw, .int (bi kp), .ref qf, .ref qt, .int (nI L), .int tok, .int beg, .int att, .int val, .int bad, .ref qbi, .ref qsi, .ref qce])), (qm, .inl (eI E, 75, .inl m)), (qf, .inl (eI E, 7, .inl (upd fd 0 (fd 0 + 1))))] := hD.sub [1, 0, 2] (by decide) rfl
  subst hq
  exact g_reti F hr hlk (vp_nar_int _) hS hP hD (upd fd 0 (fd 0 + 1)) (rfl) (by unfold sp_count; (try simp only [and_self, true_and, and_true, if_true, Bool.false_eq_true, false_and, and_false, if_false]); all_goals simp [fn, k1, k2, k3, k4]) dX4_count_61
