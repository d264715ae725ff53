/-! the reference: what is best -/
def wdB (had : Int32) (S : Nat → Int32) (b : Int32) (i : Nat) : Prop := (b = -1 ∧ fs1 (fun n => !decide (had < S n)) 11 0 = fs1 (fun n => !decide (had < S n)) (11 - i) i) ∨ ∃ n, fs1 (fun n => !decide (had < S n)) 11 0 = some n ∧ b = wdv n
theorem wdB_step {had : Int32} {S : Nat → Int32} {b : Int32} {i : Nat} (hb : wdB had S b i) (hn : ¬ 0 ≤ b) (hi : i < 11) : wdB had S (if had < S i then -1 else wdv i) (i + 1) := by
  rcases hb with ⟨-, h1⟩ | ⟨n, h1, rfl⟩
  · by_cases c : had < S i
    · exact Or.inl ⟨if_pos c, h1.trans (fs1_no (p := fun n => !decide (had < S n)) (by show (!decide _) = false; rw [decide_eq_true c]; rfl) hi)⟩
    · exact Or.inr ⟨i, h1.trans (fs1_yes (p := fun n => !decide (had < S n)) (by show (!decide _) = true; rw [decide_eq_false c]; rfl) (by omega)), if_neg c⟩
  · exact absurd (wdv_ge (by have := fs1_lt _ _ h1; omega)) hn
theorem wdB_end {had : Int32} {S : Nat → Int32} {b : Int32} {i : Nat} {fd : Nat → Int32} (hb : wdB had S b i) (h : i = 11 ∨ 0 ≤ b) : ((if 0 ≤ b then b else -1000000004), (if 0 ≤ b then fd else upd fd 3 (fd 3 + 1))) = (match fs1 (fun n => !decide (had < S n)) 11 0 with | some n => (wdv n, fd) | none => (-1000000004, fn fd 3)) := by
  rcases hb with ⟨rfl, h1⟩ | ⟨n, h1, rfl⟩
  · rcases h with rfl | h
    · rw [h1, fs1_end, if_neg (by decide), if_neg (by decide)]
      rfl
    · exact absurd h (by decide)
  · have hg := wdv_ge (n := n) (by have := fs1_lt _ _ h1; omega)
    rw [h1, if_pos hg, if_pos hg]
def mn_where (P : Nat) (m fd : Nat → Int32) (a1 a2 : Int32) : Int32 × (Nat → Int32) := if inR a1 0 (nI P - 1) = true ∧ inR a2 1 200 = true then ((bst (fun n => pf (itM P (upd m (35 + 5 * ix a1 + 1) (nI (0 + n))) (ix a2)) (ix a1) 2) (fun n => nI (0 + n)) (nI 0, -1) (29 + 1 - 0)).1, fd) else (-1000000001, fn fd 0)
set_option maxHeartbeats 4000000 in
set_option maxRecDepth 100000 in
theorem c_X4_where (l : Launch) (E : gE) (h : Nat) (fs : List Value) (qm : Nat) (qw : Nat) (qf : Nat) (m : Nat → Int32) (w : Nat → Int32) (fd : Nat → Int32) (P : Nat) (a1 : Int32) (a2 : Int32) (hf0 : fs[0]? = some (.ref qm)) (hf2 : fs[2]? = some (.ref qw)) (hf4 : fs[4]? = some (.ref qf)) (hm4 : m 4 = nI P) (hP8 : P ≤ 8) : gI l yX4_where wsX4_where ({ frames := 9, cells := 0, slots := 0, locals := 198 }) E [(h, .inr (4, fs)), (qm, .inl (eI E, 75, .inl m)), (qw, .inl (eI E, 75, .inl w)), (qf, .inl (eI E, 7, .inl fd))] (fun u : ((Nat → Int32)) × ((Nat → Int32)) => [(h, .inr (4, fs)), (qm, .inl (eI E, 75, .inl m)), (qw, .inl (eI E, 75, .inl u.2)), (qf, .inl (eI E, 7, .inl u.1))]) [.ref h, .int a1, .int a2] (fun (r : Int32) (u : ((Nat → Int32)) × ((Nat → Int32))) => (r, u.1) = mn_where P m fd a1 a2) := by
  refine gI.of (cc := cX4_where) (maxL := 3) (by decide) rfl (Nat.le_of_ble_eq_true rfl) ?_
  intro pG eG sG mG below meth cG A ls H locs F hr hlk hX hP hD hA hS hl
  have hl : lv_has ls 3 [(0, .ref h), (1, .int a1), (2, .int a2)] := hl
  refine lv_aload_n F.1 F.2.1 dX4_where_0 rfl (lv_at hl 0 rfl) ?_
  refine lv_iload_n F.1 F.2.1 dX4_where_1 rfl (lv_at hl 1 rfl) ?_
  refine g_goIr (g_runV (As := [.int a1]) (rest := []) F hX hP hD hS hA (c_X4_isPerson l E h fs qm m P a1 (by first | assumption | rfl) (by first | assumption | omega) H.size) (cwV 1 F.2.2.2.2 gX4_where_X4_isPerson rfl rfl rfl (by decide +kernel) ⟨Nat.le_of_ble_eq_true rfl, Nat.le_of_ble_eq_true rfl⟩) [0, 1] rfl rfl (q0 := 0) (ci := 4) rfl rfl rfl hl.1 rfl (Nat.le_of_ble_eq_true rfl) dX4_where_2 ⟨Nat.le_refl _, Nat.le_refl _⟩) hP hD hS hA [0, 1] rfl (fun r _ H locs hq hP hS => ?_)
  subst hq
  refine g_beq (tgt := 40) F dX4_where_5 (by decide) (fun k1 => ?_) (fun k1 => ?_)
  · refine lv_aload_n F.1 F.2.1 dX4_where_40 rfl (lv_at hl 0 rfl) ?_
    refine lv_ldc (v := (-1000000001)) F.1 F.2.1 F.2.2.2.1 (F.2.2.2.2 _ (mm 1 rfl)) dX4_where_41 ?_
    refine g_goI (wr := [(qm, .inl (eI E, 75, .inl m)), (qw, .inl (eI E, 75, .inl w))]) (g_runV (As := [.int (-1000000001)]) (rest := []) F hX hP hD hS hA (c_X4_finds l E h fs qf fd (-1000000001) 0 (by first | assumption | rfl) (by decide +kernel) (by decide) H.size) (cwV 1 F.2.2.2.2 gX4_where_X4_finds rfl rfl rfl (by decide +kernel) ⟨Nat.le_of_ble_eq_true rfl, Nat.le_of_ble_eq_true rfl⟩) [0, 3] rfl rfl (q0 := 0) (ci := 4) rfl rfl rfl hl.1 rfl (Nat.le_of_ble_eq_true rfl) dX4_where_43 ⟨Nat.le_refl _, Nat.le_refl _⟩) hP hD hS hA [0, 3] [1, 2] rfl rfl rfl (by decide) (fun r _ H locs hq hP hD hS => ?_)
    have hP : va_P (eD E) vwCl [(h, .inr (4, fs)), (qm, .inl (eI E, 75, .inl m)), (qw, .inl (eI E, 75, .inl w)), (qf, .inl (eI E, 7, .inl (upd fd 0 (fd 0 + 1))))] H := hP.sub [2, 0, 1, 3] rfl
    have hD : va_D A [(h, .inr (4, fs)), (qm, .inl (eI E, 75, .inl m)), (qw, .inl (eI E, 75, .inl w)), (qf, .inl (eI E, 7, .inl (upd fd 0 (fd 0 + 1))))] := hD.sub [2, 0, 1, 3] (by decide) rfl
    subst hq
    exact g_reti F hr hlk (vp_nar_int _) hS hP hD ((upd fd 0 (fd 0 + 1), w)) (rfl) (by first | (unfold mn_where; rw [if_pos ⟨k1, k2⟩, hqub]; done) | (unfold mn_where; (try simp only [k1, and_self, true_and, and_true, if_true, Bool.false_eq_true, false_and, and_false, if_false]); all_goals simp [fn, k1])) dX4_where_46
  · refine lv_iload_n F.1 F.2.1 dX4_where_8 rfl (lv_at hl 2 rfl) ?_
    refine lv_i2l (v := (a2 : Int32).toInt64) F.1 F.2.1 dX4_where_9 rfl ?_
    refine lv_iconst (v := 1) F.1 F.2.1 dX4_where_10 (by decide) ?_
    refine lv_sipush (v := 200) F.1 F.2.1 dX4_where_11 (by decide) ?_
    refine g_goIr (g_runS (As := [.long ((a2 : Int32).toInt64), .int 1, .int 200]) (rest := []) F hX hP hD hS hA (c_X4_in_i l E a2 1 200 H.size) (va_cwS 3 F.2.2.2.2 gX4_where_X4_in rfl rfl rfl (by decide +kernel) ⟨Nat.le_of_ble_eq_true rfl, Nat.le_of_ble_eq_true rfl⟩) [] rfl rfl rfl hl.1 rfl (Nat.le_of_ble_eq_true rfl) dX4_where_14 ⟨Nat.le_refl _, Nat.le_refl _⟩) hP hD hS hA [] rfl (fun r _ H locs hq hP hS => ?_)
    subst hq
    refine g_beq (tgt := 40) F dX4_where_17 (by decide) (fun k2 => ?_) (fun k2 => ?_)
    · refine lv_aload_n F.1 F.2.1 dX4_where_40 rfl (lv_at hl 0 rfl) ?_
      refine lv_ldc (v := (-1000000001)) F.1 F.2.1 F.2.2.2.1 (F.2.2.2.2 _ (mm 1 rfl)) dX4_where_41 ?_
      refine g_goI (wr := [(qm, .inl (eI E, 75, .inl m)), (qw, .inl (eI E, 75, .inl w))]) (g_runV (As := [.int (-1000000001)]) (rest := []) F hX hP hD hS hA (c_X4_finds l E h fs qf fd (-1000000001) 0 (by first | assumption | rfl) (by decide +kernel) (by decide) H.size) (cwV 1 F.2.2.2.2 gX4_where_X4_finds rfl rfl rfl (by decide +kernel) ⟨Nat.le_of_ble_eq_true rfl, Nat.le_of_ble_eq_true rfl⟩) [0, 3] rfl rfl (q0 := 0) (ci := 4) rfl rfl rfl hl.1 rfl (Nat.le_of_ble_eq_true rfl) dX4_where_43 ⟨Nat.le_refl _, Nat.le_refl _⟩) hP hD hS hA [0, 3] [1, 2] rfl rfl rfl (by decide) (fun r _ H locs hq hP hD hS => ?_)
      have hP : va_P (eD E) vwCl [(h, .inr (4, fs)), (qm, .inl (eI E, 75, .inl m)), (qw, .inl (eI E, 75, .inl w)), (qf, .inl (eI E, 7, .inl (upd fd 0 (fd 0 + 1))))] H := hP.sub [2, 0, 1, 3] rfl
      have hD : va_D A [(h, .inr (4, fs)), (qm, .inl (eI E, 75, .inl m)), (qw, .inl (eI E, 75, .inl w)), (qf, .inl (eI E, 7, .inl (upd fd 0 (fd 0 + 1))))] := hD.sub [2, 0, 1, 3] (by decide) rfl
      subst hq
      exact g_reti F hr hlk (vp_nar_int _) hS hP hD ((upd fd 0 (fd 0 + 1), w)) (rfl) (by first | (unfold mn_where; rw [if_pos ⟨k1, k2⟩, hqub]; done) | (unfold mn_where; (try simp only [k1, k2, and_self, true_and, and_true, if_true, Bool.false_eq_true, false_and, and_false, if_false]); all_goals simp [fn, k1, k2])) dX4_where_46
    · obtain ⟨e_a1, b_a1⟩ := ix_person k1 hP8
      have hl : lv_has ls 3 [(0, .ref h), (1, .int (nI (ix a1))), (2, .int a2)] := by rw [← e_a1]; exact hl
      obtain ⟨e_a2, b_a2⟩ := ix_of 200 k2 (by decide) (by decide)
      have hl : lv_has ls 3 [(0, .ref h), (1, .int (nI (ix a1))), (2, .int (nI (ix a2)))] := by rw [← e_a2]; exact hl
      refine lv_aload_n F.1 F.2.1 dX4_where_20 rfl (lv_at hl 0 rfl) ?_
      refine lv_bipush (v := 35) F.1 F.2.1 dX4_where_21 (by decide) ?_
      refine lv_iconst (v := 5) F.1 F.2.1 dX4_where_23 (by decide) ?_
      refine lv_iload_n F.1 F.2.1 dX4_where_24 rfl (lv_at hl 1 rfl) ?_
      refine lv_imul F.1 F.2.1 dX4_where_25 ?_
      refine lv_iadd F.1 F.2.1 dX4_where_26 ?_
      refine lv_iconst (v := 1) F.1 F.2.1 dX4_where_27 (by decide) ?_
      refine lv_iadd F.1 F.2.1 dX4_where_28 ?_
      refine g_top (nI (35 + 5 * ix a1 + 1)) (ix5 (ix a1) 1) ?_
      refine lv_iconst (v := 0) F.1 F.2.1 dX4_where_29 (by decide) ?_
      refine lv_bipush (v := 29) F.1 F.2.1 dX4_where_30 (by decide) ?_
      refine lv_iload_n F.1 F.2.1 dX4_where_32 rfl (lv_at hl 1 rfl) ?_
      refine lv_iload_n F.1 F.2.1 dX4_where_33 rfl (lv_at hl 2 rfl) ?_
      refine g_goI (wr := [(qf, .inl (eI E, 7, .inl fd))]) (g_runV (As := [.int (nI (35 + 5 * ix a1 + 1)), .int 0, .int 29, .int (nI (ix a1)), .int (nI (ix a2))]) (rest := []) F hX hP hD hS hA (c_X4_bestAt_p l E h fs qm qw m w P (35 + 5 * ix a1 + 1) 0 29 (ix a2) (ix a1) (by first | assumption | rfl) (by first | assumption | rfl) (by first | assumption | omega) (by first | assumption | omega) (by omega) (by omega) (by first | assumption | omega) (by first | assumption | omega) H.size) (cwV 5 F.2.2.2.2 gX4_where_X4_bestAt rfl rfl rfl (by decide +kernel) ⟨Nat.le_of_ble_eq_true rfl, Nat.le_of_ble_eq_true rfl⟩) [0, 1, 2] rfl rfl (q0 := 0) (ci := 4) rfl rfl rfl hl.1 rfl (Nat.le_of_ble_eq_true rfl) dX4_where_34 ⟨Nat.le_refl _, Nat.le_refl _⟩) hP hD hS hA [0, 1, 2] [3] rfl rfl rfl (by decide) (fun r ub H locs hqub hP hD hS => ?_)
      have hP : va_P (eD E) vwCl [(h, .inr (4, fs)), (qm, .inl (eI E, 75, .inl m)), (qw, .inl (eI E, 75, .inl ub)), (qf, .inl (eI E, 7, .inl fd))] H := hP.sub [1, 2, 3, 0] rfl
      have hD : va_D A [(h, .inr (4, fs)), (qm, .inl (eI E, 75, .inl m)), (qw, .inl (eI E, 75, .inl ub)), (qf, .inl (eI E, 7, .inl fd))] := hD.sub [1, 2, 3, 0] (by decide) rfl
      obtain ⟨rub, erub⟩ : ∃ z, z = r := ⟨_, rfl⟩
      rw [← erub] at hqub ⊢
      clear erub
      refine lv_goto (tgt := 46) F.1 F.2.1 dX4_where_37 (by decide) ?_
      exact g_reti F hr hlk (vp_nar_int _) hS hP hD ((fd, ub)) (rfl) (by first | (unfold mn_where; rw [if_pos ⟨k1, k2⟩, hqub]; done) | (unfold mn_where; (try simp only [k1, k2, and_self, true_and, and_true, if_true, Bool.false_eq_true, false_and, and_false, if_false]); all_goals simp [fn, k1, k2])) dX4_where_46
