/-! the reference: words -/
def inM (v : Int64) (a b : Int32) : Bool := !decide (lg_cmp v a.toInt64 < 0) && !decide (0 < lg_cmp v b.toInt64)
def heldM (v a b : Int32) : Int32 := if a ≤ v then (if v ≤ b then v else b) else a
def pf (m : Nat → Int32) (j k : Nat) : Int32 := m (35 + 5 * j + k)
def pu (m : Nat → Int32) (j k : Nat) (v : Int32) : Nat → Int32 := upd m (35 + 5 * j + k) v
theorem ix5 (j k : Nat) : (35 : Int32) + 5 * nI j + nI k = nI (35 + 5 * j + k) := by
  show nI 35 + nI 5 * nI j + nI k = _
  rw [pk_mul, nI_add, nI_add]
theorem pf_pu_k {m : Nat → Int32} {j k k' : Nat} {v : Int32} (h : k' ≠ k) : pf (pu m j k v) j k' = pf m j k' := if_neg (by omega)
theorem pf_pu_j {m : Nat → Int32} {j j' k k' : Nat} {v : Int32} (h : j' ≠ j) (hk : k < 5) (hk' : k' < 5) : pf (pu m j k v) j' k' = pf m j' k' := if_neg (by omega)
theorem pf_pu_s {m : Nat → Int32} {j k : Nat} {v : Int32} : pf (pu m j k v) j k = v := if_pos rfl
theorem pu_lo {m : Nat → Int32} {j k n : Nat} {v : Int32} (h : n < 35) : pu m j k v n = m n := if_neg (by omega)
theorem fa_wlt (a b : Int32) : a.toInt64 < b.toInt64 ↔ a < b := by
  rw [Int64.lt_iff_toInt_lt, Int32.lt_iff_toInt_lt, Int32.toInt_toInt64, Int32.toInt_toInt64]
theorem inM_i (v a b : Int32) : inM v.toInt64 a b = inR v a b := by
  unfold inM inR
  simp only [lg_cmp_lt, lg_cmp_gt, fa_wlt]
def huM (mi fo wi sp : Int32) : Bool := !decide (day mi < fo) && (!decide (wi ≤ 0) && !decide (29 < eg mi fo sp - wi + 1))
def tkM (mi fo wi sp g : Int32) : Bool := huM mi fo wi sp && (!decide (eg mi fo sp < g) && !decide (g ≤ eg mi fo sp - wi))
def pgM (mi fo wi sp pl : Int32) : Int32 := bif tkM mi fo wi sp pl then sp else 0
def gqM (mi fo wi sp ki pl : Int32) : Int32 := bif huM mi fo wi sp then (if ki = 1 then pgM mi fo wi sp pl else if ki = 2 then cg (eg mi fo sp - pl) else if ki = 3 then heldM (eg mi fo sp - pl) (-4) 4 else if ki = 4 then (bif bell mi then 0 else pgM mi fo wi sp pl) else if ki = 5 then (if eg mi fo sp - pl = 0 then cg (eg mi fo sp - pl) + 1 else cg (eg mi fo sp - pl)) else 0) else (if ki = 3 then -1 else 0)
def taB (b : Bool) (mi ki : Int32) : Int32 := bif b then bi (rg mi ki) else if ki = 1 then 5 else if ki = 2 then 4 else if ki = 3 then 1 else if ki = 4 then (bif rg mi ki then 6 else 5) else if ki = 5 then 3 else 2
def taM (mi fo wi sp ki pl : Int32) : Int32 := taB (tkM mi fo wi sp pl) mi ki
def isInM (m : Nat → Int32) (j : Nat) : Bool := tkM (m 0) (m 1) (m 2) (m 3) (pf m j 1)
def cauM (m : Nat → Int32) (j : Nat) : Bool := isInM m j && (decide (pf m j 4 = 0) && !soC (pf m j 0) (pf m j 3))
def hs1 (m : Nat → Int32) (j : Nat) : Nat → Int32 := pu (pu (pu m j 2 (heldM (pf m j 2 + bi (isInM m j)) 0 9999)) j 3 (heldM (pf m j 3 + bi (cauM m j)) 0 9999)) j 4 (bi (isInM m j))
def hsM (m : Nat → Int32) : Nat → Nat → Int32
  | 0 => m
  | n + 1 => hs1 (hsM m n) n
def mv1 (m : Nat → Int32) (j : Nat) : Nat → Int32 := pu m j 1 (heldM (pf m j 1 + gqM (m 0) (m 1) (m 2) (m 3) (pf m j 0) (pf m j 1)) 0 29)
def mvM (m : Nat → Int32) : Nat → Nat → Int32
  | 0 => m
  | n + 1 => mv1 (mvM m n) n
def goM (P : Nat) (m : Nat → Int32) : Nat → Int32 := upd (mvM (hsM m P) P) 0 (mvM (hsM m P) P 0 + 1)
def itM (P : Nat) (m : Nat → Int32) : Nat → Nat → Int32
  | 0 => m
  | n + 1 => goM P (itM P m n)
theorem hs1_lo (m : Nat → Int32) (j : Nat) {n : Nat} (h : n < 35) : hs1 m j n = m n := by
  unfold hs1
  rw [pu_lo h, pu_lo h, pu_lo h]
theorem hsM_lo (m : Nat → Int32) {n : Nat} (h : n < 35) : ∀ k, hsM m k n = m n
  | 0 => rfl
  | k + 1 => by
    show hs1 (hsM m k) k n = m n
    rw [hs1_lo _ _ h, hsM_lo m h k]
theorem mvM_lo (m : Nat → Int32) {n : Nat} (h : n < 35) : ∀ k, mvM m k n = m n
  | 0 => rfl
  | k + 1 => by
    show mv1 (mvM m k) k n = m n
    unfold mv1
    rw [pu_lo h, mvM_lo m h k]
theorem goM_lo (P : Nat) (m : Nat → Int32) {n : Nat} (h : n < 35) (h0 : n ≠ 0) : goM P m n = m n := by
  unfold goM upd
  rw [if_neg h0, mvM_lo _ h, hsM_lo _ h]
theorem itM_lo (P : Nat) (m : Nat → Int32) {n : Nat} (h : n < 35) (h0 : n ≠ 0) : ∀ k, itM P m k n = m n
  | 0 => rfl
  | k + 1 => by
    show goM P (itM P m k) n = m n
    rw [goM_lo _ _ h h0, itM_lo P m h h0 k]
def whM (m : Nat → Int32) (P : Nat) : Int32 := whoC (fun j => isInM m j) P
def hdM (m : Nat → Int32) (P : Nat) : Int32 := sumF (sumF 0 (fun g => bif tkM (m 0) (m 1) (m 2) (m 3) (nI g) then 0 else m (5 + g)) 30) (fun j => taM (m 0) (m 1) (m 2) (m 3) (pf m j 0) (pf m j 1)) P
set_option maxHeartbeats 4000000 in
set_option maxRecDepth 100000 in
theorem c_X4_finds (l : Launch) (E : gE) (h : Nat) (fs : List Value) (qf : Nat) (fd : Nat → Int32) (f : Int32) (k : Nat) (hf4 : fs[4]? = some (.ref qf)) (hk : (-1000000001) - f = nI k) (hk7 : k < 7) : gI l yX4_finds wsX4_finds ({ frames := 0, cells := 0, slots := 0, locals := 0 }) E [(h, .inr (4, fs)), (qf, .inl (eI E, 7, .inl fd))] (fun _ : Unit => [(h, .inr (4, fs)), (qf, .inl (eI E, 7, .inl (upd fd k (fd k + 1))))]) [.ref h, .int f] (fun (r : Int32) (_ : Unit) => r = f) := by
  have hin4 : ∀ w ∈ wsX40, w ∈ wsX4_finds := (fun _ h => (List.mem_cons_of_mem _ (List.mem_append_right _ h)))
  refine gI.of (cc := cX4_finds) (maxL := 2) (by decide) rfl (Nat.le_of_ble_eq_true rfl) ?_
  intro pG eG sG mG below meth cG A ls H locs F hr hlk hX hP hD hA hS hl
  have hl : lv_has ls 2 [(0, .ref h), (1, .int f)] := hl
  refine lv_aload_n F.1 F.2.1 dX4_finds_0 rfl (lv_at hl 0 rfl) ?_
  refine g_get F hX hP hin4 0 rfl rfl 4 (by decide) (mm 1 rfl) hf4 dX4_finds_1 ?_
  refine lv_ldc (v := (-1000000001)) F.1 F.2.1 F.2.2.2.1 (F.2.2.2.2 _ (mm 2 rfl)) dX4_finds_4 ?_
  refine lv_iload_n F.1 F.2.1 dX4_finds_6 rfl (lv_at hl 1 rfl) ?_
  refine lv_isub F.1 F.2.1 dX4_finds_7 ?_
  refine lv_dup2_11 F.1 F.2.1 dX4_finds_8 rfl rfl ?_
  refine g_iald F hX hP 1 rfl (j := k) (hk) (by omega) (by decide) dX4_finds_9 ?_
  refine lv_iconst (v := 1) F.1 F.2.1 dX4_finds_10 (by decide) ?_
  refine lv_iadd F.1 F.2.1 dX4_finds_11 ?_
  refine g_iast F hX hP hD hS 1 rfl (j := k) (hk) (by omega) (by decide) dX4_finds_12 (fun H locs hP hD hS => ?_)
  have hP : va_P (eD E) vwCl [(h, .inr (4, fs)), (qf, .inl (eI E, 7, .inl (upd fd k ((fd k) + 1))))] H := hP
  have hD : va_D A [(h, .inr (4, fs)), (qf, .inl (eI E, 7, .inl (upd fd k ((fd k) + 1))))] := hD
  refine lv_iload_n F.1 F.2.1 dX4_finds_13 rfl (lv_at hl 1 rfl) ?_
  exact g_reti F hr hlk (vp_nar_int _) hS hP hD (()) (rfl) (rfl) dX4_finds_14
set_option maxHeartbeats 4000000 in
set_option maxRecDepth 100000 in
theorem c_X4_orNone (l : Launch) (E : gE) (h : Nat) (fs : List Value) (qf : Nat) (fd : Nat → Int32) (v : Int32) (hf4 : fs[4]? = some (.ref qf)) : gI l yX4_orNone wsX4_orNone ({ frames := 1, cells := 0, slots := 0, locals := 21 }) E [(h, .inr (4, fs)), (qf, .inl (eI E, 7, .inl fd))] (fun _ : Unit => [(h, .inr (4, fs)), (qf, .inl (eI E, 7, .inl (if 0 ≤ v then fd else upd fd 3 (fd 3 + 1))))]) [.ref h, .int v] (fun (r : Int32) (_ : Unit) => r = (if 0 ≤ v then v else -1000000004)) := by
  refine gI.of (cc := cX4_orNone) (maxL := 2) (by decide) rfl (Nat.le_of_ble_eq_true rfl) ?_
  intro pG eG sG mG below meth cG A ls H locs F hr hlk hX hP hD hA hS hl
  have hl : lv_has ls 2 [(0, .ref h), (1, .int v)] := hl
  refine lv_iload_n F.1 F.2.1 dX4_orNone_0 rfl (lv_at hl 1 rfl) ?_
  refine lv_if_ge (tgt := 13) F.1 F.2.1 dX4_orNone_1 (by decide) (fun k1 => ?_) (fun k1 => ?_)
  · refine lv_iload_n F.1 F.2.1 dX4_orNone_13 rfl (lv_at hl 1 rfl) ?_
    exact g_reti F hr hlk (vp_nar_int _) hS hP hD (()) (by simp only [k1, if_true, if_false]) (by simp only [k1, if_true, if_false]) dX4_orNone_14
  · refine lv_aload_n F.1 F.2.1 dX4_orNone_4 rfl (lv_at hl 0 rfl) ?_
    refine lv_ldc (v := (-1000000004)) F.1 F.2.1 F.2.2.2.1 (F.2.2.2.2 _ (mm 1 rfl)) dX4_orNone_5 ?_
    refine g_goI (wr := []) (g_runV (As := [.int (-1000000004)]) (rest := []) F hX hP hD hS hA (c_X4_finds l E h fs qf fd (-1000000004) 3 (by first | assumption | rfl) (by decide +kernel) (by decide) H.size) (cwV 1 F.2.2.2.2 gX4_orNone_X4_finds rfl rfl rfl (by decide +kernel) ⟨Nat.le_of_ble_eq_true rfl, Nat.le_of_ble_eq_true rfl⟩) [0, 1] rfl rfl (q0 := 0) (ci := 4) rfl rfl rfl hl.1 rfl (Nat.le_of_ble_eq_true rfl) dX4_orNone_7 ⟨Nat.le_refl _, Nat.le_refl _⟩) hP hD hS hA [0, 1] [] rfl rfl rfl (by decide) (fun r _ H locs hq hP hD hS => ?_)
    have hP : va_P (eD E) vwCl [(h, .inr (4, fs)), (qf, .inl (eI E, 7, .inl (upd fd 3 (fd 3 + 1))))] H := hP.sub [0, 1] rfl
    have hD : va_D A [(h, .inr (4, fs)), (qf, .inl (eI E, 7, .inl (upd fd 3 (fd 3 + 1))))] := hD.sub [0, 1] (by decide) rfl
    subst hq
    refine lv_goto (tgt := 14) F.1 F.2.1 dX4_orNone_10 (by decide) ?_
    exact g_reti F hr hlk (vp_nar_int _) hS hP hD (()) (by simp only [k1, if_true, if_false]) (by simp only [k1, if_true, if_false]) dX4_orNone_14
set_option maxHeartbeats 4000000 in
set_option maxRecDepth 100000 in
theorem c_X4_in (l : Launch) (E : gE) (v : Int64) (a : Int32) (b : Int32) : gI l yX4_in wsX4_in ({ frames := 0, cells := 0, slots := 0, locals := 0 }) E [] (fun _ : Unit => []) [.long v, .int a, .int b] (fun (r : Int32) (_ : Unit) => r = bi (inM v a b)) := by
  refine gI.of (cc := cX4_in) (maxL := 4) (by decide) rfl (Nat.le_of_ble_eq_true rfl) ?_
  intro pG eG sG mG below meth cG A ls H locs F hr hlk hX hP hD hA hS hl
  have hl : lv_has ls 4 [(0, .long v), (2, .int a), (3, .int b)] := hl
  refine lv_lload_n F.1 F.2.1 dX4_in_0 rfl (lv_at hl 0 rfl) ?_
  refine lv_iload_n F.1 F.2.1 dX4_in_1 rfl (lv_at hl 1 rfl) ?_
  refine lv_i2l (v := (a : Int32).toInt64) F.1 F.2.1 dX4_in_2 rfl ?_
  refine W.lcmp F.1 F.2.1 dX4_in_3 ?_
  refine lv_if_lt (tgt := 18) F.1 F.2.1 dX4_in_4 (by decide) (fun k1 => ?_) (fun k1 => ?_)
  · refine lv_iconst (v := 0) F.1 F.2.1 dX4_in_18 (by decide) ?_
    exact g_reti F hr hlk rfl hS hP hD (()) (rfl) (by simp [inM, bi, k1]) dX4_in_19
  · refine lv_lload_n F.1 F.2.1 dX4_in_7 rfl (lv_at hl 0 rfl) ?_
    refine lv_iload_n F.1 F.2.1 dX4_in_8 rfl (lv_at hl 2 rfl) ?_
    refine lv_i2l (v := (b : Int32).toInt64) F.1 F.2.1 dX4_in_9 rfl ?_
    refine W.lcmp F.1 F.2.1 dX4_in_10 ?_
    refine lv_if_gt (tgt := 18) F.1 F.2.1 dX4_in_11 (by decide) (fun k2 => ?_) (fun k2 => ?_)
    · refine lv_iconst (v := 0) F.1 F.2.1 dX4_in_18 (by decide) ?_
      exact g_reti F hr hlk rfl hS hP hD (()) (rfl) (by simp [inM, bi, k1, k2]) dX4_in_19
    · refine lv_iconst (v := 1) F.1 F.2.1 dX4_in_14 (by decide) ?_
      refine lv_goto (tgt := 19) F.1 F.2.1 dX4_in_15 (by decide) ?_
      exact g_reti F hr hlk rfl hS hP hD (()) (rfl) (by simp [inM, bi, k1, k2]) dX4_in_19
theorem c_X4_in_i (l : Launch) (E : gE) (v : Int32) (a : Int32) (b : Int32) : gI l yX4_in wsX4_in ({ frames := 0, cells := 0, slots := 0, locals := 0 }) E [] (fun _ : Unit => []) [.long ((v : Int32).toInt64), .int a, .int b] (fun (r : Int32) (_ : Unit) => r = bi (inR v a b)) := by
  rw [← inM_i]
  exact c_X4_in l E v.toInt64 a b
set_option maxHeartbeats 4000000 in
set_option maxRecDepth 100000 in
theorem c_X4_held (l : Launch) (E : gE) (v : Int32) (a : Int32) (b : Int32) : gI l yX4_held wsX4_held ({ frames := 0, cells := 0, slots := 0, locals := 0 }) E [] (fun _ : Unit => []) [.int v, .int a, .int b] (fun (r : Int32) (_ : Unit) => r = heldM v a b) := by
  refine gI.of (cc := cX4_held) (maxL := 3) (by decide) rfl (Nat.le_of_ble_eq_true rfl) ?_
  intro pG eG sG mG below meth cG A ls H locs F hr hlk hX hP hD hA hS hl
  have hl : lv_has ls 3 [(0, .int v), (1, .int a), (2, .int b)] := hl
  refine lv_iload_n F.1 F.2.1 dX4_held_0 rfl (lv_at hl 0 rfl) ?_
  refine lv_iload_n F.1 F.2.1 dX4_held_1 rfl (lv_at hl 1 rfl) ?_
  refine lv_icmp_ge (tgt := 9) F.1 F.2.1 dX4_held_2 (by decide) (fun k1 => ?_) (fun k1 => ?_)
  · refine lv_iload_n F.1 F.2.1 dX4_held_9 rfl (lv_at hl 0 rfl) ?_
    refine lv_iload_n F.1 F.2.1 dX4_held_10 rfl (lv_at hl 2 rfl) ?_
    refine lv_icmp_le (tgt := 18) F.1 F.2.1 dX4_held_11 (by decide) (fun k2 => ?_) (fun k2 => ?_)
    · refine lv_iload_n F.1 F.2.1 dX4_held_18 rfl (lv_at hl 0 rfl) ?_
      exact g_reti F hr hlk (vp_nar_int _) hS hP hD (()) (rfl) (by simp [heldM, k1, k2]) dX4_held_19
    · refine lv_iload_n F.1 F.2.1 dX4_held_14 rfl (lv_at hl 2 rfl) ?_
      refine lv_goto (tgt := 19) F.1 F.2.1 dX4_held_15 (by decide) ?_
      exact g_reti F hr hlk (vp_nar_int _) hS hP hD (()) (rfl) (by simp [heldM, k1, k2]) dX4_held_19
  · refine lv_iload_n F.1 F.2.1 dX4_held_5 rfl (lv_at hl 1 rfl) ?_
    refine lv_goto (tgt := 19) F.1 F.2.1 dX4_held_6 (by decide) ?_
    exact g_reti F hr hlk (vp_nar_int _) hS hP hD (()) (rfl) (by simp [heldM, k1]) dX4_held_19
set_option maxHeartbeats 4000000 in
set_option maxRecDepth 100000 in
theorem c_X4_copyAll (l : Launch) (E : gE) (a : Nat) (b : Nat) (f : Nat → Int32) (g : Nat → Int32) : gV l yX4_copyAll wsX4_copyAll ({ frames := 0, cells := 0, slots := 0, locals := 0 }) E [(a, .inl (eI E, 75, .inl f)), (b, .inl (eI E, 75, .inl g))] (fun _ : Unit => [(a, .inl (eI E, 75, .inl f)), (b, .inl (eI E, 75, .inl f))]) [.ref a, .ref b] (fun (_ : Unit) => True) := by
  refine gV.of (cc := cX4_copyAll) (maxL := 3) (by decide) rfl (Nat.le_of_ble_eq_true rfl) ?_
  intro pG eG sG mG below meth cG A ls H locs F hr hlk hX hP hD hA hS hl
  have hl : lv_has ls 3 [(0, .ref a), (1, .ref b)] := hl
  refine lv_iconst (v := 0) F.1 F.2.1 dX4_copyAll_0 (by decide) ?_
  refine lv_istore_n (lv' := [(2, .int 0), (0, .ref a), (1, .ref b)]) F.1 F.2.1 dX4_copyAll_1 rfl hl (by decide) rfl (fun ls hl => ?_)
  have lp2 : ∀ (fu i : Nat), i ≤ 75 → 75 + 1 ≤ i + fu → ∀ (H : Heap) (locs : List Loc) (ls : Array Slot), va_P (eD E) vwCl [(a, .inl (eI E, 75, .inl f)), (b, .inl (eI E, 75, .inl (mix f g i)))] H → va_D A [(a, .inl (eI E, 75, .inl f)), (b, .inl (eI E, 75, .inl (mix f g i)))] → va_S A sG.heap H locs → lv_has ls 3 [(2, .int (nI i)), (0, .ref a), (1, .ref b)] → W pG l eG { frames := 0, cells := 0, slots := 0, locals := 0 } sG mG [.ref a, .ref b].toArray below meth cG H locs 0 0 (MQ below (va_Qv (fun (_ : Unit) => True) (gR E (fun _ : Unit => [(a, .inl (eI E, 75, .inl f)), (b, .inl (eI E, 75, .inl f))]) A) A) [.ref a, .ref b].toArray sG 0 0 A) (F0 mG 2 ls []) := by
    intro fu
    induction fu with
    | zero => intro i h1 h2; exact absurd h2 (by omega)
    | succ fu ih =>
      intro i hi hin   H locs ls hP hD hS hl
      refine lv_iload_n F.1 F.2.1 dX4_copyAll_2 rfl (lv_at hl 0 rfl) ?_
      refine lv_bipush (v := 75) F.1 F.2.1 dX4_copyAll_3 (by decide) ?_
      refine lv_icmp_ge (tgt := 20) F.1 F.2.1 dX4_copyAll_5 (by decide) (fun k1 => ?_) (fun k1 => ?_)
      · have hiN : 75 = i := Nat.le_antisymm ((nI_leI (by omega) (by omega)).mp k1) hi
        subst hiN
        have hP : va_P (eD E) vwCl [(a, .inl (eI E, 75, .inl f)), (b, .inl (eI E, 75, .inl f))] H := g_ext hP 1 (f) rfl (fun j hj => if_pos hj)
        have hD : va_D A [(a, .inl (eI E, 75, .inl f)), (b, .inl (eI E, 75, .inl f))] := hD.set (p := 1) rfl
        exact g_retv F hr hlk hS hP hD (()) (rfl) (trivial) dX4_copyAll_20
      · have hiN : i < 75 := Nat.lt_of_not_le (fun h => k1 (nI_le h (by omega)))
        refine lv_aload_n F.1 F.2.1 dX4_copyAll_8 rfl (lv_at hl 2 rfl) ?_
        refine lv_iload_n F.1 F.2.1 dX4_copyAll_9 rfl (lv_at hl 0 rfl) ?_
        refine lv_aload_n F.1 F.2.1 dX4_copyAll_10 rfl (lv_at hl 1 rfl) ?_
        refine lv_iload_n F.1 F.2.1 dX4_copyAll_11 rfl (lv_at hl 0 rfl) ?_
        refine g_iald F hX hP 0 rfl (j := i) (rfl) (by omega) (by decide) dX4_copyAll_12 ?_
        refine g_iast F hX hP hD hS 1 rfl (j := i) (rfl) (by omega) (by decide) dX4_copyAll_13 (fun H locs hP hD hS => ?_)
        have hP : va_P (eD E) vwCl [(a, .inl (eI E, 75, .inl f)), (b, .inl (eI E, 75, .inl (upd (mix f g i) i (f i))))] H := hP
        have hD : va_D A [(a, .inl (eI E, 75, .inl f)), (b, .inl (eI E, 75, .inl (upd (mix f g i) i (f i))))] := hD
        refine lv_iinc (v := nI (i + 1)) (lv' := [(2, .int (nI (i + 1))), (0, .ref a), (1, .ref b)]) F.1 F.2.1 dX4_copyAll_14 hl (k := 0) rfl (nI_1 _) (by decide) rfl (fun ls hl => ?_)
        refine lv_goto (tgt := 2) F.1 F.2.1 dX4_copyAll_17 (by decide) ?_
        have ecell : (upd (mix f g i) i (f i)) = (mix f g (i + 1)) := mix_step _ _ _ _ rfl
        rw [ecell] at hP hD
        clear ecell
        have hP : va_P (eD E) vwCl [(a, .inl (eI E, 75, .inl f)), (b, .inl (eI E, 75, .inl (mix f g (i + 1))))] H := hP
        have hD : va_D A [(a, .inl (eI E, 75, .inl f)), (b, .inl (eI E, 75, .inl (mix f g (i + 1))))] := hD
        exact ih (i + 1) (by omega) (by omega)  _ _ _ hP hD hS (lv_sub hl [0, 1, 2] rfl)
  have ecell : g = (mix f g 0) := mix_0 _ _
  rw [ecell] at hP hD
  clear ecell
  have hP : va_P (eD E) vwCl [(a, .inl (eI E, 75, .inl f)), (b, .inl (eI E, 75, .inl (mix f g 0)))] H := hP
  have hD : va_D A [(a, .inl (eI E, 75, .inl f)), (b, .inl (eI E, 75, .inl (mix f g 0)))] := hD
  exact lp2 (75 + 1) 0 (by omega) (by omega)  _ _ _ hP hD hS (lv_sub hl [0, 1, 2] rfl)
set_option maxHeartbeats 4000000 in
set_option maxRecDepth 100000 in
theorem c_X4_becomes (l : Launch) (E : gE) (h : Nat) (fs : List Value) (qm : Nat) (m : Nat → Int32) (j : Nat) (v : Int32) (hf0 : fs[0]? = some (.ref qm)) (hj : j < 75) : gI l yX4_becomes wsX4_becomes ({ frames := 0, cells := 0, slots := 0, locals := 0 }) E [(h, .inr (4, fs)), (qm, .inl (eI E, 75, .inl m))] (fun _ : Unit => [(h, .inr (4, fs)), (qm, .inl (eI E, 75, .inl (upd m j v)))]) [.ref h, .int (nI j), .int v] (fun (r : Int32) (_ : Unit) => r = m j) := by
  have hin4 : ∀ w ∈ wsX40, w ∈ wsX4_becomes := (fun _ h => (List.mem_cons_of_mem _ (List.mem_append_right _ h)))
  refine gI.of (cc := cX4_becomes) (maxL := 4) (by decide) rfl (Nat.le_of_ble_eq_true rfl) ?_
  intro pG eG sG mG below meth cG A ls H locs F hr hlk hX hP hD hA hS hl
  have hl : lv_has ls 4 [(0, .ref h), (1, .int (nI j)), (2, .int v)] := hl
  refine lv_aload_n F.1 F.2.1 dX4_becomes_0 rfl (lv_at hl 0 rfl) ?_
  refine g_get F hX hP hin4 0 rfl rfl 0 (by decide) (mm 1 rfl) hf0 dX4_becomes_1 ?_
  refine lv_iload_n F.1 F.2.1 dX4_becomes_4 rfl (lv_at hl 1 rfl) ?_
  refine g_iald F hX hP 1 rfl (j := j) (rfl) (by omega) (by decide) dX4_becomes_5 ?_
  refine lv_istore_n (lv' := [(3, .int (m j)), (0, .ref h), (1, .int (nI j)), (2, .int v)]) F.1 F.2.1 dX4_becomes_6 rfl hl (by decide) rfl (fun ls hl => ?_)
  refine lv_aload_n F.1 F.2.1 dX4_becomes_7 rfl (lv_at hl 1 rfl) ?_
  refine g_get F hX hP hin4 0 rfl rfl 0 (by decide) (mm 1 rfl) hf0 dX4_becomes_8 ?_
  refine lv_iload_n F.1 F.2.1 dX4_becomes_11 rfl (lv_at hl 2 rfl) ?_
  refine lv_iload_n F.1 F.2.1 dX4_becomes_12 rfl (lv_at hl 3 rfl) ?_
  refine g_iast F hX hP hD hS 1 rfl (j := j) (rfl) (by omega) (by decide) dX4_becomes_13 (fun H locs hP hD hS => ?_)
  have hP : va_P (eD E) vwCl [(h, .inr (4, fs)), (qm, .inl (eI E, 75, .inl (upd m j v)))] H := hP
  have hD : va_D A [(h, .inr (4, fs)), (qm, .inl (eI E, 75, .inl (upd m j v)))] := hD
  refine lv_iload_n F.1 F.2.1 dX4_becomes_14 rfl (lv_at hl 0 rfl) ?_
  exact g_reti F hr hlk (vp_nar_int _) hS hP hD (()) (rfl) (rfl) dX4_becomes_15
set_option maxHeartbeats 4000000 in
set_option maxRecDepth 100000 in
theorem c_X4_isPerson (l : Launch) (E : gE) (h : Nat) (fs : List Value) (qm : Nat) (m : Nat → Int32) (P : Nat) (p0 : Int32) (hf0 : fs[0]? = some (.ref qm)) (hm4 : m 4 = nI P) : gI l yX4_isPerson wsX4_isPerson ({ frames := 1, cells := 0, slots := 0, locals := 23 }) E [(h, .inr (4, fs)), (qm, .inl (eI E, 75, .inl m))] (fun _ : Unit => [(h, .inr (4, fs)), (qm, .inl (eI E, 75, .inl m))]) [.ref h, .int p0] (fun (r : Int32) (_ : Unit) => r = bi (inR p0 0 (nI P - 1))) := by
  have hin4 : ∀ w ∈ wsX40, w ∈ wsX4_isPerson := (fun _ h => (List.mem_cons_of_mem _ (List.mem_append_right _ h)))
  refine gI.of (cc := cX4_isPerson) (maxL := 2) (by decide) rfl (Nat.le_of_ble_eq_true rfl) ?_
  intro pG eG sG mG below meth cG A ls H locs F hr hlk hX hP hD hA hS hl
  have hl : lv_has ls 2 [(0, .ref h), (1, .int p0)] := hl
  refine lv_iload_n F.1 F.2.1 dX4_isPerson_0 rfl (lv_at hl 1 rfl) ?_
  refine lv_i2l (v := (p0 : Int32).toInt64) F.1 F.2.1 dX4_isPerson_1 rfl ?_
  refine lv_iconst (v := 0) F.1 F.2.1 dX4_isPerson_2 (by decide) ?_
  refine lv_aload_n F.1 F.2.1 dX4_isPerson_3 rfl (lv_at hl 0 rfl) ?_
  refine g_get F hX hP hin4 0 rfl rfl 0 (by decide) (mm 1 rfl) hf0 dX4_isPerson_4 ?_
  refine lv_iconst (v := 4) F.1 F.2.1 dX4_isPerson_7 (by decide) ?_
  refine g_iald F hX hP 1 rfl (j := 4) (rfl) (by decide) (by decide) dX4_isPerson_8 ?_
  refine g_top (nI P) (hm4) ?_
  refine lv_iconst (v := 1) F.1 F.2.1 dX4_isPerson_9 (by decide) ?_
  refine lv_isub F.1 F.2.1 dX4_isPerson_10 ?_
  refine g_goIr (g_runS (As := [.long ((p0 : Int32).toInt64), .int 0, .int ((nI P) - 1)]) (rest := []) F hX hP hD hS hA (c_X4_in_i l E p0 0 ((nI P) - 1) H.size) (va_cwS 3 F.2.2.2.2 gX4_isPerson_X4_in rfl rfl rfl (by decide +kernel) ⟨Nat.le_of_ble_eq_true rfl, Nat.le_of_ble_eq_true rfl⟩) [] rfl rfl rfl hl.1 rfl (Nat.le_of_ble_eq_true rfl) dX4_isPerson_11 ⟨Nat.le_refl _, Nat.le_refl _⟩) hP hD hS hA [] rfl (fun r _ H locs hq hP hS => ?_)
  subst hq
  exact g_reti F hr hlk (bi_nar _) hS hP hD (()) (rfl) (rfl) dX4_isPerson_14
set_option maxHeartbeats 4000000 in
set_option maxRecDepth 100000 in
theorem c_X4_isHouse (l : Launch) (E : gE) (v : Int32) : gI l yX4_isHouse wsX4_isHouse ({ frames := 1, cells := 0, slots := 0, locals := 23 }) E [] (fun _ : Unit => []) [.int v] (fun (r : Int32) (_ : Unit) => r = bi (inR v 0 29)) := by
  refine gI.of (cc := cX4_isHouse) (maxL := 1) (by decide) rfl (Nat.le_of_ble_eq_true rfl) ?_
  intro pG eG sG mG below meth cG A ls H locs F hr hlk hX hP hD hA hS hl
  have hl : lv_has ls 1 [(0, .int v)] := hl
  refine lv_iload_n F.1 F.2.1 dX4_isHouse_0 rfl (lv_at hl 0 rfl) ?_
  refine lv_i2l (v := (v : Int32).toInt64) F.1 F.2.1 dX4_isHouse_1 rfl ?_
  refine lv_iconst (v := 0) F.1 F.2.1 dX4_isHouse_2 (by decide) ?_
  refine lv_bipush (v := 29) F.1 F.2.1 dX4_isHouse_3 (by decide) ?_
  refine g_goIr (g_runS (As := [.long ((v : Int32).toInt64), .int 0, .int 29]) (rest := []) F hX hP hD hS hA (c_X4_in_i l E v 0 29 H.size) (va_cwS 3 F.2.2.2.2 gX4_isHouse_X4_in rfl rfl rfl (by decide +kernel) ⟨Nat.le_of_ble_eq_true rfl, Nat.le_of_ble_eq_true rfl⟩) [] rfl rfl rfl hl.1 rfl (Nat.le_of_ble_eq_true rfl) dX4_isHouse_5 ⟨Nat.le_refl _, Nat.le_refl _⟩) hP hD hS hA [] rfl (fun r _ H locs hq hP hS => ?_)
  subst hq
  exact g_reti F hr hlk (bi_nar _) hS hP hD (()) (rfl) (rfl) dX4_isHouse_8
set_option maxHeartbeats 4000000 in
set_option maxRecDepth 100000 in
theorem c_X4_isSheet (l : Launch) (E : gE) (v : Int32) : gI l yX4_isSheet wsX4_isSheet ({ frames := 1, cells := 0, slots := 0, locals := 23 }) E [] (fun _ : Unit => []) [.int v] (fun (r : Int32) (_ : Unit) => r = bi (inR v 0 3)) := by
  refine gI.of (cc := cX4_isSheet) (maxL := 1) (by decide) rfl (Nat.le_of_ble_eq_true rfl) ?_
  intro pG eG sG mG below meth cG A ls H locs F hr hlk hX hP hD hA hS hl
  have hl : lv_has ls 1 [(0, .int v)] := hl
  refine lv_iload_n F.1 F.2.1 dX4_isSheet_0 rfl (lv_at hl 0 rfl) ?_
  refine lv_i2l (v := (v : Int32).toInt64) F.1 F.2.1 dX4_isSheet_1 rfl ?_
  refine lv_iconst (v := 0) F.1 F.2.1 dX4_isSheet_2 (by decide) ?_
  refine lv_iconst (v := 3) F.1 F.2.1 dX4_isSheet_3 (by decide) ?_
  refine g_goIr (g_runS (As := [.long ((v : Int32).toInt64), .int 0, .int 3]) (rest := []) F hX hP hD hS hA (c_X4_in_i l E v 0 3 H.size) (va_cwS 3 F.2.2.2.2 gX4_isSheet_X4_in rfl rfl rfl (by decide +kernel) ⟨Nat.le_of_ble_eq_true rfl, Nat.le_of_ble_eq_true rfl⟩) [] rfl rfl rfl hl.1 rfl (Nat.le_of_ble_eq_true rfl) dX4_isSheet_4 ⟨Nat.le_refl _, Nat.le_refl _⟩) hP hD hS hA [] rfl (fun r _ H locs hq hP hS => ?_)
  subst hq
  exact g_reti F hr hlk (bi_nar _) hS hP hD (()) (rfl) (rfl) dX4_isSheet_7
set_option maxHeartbeats 4000000 in
set_option maxRecDepth 100000 in
theorem c_X4_it (l : Launch) (E : gE) (h : Nat) (fs : List Value) (qm : Nat) (m : Nat → Int32) (j : Nat) (k : Nat) (hf0 : fs[0]? = some (.ref qm)) (hj8 : j < 8) (hk5 : k < 5) : gI l yX4_it wsX4_it ({ frames := 0, cells := 0, slots := 0, locals := 0 }) E [(h, .inr (4, fs)), (qm, .inl (eI E, 75, .inl m))] (fun _ : Unit => [(h, .inr (4, fs)), (qm, .inl (eI E, 75, .inl m))]) [.ref h, .int (nI j), .int (nI k)] (fun (r : Int32) (_ : Unit) => r = pf m j k) := by
  have hin4 : ∀ w ∈ wsX40, w ∈ wsX4_it := (fun _ h => (List.mem_cons_of_mem _ (List.mem_append_right _ h)))
  refine gI.of (cc := cX4_it) (maxL := 3) (by decide) rfl (Nat.le_of_ble_eq_true rfl) ?_
  intro pG eG sG mG below meth cG A ls H locs F hr hlk hX hP hD hA hS hl
  have hl : lv_has ls 3 [(0, .ref h), (1, .int (nI j)), (2, .int (nI k))] := hl
  refine lv_aload_n F.1 F.2.1 dX4_it_0 rfl (lv_at hl 0 rfl) ?_
  refine g_get F hX hP hin4 0 rfl rfl 0 (by decide) (mm 1 rfl) hf0 dX4_it_1 ?_
  refine lv_bipush (v := 35) F.1 F.2.1 dX4_it_4 (by decide) ?_
  refine lv_iconst (v := 5) F.1 F.2.1 dX4_it_6 (by decide) ?_
  refine lv_iload_n F.1 F.2.1 dX4_it_7 rfl (lv_at hl 1 rfl) ?_
  refine lv_imul F.1 F.2.1 dX4_it_8 ?_
  refine lv_iadd F.1 F.2.1 dX4_it_9 ?_
  refine lv_iload_n F.1 F.2.1 dX4_it_10 rfl (lv_at hl 2 rfl) ?_
  refine lv_iadd F.1 F.2.1 dX4_it_11 ?_
  refine g_iald F hX hP 1 rfl (j := 35 + 5 * j + k) (ix5 j k) (by omega) (by decide) dX4_it_12 ?_
  exact g_reti F hr hlk (vp_nar_int _) hS hP hD (()) (rfl) (rfl) dX4_it_13
set_option maxHeartbeats 4000000 in
set_option maxRecDepth 100000 in
theorem c_X4_put (l : Launch) (E : gE) (h : Nat) (fs : List Value) (qm : Nat) (m : Nat → Int32) (j : Nat) (k : Nat) (v : Int32) (hf0 : fs[0]? = some (.ref qm)) (hj8 : j < 8) (hk5 : k < 5) : gV l yX4_put wsX4_put ({ frames := 0, cells := 0, slots := 0, locals := 0 }) E [(h, .inr (4, fs)), (qm, .inl (eI E, 75, .inl m))] (fun _ : Unit => [(h, .inr (4, fs)), (qm, .inl (eI E, 75, .inl (pu m j k v)))]) [.ref h, .int (nI j), .int (nI k), .int v] (fun (_ : Unit) => True) := by
  have hin4 : ∀ w ∈ wsX40, w ∈ wsX4_put := (fun _ h => (List.mem_cons_of_mem _ (List.mem_append_right _ h)))
  refine gV.of (cc := cX4_put) (maxL := 4) (by decide) rfl (Nat.le_of_ble_eq_true rfl) ?_
  intro pG eG sG mG below meth cG A ls H locs F hr hlk hX hP hD hA hS hl
  have hl : lv_has ls 4 [(0, .ref h), (1, .int (nI j)), (2, .int (nI k)), (3, .int v)] := hl
  refine lv_aload_n F.1 F.2.1 dX4_put_0 rfl (lv_at hl 0 rfl) ?_
  refine g_get F hX hP hin4 0 rfl rfl 0 (by decide) (mm 1 rfl) hf0 dX4_put_1 ?_
  refine lv_bipush (v := 35) F.1 F.2.1 dX4_put_4 (by decide) ?_
  refine lv_iconst (v := 5) F.1 F.2.1 dX4_put_6 (by decide) ?_
  refine lv_iload_n F.1 F.2.1 dX4_put_7 rfl (lv_at hl 1 rfl) ?_
  refine lv_imul F.1 F.2.1 dX4_put_8 ?_
  refine lv_iadd F.1 F.2.1 dX4_put_9 ?_
  refine lv_iload_n F.1 F.2.1 dX4_put_10 rfl (lv_at hl 2 rfl) ?_
  refine lv_iadd F.1 F.2.1 dX4_put_11 ?_
  refine lv_iload_n F.1 F.2.1 dX4_put_12 rfl (lv_at hl 3 rfl) ?_
  refine g_iast F hX hP hD hS 1 rfl (j := 35 + 5 * j + k) (ix5 j k) (by omega) (by decide) dX4_put_13 (fun H locs hP hD hS => ?_)
  have hP : va_P (eD E) vwCl [(h, .inr (4, fs)), (qm, .inl (eI E, 75, .inl (upd m (35 + 5 * j + k) v)))] H := hP
  have hD : va_D A [(h, .inr (4, fs)), (qm, .inl (eI E, 75, .inl (upd m (35 + 5 * j + k) v)))] := hD
  exact g_retv F hr hlk hS hP hD (()) (rfl) (trivial) dX4_put_14
