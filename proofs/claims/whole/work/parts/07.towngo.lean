/-! the Town: what it does -/
theorem cell_ext {cA : ClassId} {n : Nat} {f g : Nat → Int32} (h : ∀ j, j < n → f j = g j) : vp_cell cA (n, .inl f) = vp_cell cA (n, .inl g) := by
  have e : (fun j : Fin n => Value.int (f j.val)) = fun j : Fin n => Value.int (g j.val) := funext fun j => by rw [h j.val j.isLt]
  show ({ cls := cA, slots := Array.ofFn (n := n) (fun j => Value.int (f j.val)), vm := .none } : Cell) = { cls := cA, slots := Array.ofFn (n := n) (fun j => Value.int (g j.val)), vm := .none }
  rw [e]
theorem cell_extL {cA : ClassId} {n : Nat} {f g : Nat → Int64} (h : ∀ j, j < n → f j = g j) : vp_cell cA (n, .inr (.inl f)) = vp_cell cA (n, .inr (.inl g)) := by
  have e : (fun j : Fin n => Value.long (f j.val)) = fun j : Fin n => Value.long (g j.val) := funext fun j => by rw [h j.val j.isLt]
  show ({ cls := cA, slots := Array.ofFn (n := n) (fun j => Value.long (f j.val)), vm := .none } : Cell) = { cls := cA, slots := Array.ofFn (n := n) (fun j => Value.long (g j.val)), vm := .none }
  rw [e]
theorem g_ext {D : va_G} {cl : List vw_C} {ws : va_W} {H : Heap} (hP : va_P D cl ws H) (q0 : Nat) {a n : Nat} {c : ClassId} {f : Nat → Int32} (g : Nat → Int32) (he : ws[q0]? = some (a, .inl (c, n, .inl f))) (h : ∀ j, j < n → f j = g j) : va_P D cl (ws.set q0 (a, .inl (c, n, .inl g))) H := by
  intro k q hk
  by_cases e : k = q0
  · subst e
    rw [List.getElem?_set_self (List.getElem?_eq_some_iff.mp he).1] at hk
    cases hk
    show H[a]? = some (vp_cell c (n, .inl g))
    rw [← cell_ext h]
    exact hP k _ he
  · rw [List.getElem?_set_ne (fun z => e z.symm)] at hk
    exact hP k q hk
theorem g_extL {D : va_G} {cl : List vw_C} {ws : va_W} {H : Heap} (hP : va_P D cl ws H) (q0 : Nat) {a n : Nat} {c : ClassId} {f : Nat → Int64} (g : Nat → Int64) (he : ws[q0]? = some (a, .inl (c, n, .inr (.inl f)))) (h : ∀ j, j < n → f j = g j) : va_P D cl (ws.set q0 (a, .inl (c, n, .inr (.inl g)))) H := by
  intro k q hk
  by_cases e : k = q0
  · subst e
    rw [List.getElem?_set_self (List.getElem?_eq_some_iff.mp he).1] at hk
    cases hk
    show H[a]? = some (vp_cell c (n, .inr (.inl g)))
    rw [← cell_extL h]
    exact hP k _ he
  · rw [List.getElem?_set_ne (fun z => e z.symm)] at hk
    exact hP k q hk
def bitOf (x : Int32) (j : Nat) : Int32 := (x >>> (nI j &&& 31)) &&& 1
def mix (f g : Nat → Int32) (i : Nat) : Nat → Int32 := fun j => if j < i then f j else g j
theorem mix_at (f g : Nat → Int32) (i : Nat) : mix f g i i = g i := if_neg (Nat.lt_irrefl i)
theorem mix_0 (f g : Nat → Int32) : g = mix f g 0 := funext fun j => (if_neg (Nat.not_lt_zero j)).symm
theorem upd_self (f : Nat → Int32) (i : Nat) : upd f i (f i) = f := funext fun j => by
  unfold upd
  split
  · next h => rw [h]
  · rfl
theorem mix_step (f g : Nat → Int32) (i : Nat) (x : Int32) (h : x = f i) : upd (mix f g i) i x = mix f g (i + 1) := funext fun j => by
  unfold upd mix
  by_cases e : j = i
  · subst e
    rw [if_pos rfl, if_pos (Nat.lt_succ_self j), h]
  · rw [if_neg e]
    by_cases q : j < i
    · rw [if_pos q, if_pos (by omega)]
    · rw [if_neg q, if_neg (by omega)]
theorem mix_same (f g : Nat → Int32) (i : Nat) (h : f i = g i) : mix f g i = mix f g (i + 1) := by
  rw [← mix_step f g i (g i) h.symm]
  have e := upd_self (mix f g i) i
  rw [mix_at] at e
  exact e.symm
def ctc (wa ki ca : Int32) (j : Nat) : Bool := decide (bitOf wa j = 0) && !soC ki ca
def nQ (who : Int32) (qu : Nat → Int32) : Nat → Int32 := fun j => if bitOf who j = 1 then iMin 9999 (qu j + 1) else qu j
def nC (who wa : Int32) (ki ca : Nat → Int32) : Nat → Int32 := fun j => if bitOf who j = 1 then (bif ctc wa (ki j) (ca j) j then iMin 9999 (ca j + 1) else ca j) else ca j
def nP (mi wi sp ed : Int32) (ki pl : Nat → Int32) : Nat → Int32 := fun j => iMax 0 (iMin 29 (pl j + gqC mi wi sp (ki j) (pl j) ed))
/-- what goes on in a Town: minute, who was in it, places, quiets, catchings -/
abbrev TV : Type := Int32 × Int32 × (Nat → Int32) × (Nat → Int32) × (Nat → Int32)
def inC (fo wi sp : Int32) (P : Nat) (t : TV) : Int32 := whoC (fun j => tk (edC t.1 fo wi sp) wi (t.2.2.1 j)) P
def stT (fo wi sp : Int32) (P : Nat) (ki : Nat → Int32) (t : TV) : TV :=
  (t.1 + 1, inC fo wi sp P t, mix (nP t.1 wi sp (edC t.1 fo wi sp) ki t.2.2.1) t.2.2.1 P, mix (nQ (inC fo wi sp P t) t.2.2.2.1) t.2.2.2.1 P, mix (nC (inC fo wi sp P t) t.2.1 ki t.2.2.2.2) t.2.2.2.2 P)
def itT (fo wi sp : Int32) (P : Nat) (ki : Nat → Int32) : Nat → TV → TV
  | 0, t => t
  | n + 1, t => stT fo wi sp P ki (itT fo wi sp P ki n t)
set_option maxHeartbeats 4000000 in
set_option maxRecDepth 100000 in
theorem c_X2_isInIt (l : Launch) (E : gE) (h : Nat) (mi : Int32) (fo : Int32) (wi : Int32) (sp : Int32) (P : Nat) (wa : Int32) (qn : Nat) (qk : Nat) (qp : Nat) (qq : Nat) (qc : Nat) (j : Nat) (ki : Nat → Int32) (qu : Nat → Int32) (ca : Nat → Int32) (hj8 : j < 8) : gV l yX2_isInIt wsX2_isInIt ({ frames := 1, cells := 0, slots := 0, locals := 21 }) E [(h, .inr (2, [.int mi, .int fo, .int wi, .int sp, .ref qn, .int (nI P), .ref qk, .ref qp, .ref qq, .ref qc, .int wa])), (qk, .inl (eI E, 8, .inl ki)), (qq, .inl (eI E, 8, .inl qu)), (qc, .inl (eI E, 8, .inl ca))] (fun _ : Unit => [(h, .inr (2, [.int mi, .int fo, .int wi, .int sp, .ref qn, .int (nI P), .ref qk, .ref qp, .ref qq, .ref qc, .int wa])), (qk, .inl (eI E, 8, .inl ki)), (qq, .inl (eI E, 8, .inl (upd qu j (iMin 9999 (qu j + 1))))), (qc, .inl (eI E, 8, .inl (upd ca j (bif ctc wa (ki j) (ca j) j then iMin 9999 (ca j + 1) else ca j))))]) [.ref h, .int (nI j)] (fun (_ : Unit) => True) := by
  have hin2 : ∀ w ∈ wsX20, w ∈ wsX2_isInIt := (fun _ h => (List.mem_cons_of_mem _ (List.mem_append_right _ h)))
  refine gV.of (cc := cX2_isInIt) (maxL := 2) (by decide) rfl (Nat.le_of_ble_eq_true rfl) ?_
  intro pG eG sG mG below meth cG A ls H locs F hr hlk hX hP hD hA hS hl
  have hl : lv_has ls 2 [(0, .ref h), (1, .int (nI j))] := hl
  refine lv_aload_n F.1 F.2.1 dX2_isInIt_0 rfl (lv_at hl 0 rfl) ?_
  refine g_get F hX hP hin2 0 rfl rfl 8 (by decide) (mm 1 rfl) rfl dX2_isInIt_1 ?_
  refine lv_iload_n F.1 F.2.1 dX2_isInIt_4 rfl (lv_at hl 1 rfl) ?_
  refine lv_sipush (v := 9999) F.1 F.2.1 dX2_isInIt_5 (by decide) ?_
  refine lv_aload_n F.1 F.2.1 dX2_isInIt_8 rfl (lv_at hl 0 rfl) ?_
  refine g_get F hX hP hin2 0 rfl rfl 8 (by decide) (mm 1 rfl) rfl dX2_isInIt_9 ?_
  refine lv_iload_n F.1 F.2.1 dX2_isInIt_12 rfl (lv_at hl 1 rfl) ?_
  refine g_iald F hX hP 2 rfl (j := j) (rfl) (by omega) (by decide) dX2_isInIt_13 ?_
  refine lv_iconst (v := 1) F.1 F.2.1 dX2_isInIt_14 (by decide) ?_
  refine lv_iadd F.1 F.2.1 dX2_isInIt_15 ?_
  refine g_mmin F hl (mm 2 rfl) (mm 3 rfl) (mm 4 rfl) (mm 5 rfl) (Nat.le_of_ble_eq_true rfl) (Nat.le_of_ble_eq_true rfl) dX2_isInIt_16 ?_
  refine g_iast F hX hP hD hS 2 rfl (j := j) (rfl) (by omega) (by decide) dX2_isInIt_19 (fun H locs hP hD hS => ?_)
  have hP : va_P (eD E) vwCl [(h, .inr (2, [.int mi, .int fo, .int wi, .int sp, .ref qn, .int (nI P), .ref qk, .ref qp, .ref qq, .ref qc, .int wa])), (qk, .inl (eI E, 8, .inl ki)), (qq, .inl (eI E, 8, .inl (upd qu j (iMin 9999 ((qu j) + 1))))), (qc, .inl (eI E, 8, .inl ca))] H := hP
  have hD : va_D A [(h, .inr (2, [.int mi, .int fo, .int wi, .int sp, .ref qn, .int (nI P), .ref qk, .ref qp, .ref qq, .ref qc, .int wa])), (qk, .inl (eI E, 8, .inl ki)), (qq, .inl (eI E, 8, .inl (upd qu j (iMin 9999 ((qu j) + 1))))), (qc, .inl (eI E, 8, .inl ca))] := hD
  refine lv_aload_n F.1 F.2.1 dX2_isInIt_20 rfl (lv_at hl 0 rfl) ?_
  refine g_get F hX hP hin2 0 rfl rfl 10 (by decide) (mm 6 rfl) rfl dX2_isInIt_21 ?_
  refine lv_iload_n F.1 F.2.1 dX2_isInIt_24 rfl (lv_at hl 1 rfl) ?_
  refine lv_ishr F.1 F.2.1 dX2_isInIt_25 ?_
  refine lv_iconst (v := 1) F.1 F.2.1 dX2_isInIt_26 (by decide) ?_
  refine lv_iand F.1 F.2.1 dX2_isInIt_27 ?_
  refine lv_if_ne (tgt := 59) F.1 F.2.1 dX2_isInIt_28 (by decide) (fun k1 => ?_) (fun k1 => ?_)
  · exact g_retv F hr hlk hS hP hD (()) (by first | (rw [show ctc wa (ki j) (ca j) j = false from by simp [ctc, bitOf, k1], cond_false, upd_self]; done) | (rw [show ctc wa (ki j) (ca j) j = true from by simp [ctc, bitOf, k1], cond_true]; done)) (trivial) dX2_isInIt_59
  · refine lv_aload_n F.1 F.2.1 dX2_isInIt_31 rfl (lv_at hl 0 rfl) ?_
    refine lv_iload_n F.1 F.2.1 dX2_isInIt_32 rfl (lv_at hl 1 rfl) ?_
    refine g_goIr (g_runV (As := [.int (nI j)]) (rest := []) F hX hP hD hS hA (c_X2_stepsOver l E h mi fo wi sp P wa qn qk qp qq qc j ki ca (by omega) H.size) (cwV 1 F.2.2.2.2 gX2_isInIt_X2_stepsOver rfl rfl rfl (by decide +kernel) ⟨Nat.le_of_ble_eq_true rfl, Nat.le_of_ble_eq_true rfl⟩) [0, 1, 3] rfl rfl (q0 := 0) (ci := 2) rfl rfl rfl hl.1 rfl (Nat.le_of_ble_eq_true rfl) dX2_isInIt_33 ⟨Nat.le_refl _, Nat.le_refl _⟩) hP hD hS hA [0, 1, 3] rfl (fun r _ H locs hq hP hS => ?_)
    subst hq
    refine g_bne (tgt := 59) F dX2_isInIt_36 (by decide) (fun k2 => ?_) (fun k2 => ?_)
    · exact g_retv F hr hlk hS hP hD (()) (by first | (rw [show ctc wa (ki j) (ca j) j = false from by simp [ctc, bitOf, k1, k2], cond_false, upd_self]; done) | (rw [show ctc wa (ki j) (ca j) j = true from by simp [ctc, bitOf, k1, k2], cond_true]; done)) (trivial) dX2_isInIt_59
    · refine lv_aload_n F.1 F.2.1 dX2_isInIt_39 rfl (lv_at hl 0 rfl) ?_
      refine g_get F hX hP hin2 0 rfl rfl 9 (by decide) (mm 7 rfl) rfl dX2_isInIt_40 ?_
      refine lv_iload_n F.1 F.2.1 dX2_isInIt_43 rfl (lv_at hl 1 rfl) ?_
      refine lv_sipush (v := 9999) F.1 F.2.1 dX2_isInIt_44 (by decide) ?_
      refine lv_aload_n F.1 F.2.1 dX2_isInIt_47 rfl (lv_at hl 0 rfl) ?_
      refine g_get F hX hP hin2 0 rfl rfl 9 (by decide) (mm 7 rfl) rfl dX2_isInIt_48 ?_
      refine lv_iload_n F.1 F.2.1 dX2_isInIt_51 rfl (lv_at hl 1 rfl) ?_
      refine g_iald F hX hP 3 rfl (j := j) (rfl) (by omega) (by decide) dX2_isInIt_52 ?_
      refine lv_iconst (v := 1) F.1 F.2.1 dX2_isInIt_53 (by decide) ?_
      refine lv_iadd F.1 F.2.1 dX2_isInIt_54 ?_
      refine g_mmin F hl (mm 2 rfl) (mm 3 rfl) (mm 4 rfl) (mm 5 rfl) (Nat.le_of_ble_eq_true rfl) (Nat.le_of_ble_eq_true rfl) dX2_isInIt_55 ?_
      refine g_iast F hX hP hD hS 3 rfl (j := j) (rfl) (by omega) (by decide) dX2_isInIt_58 (fun H locs hP hD hS => ?_)
      have hP : va_P (eD E) vwCl [(h, .inr (2, [.int mi, .int fo, .int wi, .int sp, .ref qn, .int (nI P), .ref qk, .ref qp, .ref qq, .ref qc, .int wa])), (qk, .inl (eI E, 8, .inl ki)), (qq, .inl (eI E, 8, .inl (upd qu j (iMin 9999 ((qu j) + 1))))), (qc, .inl (eI E, 8, .inl (upd ca j (iMin 9999 ((ca j) + 1)))))] H := hP
      have hD : va_D A [(h, .inr (2, [.int mi, .int fo, .int wi, .int sp, .ref qn, .int (nI P), .ref qk, .ref qp, .ref qq, .ref qc, .int wa])), (qk, .inl (eI E, 8, .inl ki)), (qq, .inl (eI E, 8, .inl (upd qu j (iMin 9999 ((qu j) + 1))))), (qc, .inl (eI E, 8, .inl (upd ca j (iMin 9999 ((ca j) + 1)))))] := hD
      exact g_retv F hr hlk hS hP hD (()) (by first | (rw [show ctc wa (ki j) (ca j) j = false from by simp [ctc, bitOf, k1, k2], cond_false, upd_self]; done) | (rw [show ctc wa (ki j) (ca j) j = true from by simp [ctc, bitOf, k1, k2], cond_true]; done)) (trivial) dX2_isInIt_59
set_option maxHeartbeats 4000000 in
set_option maxRecDepth 100000 in
theorem c_X2_oneMinuteGoes (l : Launch) (E : gE) (h : Nat) (mi : Int32) (fo : Int32) (wi : Int32) (sp : Int32) (P : Nat) (wa : Int32) (qn : Nat) (qk : Nat) (qp : Nat) (qq : Nat) (qc : Nat) (ki : Nat → Int32) (pl : Nat → Int32) (qu : Nat → Int32) (ca : Nat → Int32) (hP8 : P ≤ 8) : gV l yX2_oneMinuteGoes wsX2_oneMinuteGoes ({ frames := 3, cells := 0, slots := 0, locals := 67 }) E [(h, .inr (2, [.int mi, .int fo, .int wi, .int sp, .ref qn, .int (nI P), .ref qk, .ref qp, .ref qq, .ref qc, .int wa])), (qk, .inl (eI E, 8, .inl ki)), (qp, .inl (eI E, 8, .inl pl)), (qq, .inl (eI E, 8, .inl qu)), (qc, .inl (eI E, 8, .inl ca))] (fun _ : Unit => [(h, .inr (2, [.int ((stT fo wi sp P ki (mi, wa, pl, qu, ca)).1), .int fo, .int wi, .int sp, .ref qn, .int (nI P), .ref qk, .ref qp, .ref qq, .ref qc, .int ((stT fo wi sp P ki (mi, wa, pl, qu, ca)).2.1)])), (qk, .inl (eI E, 8, .inl ki)), (qp, .inl (eI E, 8, .inl ((stT fo wi sp P ki (mi, wa, pl, qu, ca)).2.2.1))), (qq, .inl (eI E, 8, .inl ((stT fo wi sp P ki (mi, wa, pl, qu, ca)).2.2.2.1))), (qc, .inl (eI E, 8, .inl ((stT fo wi sp P ki (mi, wa, pl, qu, ca)).2.2.2.2)))]) [.ref h] (fun (_ : Unit) => True) := by
  have hin2 : ∀ w ∈ wsX20, w ∈ wsX2_oneMinuteGoes := (fun _ h => (List.mem_cons_of_mem _ (List.mem_append_right _ h)))
  refine gV.of (cc := cX2_oneMinuteGoes) (maxL := 4) (by decide) rfl (Nat.le_of_ble_eq_true rfl) ?_
  intro pG eG sG mG below meth cG A ls H locs F hr hlk hX hP hD hA hS hl
  have hl : lv_has ls 4 [(0, .ref h)] := hl
  refine lv_aload_n F.1 F.2.1 dX2_oneMinuteGoes_0 rfl (lv_at hl 0 rfl) ?_
  refine g_goIr (g_runV (As := []) (rest := []) F hX hP hD hS hA (c_X2_edge l E h mi fo wi sp P wa qn qk qp qq qc H.size) (cwV 0 F.2.2.2.2 gX2_oneMinuteGoes_X2_edge rfl rfl rfl (by decide +kernel) ⟨Nat.le_of_ble_eq_true rfl, Nat.le_of_ble_eq_true rfl⟩) [0] rfl rfl (q0 := 0) (ci := 2) rfl rfl rfl hl.1 rfl (Nat.le_of_ble_eq_true rfl) dX2_oneMinuteGoes_1 ⟨Nat.le_refl _, Nat.le_refl _⟩) hP hD hS hA [0] rfl (fun r _ H locs hq hP hS => ?_)
  subst hq
  refine lv_istore_n (lv' := [(1, .int (edC mi fo wi sp)), (0, .ref h)]) F.1 F.2.1 dX2_oneMinuteGoes_4 rfl hl (by decide) rfl (fun ls hl => ?_)
  refine lv_aload_n F.1 F.2.1 dX2_oneMinuteGoes_5 rfl (lv_at hl 1 rfl) ?_
  refine g_goIr (g_runV (As := []) (rest := []) F hX hP hD hS hA (c_X2_whoIsIn l E h mi fo wi sp P wa qn qk qp qq qc pl (by assumption) H.size) (cwV 0 F.2.2.2.2 gX2_oneMinuteGoes_X2_whoIsIn rfl rfl rfl (by decide +kernel) ⟨Nat.le_of_ble_eq_true rfl, Nat.le_of_ble_eq_true rfl⟩) [0, 2] rfl rfl (q0 := 0) (ci := 2) rfl rfl rfl hl.1 rfl (Nat.le_of_ble_eq_true rfl) dX2_oneMinuteGoes_6 ⟨Nat.le_refl _, Nat.le_refl _⟩) hP hD hS hA [0, 2] rfl (fun r _ H locs hq hP hS => ?_)
  subst hq
  refine g_top ((inC fo wi sp P (mi, wa, pl, qu, ca))) (rfl) ?_
  refine lv_istore_n (lv' := [(2, .int (inC fo wi sp P (mi, wa, pl, qu, ca))), (1, .int (edC mi fo wi sp)), (0, .ref h)]) F.1 F.2.1 dX2_oneMinuteGoes_9 rfl hl (by decide) rfl (fun ls hl => ?_)
  refine lv_iconst (v := 0) F.1 F.2.1 dX2_oneMinuteGoes_10 (by decide) ?_
  refine lv_istore_n (lv' := [(3, .int 0), (2, .int (inC fo wi sp P (mi, wa, pl, qu, ca))), (1, .int (edC mi fo wi sp)), (0, .ref h)]) F.1 F.2.1 dX2_oneMinuteGoes_11 rfl hl (by decide) rfl (fun ls hl => ?_)
  have lp12 : ∀ (fu i : Nat), i ≤ P → P + 1 ≤ i + fu → ∀ (H : Heap) (locs : List Loc) (ls : Array Slot), va_P (eD E) vwCl [(h, .inr (2, [.int mi, .int fo, .int wi, .int sp, .ref qn, .int (nI P), .ref qk, .ref qp, .ref qq, .ref qc, .int wa])), (qk, .inl (eI E, 8, .inl ki)), (qp, .inl (eI E, 8, .inl (mix (nP mi wi sp (edC mi fo wi sp) ki pl) pl i))), (qq, .inl (eI E, 8, .inl (mix (nQ (inC fo wi sp P (mi, wa, pl, qu, ca)) qu) qu i))), (qc, .inl (eI E, 8, .inl (mix (nC (inC fo wi sp P (mi, wa, pl, qu, ca)) wa ki ca) ca i)))] H → va_D A [(h, .inr (2, [.int mi, .int fo, .int wi, .int sp, .ref qn, .int (nI P), .ref qk, .ref qp, .ref qq, .ref qc, .int wa])), (qk, .inl (eI E, 8, .inl ki)), (qp, .inl (eI E, 8, .inl (mix (nP mi wi sp (edC mi fo wi sp) ki pl) pl i))), (qq, .inl (eI E, 8, .inl (mix (nQ (inC fo wi sp P (mi, wa, pl, qu, ca)) qu) qu i))), (qc, .inl (eI E, 8, .inl (mix (nC (inC fo wi sp P (mi, wa, pl, qu, ca)) wa ki ca) ca i)))] → va_S A sG.heap H locs → lv_has ls 4 [(3, .int (nI i)), (2, .int (inC fo wi sp P (mi, wa, pl, qu, ca))), (1, .int (edC mi fo wi sp)), (0, .ref h)] → W pG l eG { frames := 3, cells := 0, slots := 0, locals := 67 } sG mG [.ref h].toArray below meth cG H locs 0 0 (MQ below (va_Qv (fun (_ : Unit) => True) (gR E (fun _ : Unit => [(h, .inr (2, [.int ((stT fo wi sp P ki (mi, wa, pl, qu, ca)).1), .int fo, .int wi, .int sp, .ref qn, .int (nI P), .ref qk, .ref qp, .ref qq, .ref qc, .int ((stT fo wi sp P ki (mi, wa, pl, qu, ca)).2.1)])), (qk, .inl (eI E, 8, .inl ki)), (qp, .inl (eI E, 8, .inl ((stT fo wi sp P ki (mi, wa, pl, qu, ca)).2.2.1))), (qq, .inl (eI E, 8, .inl ((stT fo wi sp P ki (mi, wa, pl, qu, ca)).2.2.2.1))), (qc, .inl (eI E, 8, .inl ((stT fo wi sp P ki (mi, wa, pl, qu, ca)).2.2.2.2)))]) A) A) [.ref h].toArray sG 0 0 A) (F0 mG 12 ls []) := by
    intro fu
    induction fu with
    | zero => intro i h1 h2; exact absurd h2 (by omega)
    | succ fu ih =>
      intro i hi hin   H locs ls hP hD hS hl
      refine lv_iload_n F.1 F.2.1 dX2_oneMinuteGoes_12 rfl (lv_at hl 0 rfl) ?_
      refine lv_aload_n F.1 F.2.1 dX2_oneMinuteGoes_13 rfl (lv_at hl 3 rfl) ?_
      refine g_get F hX hP hin2 0 rfl rfl 5 (by decide) (mm 1 rfl) rfl dX2_oneMinuteGoes_14 ?_
      refine lv_icmp_ge (tgt := 65) F.1 F.2.1 dX2_oneMinuteGoes_17 (by decide) (fun k1 => ?_) (fun k1 => ?_)
      · have hiN : P = i := Nat.le_antisymm ((nI_leI (by omega) (by omega)).mp k1) hi
        subst hiN
        refine lv_aload_n F.1 F.2.1 dX2_oneMinuteGoes_65 rfl (lv_at hl 3 rfl) ?_
        refine lv_iload_n F.1 F.2.1 dX2_oneMinuteGoes_66 rfl (lv_at hl 1 rfl) ?_
        refine g_put F hX hP hD hS hin2 tyX2 tyX2_ok nmX2 0 rfl rfl 10 (by decide) (mm 3 rfl) rfl (rfl) (rfl) (Nat.le_of_ble_eq_true rfl) dX2_oneMinuteGoes_67 (fun H locs hP hD hS => ?_)
        have hP : va_P (eD E) vwCl [(h, .inr (2, [.int mi, .int fo, .int wi, .int sp, .ref qn, .int (nI P), .ref qk, .ref qp, .ref qq, .ref qc, .int (inC fo wi sp P (mi, wa, pl, qu, ca))])), (qk, .inl (eI E, 8, .inl ki)), (qp, .inl (eI E, 8, .inl (mix (nP mi wi sp (edC mi fo wi sp) ki pl) pl P))), (qq, .inl (eI E, 8, .inl (mix (nQ (inC fo wi sp P (mi, wa, pl, qu, ca)) qu) qu P))), (qc, .inl (eI E, 8, .inl (mix (nC (inC fo wi sp P (mi, wa, pl, qu, ca)) wa ki ca) ca P)))] H := hP
        have hD : va_D A [(h, .inr (2, [.int mi, .int fo, .int wi, .int sp, .ref qn, .int (nI P), .ref qk, .ref qp, .ref qq, .ref qc, .int (inC fo wi sp P (mi, wa, pl, qu, ca))])), (qk, .inl (eI E, 8, .inl ki)), (qp, .inl (eI E, 8, .inl (mix (nP mi wi sp (edC mi fo wi sp) ki pl) pl P))), (qq, .inl (eI E, 8, .inl (mix (nQ (inC fo wi sp P (mi, wa, pl, qu, ca)) qu) qu P))), (qc, .inl (eI E, 8, .inl (mix (nC (inC fo wi sp P (mi, wa, pl, qu, ca)) wa ki ca) ca P)))] := hD
        refine lv_aload_n F.1 F.2.1 dX2_oneMinuteGoes_70 rfl (lv_at hl 3 rfl) ?_
        refine lv_dup F.1 F.2.1 dX2_oneMinuteGoes_71 rfl ?_
        refine g_get F hX hP hin2 0 rfl rfl 0 (by decide) (mm 4 rfl) rfl dX2_oneMinuteGoes_72 ?_
        refine lv_iconst (v := 1) F.1 F.2.1 dX2_oneMinuteGoes_75 (by decide) ?_
        refine lv_iadd F.1 F.2.1 dX2_oneMinuteGoes_76 ?_
        refine g_put F hX hP hD hS hin2 tyX2 tyX2_ok nmX2 0 rfl rfl 0 (by decide) (mm 4 rfl) rfl (rfl) (rfl) (Nat.le_of_ble_eq_true rfl) dX2_oneMinuteGoes_77 (fun H locs hP hD hS => ?_)
        have hP : va_P (eD E) vwCl [(h, .inr (2, [.int (mi + 1), .int fo, .int wi, .int sp, .ref qn, .int (nI P), .ref qk, .ref qp, .ref qq, .ref qc, .int (inC fo wi sp P (mi, wa, pl, qu, ca))])), (qk, .inl (eI E, 8, .inl ki)), (qp, .inl (eI E, 8, .inl (mix (nP mi wi sp (edC mi fo wi sp) ki pl) pl P))), (qq, .inl (eI E, 8, .inl (mix (nQ (inC fo wi sp P (mi, wa, pl, qu, ca)) qu) qu P))), (qc, .inl (eI E, 8, .inl (mix (nC (inC fo wi sp P (mi, wa, pl, qu, ca)) wa ki ca) ca P)))] H := hP
        have hD : va_D A [(h, .inr (2, [.int (mi + 1), .int fo, .int wi, .int sp, .ref qn, .int (nI P), .ref qk, .ref qp, .ref qq, .ref qc, .int (inC fo wi sp P (mi, wa, pl, qu, ca))])), (qk, .inl (eI E, 8, .inl ki)), (qp, .inl (eI E, 8, .inl (mix (nP mi wi sp (edC mi fo wi sp) ki pl) pl P))), (qq, .inl (eI E, 8, .inl (mix (nQ (inC fo wi sp P (mi, wa, pl, qu, ca)) qu) qu P))), (qc, .inl (eI E, 8, .inl (mix (nC (inC fo wi sp P (mi, wa, pl, qu, ca)) wa ki ca) ca P)))] := hD
        exact g_retv F hr hlk hS hP hD (()) (rfl) (trivial) dX2_oneMinuteGoes_80
      · have hiN : i < P := Nat.lt_of_not_le (fun h => k1 (nI_le h (by omega)))
        refine lv_iload_n F.1 F.2.1 dX2_oneMinuteGoes_20 rfl (lv_at hl 1 rfl) ?_
        refine lv_iload_n F.1 F.2.1 dX2_oneMinuteGoes_21 rfl (lv_at hl 0 rfl) ?_
        refine lv_ishr F.1 F.2.1 dX2_oneMinuteGoes_22 ?_
        refine lv_iconst (v := 1) F.1 F.2.1 dX2_oneMinuteGoes_23 (by decide) ?_
        refine lv_iand F.1 F.2.1 dX2_oneMinuteGoes_24 ?_
        refine lv_iconst (v := 1) F.1 F.2.1 dX2_oneMinuteGoes_25 (by decide) ?_
        refine lv_icmp_ne (tgt := 34) F.1 F.2.1 dX2_oneMinuteGoes_26 (by decide) (fun k2 => ?_) (fun k2 => ?_)
        · refine lv_aload_n F.1 F.2.1 dX2_oneMinuteGoes_34 rfl (lv_at hl 3 rfl) ?_
          refine g_get F hX hP hin2 0 rfl rfl 7 (by decide) (mm 2 rfl) rfl dX2_oneMinuteGoes_35 ?_
          refine lv_iload_n F.1 F.2.1 dX2_oneMinuteGoes_38 rfl (lv_at hl 0 rfl) ?_
          refine lv_aload_n F.1 F.2.1 dX2_oneMinuteGoes_39 rfl (lv_at hl 3 rfl) ?_
          refine g_get F hX hP hin2 0 rfl rfl 7 (by decide) (mm 2 rfl) rfl dX2_oneMinuteGoes_40 ?_
          refine lv_iload_n F.1 F.2.1 dX2_oneMinuteGoes_43 rfl (lv_at hl 0 rfl) ?_
          refine g_iald F hX hP 2 rfl (j := i) (rfl) (by omega) (by decide) dX2_oneMinuteGoes_44 ?_
          refine lv_aload_n F.1 F.2.1 dX2_oneMinuteGoes_45 rfl (lv_at hl 3 rfl) ?_
          refine lv_iload_n F.1 F.2.1 dX2_oneMinuteGoes_46 rfl (lv_at hl 0 rfl) ?_
          refine lv_iload_n F.1 F.2.1 dX2_oneMinuteGoes_47 rfl (lv_at hl 2 rfl) ?_
          refine g_goIr (g_runV (As := [.int (nI i), .int (edC mi fo wi sp)]) (rest := [.int ((mix (nP mi wi sp (edC mi fo wi sp) ki pl) pl i) i), .int (nI i), .ref qp]) F hX hP hD hS hA (c_X2_goes l E h mi fo wi sp P wa qn qk qp qq qc i (edC mi fo wi sp) ki (mix (nP mi wi sp (edC mi fo wi sp) ki pl) pl i) (by omega) H.size) (cwV 2 F.2.2.2.2 gX2_oneMinuteGoes_X2_goes rfl rfl rfl (by decide +kernel) ⟨Nat.le_of_ble_eq_true rfl, Nat.le_of_ble_eq_true rfl⟩) [0, 1, 2] rfl rfl (q0 := 0) (ci := 2) rfl rfl rfl hl.1 rfl (Nat.le_of_ble_eq_true rfl) dX2_oneMinuteGoes_48 ⟨Nat.le_refl _, Nat.le_refl _⟩) hP hD hS hA [0, 1, 2] rfl (fun r _ H locs hq hP hS => ?_)
          subst hq
          refine lv_iadd F.1 F.2.1 dX2_oneMinuteGoes_51 ?_
          refine lv_iconst (v := 0) F.1 F.2.1 dX2_oneMinuteGoes_52 (by decide) ?_
          refine lv_bipush (v := 29) F.1 F.2.1 dX2_oneMinuteGoes_53 (by decide) ?_
          refine g_goIr (g_runSN (As := [.int (((mix (nP mi wi sp (edC mi fo wi sp) ki pl) pl i) i) + (gqC mi wi sp (ki i) ((mix (nP mi wi sp (edC mi fo wi sp) ki pl) pl i) i) (edC mi fo wi sp))), .int 0, .int 29]) (rest := [.int (nI i), .ref qp]) F hX hP hD hS hA (c_X3_held l E (((mix (nP mi wi sp (edC mi fo wi sp) ki pl) pl i) i) + (gqC mi wi sp (ki i) ((mix (nP mi wi sp (edC mi fo wi sp) ki pl) pl i) i) (edC mi fo wi sp))) 0 29 H.size) ⟨va_cnB 3 F.2.2.2.2 gX2_oneMinuteGoes_X3_held_n75 rfl rfl rfl hX.2.1.2.2.1 (F.2.2.2.2 _ (mm 53 rfl)) (by decide +kernel) ⟨Nat.le_of_ble_eq_true rfl, Nat.le_of_ble_eq_true rfl⟩, F.2.2.2.2 _ (mm 55 rfl), trivial⟩ [] rfl rfl rfl hl.1 rfl (Nat.le_of_ble_eq_true rfl) dX2_oneMinuteGoes_55 ⟨Nat.le_refl _, Nat.le_refl _⟩) hP hD hS hA [] rfl (fun r _ H locs hq hP hS => ?_)
          subst hq
          refine g_iast F hX hP hD hS 2 rfl (j := i) (rfl) (by omega) (by decide) dX2_oneMinuteGoes_58 (fun H locs hP hD hS => ?_)
          have hP : va_P (eD E) vwCl [(h, .inr (2, [.int mi, .int fo, .int wi, .int sp, .ref qn, .int (nI P), .ref qk, .ref qp, .ref qq, .ref qc, .int wa])), (qk, .inl (eI E, 8, .inl ki)), (qp, .inl (eI E, 8, .inl (upd (mix (nP mi wi sp (edC mi fo wi sp) ki pl) pl i) i (iMax 0 (iMin 29 (((mix (nP mi wi sp (edC mi fo wi sp) ki pl) pl i) i) + (gqC mi wi sp (ki i) ((mix (nP mi wi sp (edC mi fo wi sp) ki pl) pl i) i) (edC mi fo wi sp)))))))), (qq, .inl (eI E, 8, .inl (mix (nQ (inC fo wi sp P (mi, wa, pl, qu, ca)) qu) qu i))), (qc, .inl (eI E, 8, .inl (mix (nC (inC fo wi sp P (mi, wa, pl, qu, ca)) wa ki ca) ca i)))] H := hP
          have hD : va_D A [(h, .inr (2, [.int mi, .int fo, .int wi, .int sp, .ref qn, .int (nI P), .ref qk, .ref qp, .ref qq, .ref qc, .int wa])), (qk, .inl (eI E, 8, .inl ki)), (qp, .inl (eI E, 8, .inl (upd (mix (nP mi wi sp (edC mi fo wi sp) ki pl) pl i) i (iMax 0 (iMin 29 (((mix (nP mi wi sp (edC mi fo wi sp) ki pl) pl i) i) + (gqC mi wi sp (ki i) ((mix (nP mi wi sp (edC mi fo wi sp) ki pl) pl i) i) (edC mi fo wi sp)))))))), (qq, .inl (eI E, 8, .inl (mix (nQ (inC fo wi sp P (mi, wa, pl, qu, ca)) qu) qu i))), (qc, .inl (eI E, 8, .inl (mix (nC (inC fo wi sp P (mi, wa, pl, qu, ca)) wa ki ca) ca i)))] := hD
          refine lv_iinc (v := nI (i + 1)) (lv' := [(3, .int (nI (i + 1))), (2, .int (inC fo wi sp P (mi, wa, pl, qu, ca))), (1, .int (edC mi fo wi sp)), (0, .ref h)]) F.1 F.2.1 dX2_oneMinuteGoes_59 hl (k := 0) rfl (nI_1 _) (by decide) rfl (fun ls hl => ?_)
          refine lv_goto (tgt := 12) F.1 F.2.1 dX2_oneMinuteGoes_62 (by decide) ?_
          have ecell : (upd (mix (nP mi wi sp (edC mi fo wi sp) ki pl) pl i) i (iMax 0 (iMin 29 (((mix (nP mi wi sp (edC mi fo wi sp) ki pl) pl i) i) + (gqC mi wi sp (ki i) ((mix (nP mi wi sp (edC mi fo wi sp) ki pl) pl i) i) (edC mi fo wi sp)))))) = (mix (nP mi wi sp (edC mi fo wi sp) ki pl) pl (i + 1)) := mix_step _ _ _ _ (by simp only [nP, mix_at])
          rw [ecell] at hP hD
          clear ecell
          have ecell : (mix (nQ (inC fo wi sp P (mi, wa, pl, qu, ca)) qu) qu i) = (mix (nQ (inC fo wi sp P (mi, wa, pl, qu, ca)) qu) qu (i + 1)) := by first | exact mix_same _ _ _ (by simp [nQ, bitOf, k2]) | exact mix_step _ _ _ _ (by simp [nQ, bitOf, mix_at, k2])
          rw [ecell] at hP hD
          clear ecell
          have ecell : (mix (nC (inC fo wi sp P (mi, wa, pl, qu, ca)) wa ki ca) ca i) = (mix (nC (inC fo wi sp P (mi, wa, pl, qu, ca)) wa ki ca) ca (i + 1)) := by first | exact mix_same _ _ _ (by simp [nC, bitOf, k2]) | exact mix_step _ _ _ _ (by simp [nC, bitOf, mix_at, k2])
          rw [ecell] at hP hD
          clear ecell
          have hP : va_P (eD E) vwCl [(h, .inr (2, [.int mi, .int fo, .int wi, .int sp, .ref qn, .int (nI P), .ref qk, .ref qp, .ref qq, .ref qc, .int wa])), (qk, .inl (eI E, 8, .inl ki)), (qp, .inl (eI E, 8, .inl (mix (nP mi wi sp (edC mi fo wi sp) ki pl) pl (i + 1)))), (qq, .inl (eI E, 8, .inl (mix (nQ (inC fo wi sp P (mi, wa, pl, qu, ca)) qu) qu (i + 1)))), (qc, .inl (eI E, 8, .inl (mix (nC (inC fo wi sp P (mi, wa, pl, qu, ca)) wa ki ca) ca (i + 1))))] H := hP
          have hD : va_D A [(h, .inr (2, [.int mi, .int fo, .int wi, .int sp, .ref qn, .int (nI P), .ref qk, .ref qp, .ref qq, .ref qc, .int wa])), (qk, .inl (eI E, 8, .inl ki)), (qp, .inl (eI E, 8, .inl (mix (nP mi wi sp (edC mi fo wi sp) ki pl) pl (i + 1)))), (qq, .inl (eI E, 8, .inl (mix (nQ (inC fo wi sp P (mi, wa, pl, qu, ca)) qu) qu (i + 1)))), (qc, .inl (eI E, 8, .inl (mix (nC (inC fo wi sp P (mi, wa, pl, qu, ca)) wa ki ca) ca (i + 1))))] := hD
          exact ih (i + 1) (by omega) (by omega)  _ _ _ hP hD hS (lv_sub hl [0, 1, 2, 3] rfl)
        · refine lv_aload_n F.1 F.2.1 dX2_oneMinuteGoes_29 rfl (lv_at hl 3 rfl) ?_
          refine lv_iload_n F.1 F.2.1 dX2_oneMinuteGoes_30 rfl (lv_at hl 0 rfl) ?_
          refine g_goV (wr := [(qp, .inl (eI E, 8, .inl (mix (nP mi wi sp (edC mi fo wi sp) ki pl) pl i)))]) (g_runV (As := [.int (nI i)]) (rest := []) F hX hP hD hS hA (c_X2_isInIt l E h mi fo wi sp P wa qn qk qp qq qc i ki (mix (nQ (inC fo wi sp P (mi, wa, pl, qu, ca)) qu) qu i) (mix (nC (inC fo wi sp P (mi, wa, pl, qu, ca)) wa ki ca) ca i) (by omega) H.size) (cwV 1 F.2.2.2.2 gX2_oneMinuteGoes_X2_isInIt rfl rfl rfl (by decide +kernel) ⟨Nat.le_of_ble_eq_true rfl, Nat.le_of_ble_eq_true rfl⟩) [0, 1, 3, 4] rfl rfl (q0 := 0) (ci := 2) rfl rfl rfl hl.1 rfl (Nat.le_of_ble_eq_true rfl) dX2_oneMinuteGoes_31 ⟨Nat.le_refl _, Nat.le_refl _⟩) hP hD hS hA [0, 1, 3, 4] [2] rfl rfl rfl (by decide) (fun _ H locs hq hP hD hS => ?_)
          have hP : va_P (eD E) vwCl [(h, .inr (2, [.int mi, .int fo, .int wi, .int sp, .ref qn, .int (nI P), .ref qk, .ref qp, .ref qq, .ref qc, .int wa])), (qk, .inl (eI E, 8, .inl ki)), (qp, .inl (eI E, 8, .inl (mix (nP mi wi sp (edC mi fo wi sp) ki pl) pl i))), (qq, .inl (eI E, 8, .inl (upd (mix (nQ (inC fo wi sp P (mi, wa, pl, qu, ca)) qu) qu i) i (iMin 9999 ((mix (nQ (inC fo wi sp P (mi, wa, pl, qu, ca)) qu) qu i) i + 1))))), (qc, .inl (eI E, 8, .inl (upd (mix (nC (inC fo wi sp P (mi, wa, pl, qu, ca)) wa ki ca) ca i) i (bif ctc wa (ki i) ((mix (nC (inC fo wi sp P (mi, wa, pl, qu, ca)) wa ki ca) ca i) i) i then iMin 9999 ((mix (nC (inC fo wi sp P (mi, wa, pl, qu, ca)) wa ki ca) ca i) i + 1) else (mix (nC (inC fo wi sp P (mi, wa, pl, qu, ca)) wa ki ca) ca i) i))))] H := hP.sub [1, 2, 0, 3, 4] rfl
          have hD : va_D A [(h, .inr (2, [.int mi, .int fo, .int wi, .int sp, .ref qn, .int (nI P), .ref qk, .ref qp, .ref qq, .ref qc, .int wa])), (qk, .inl (eI E, 8, .inl ki)), (qp, .inl (eI E, 8, .inl (mix (nP mi wi sp (edC mi fo wi sp) ki pl) pl i))), (qq, .inl (eI E, 8, .inl (upd (mix (nQ (inC fo wi sp P (mi, wa, pl, qu, ca)) qu) qu i) i (iMin 9999 ((mix (nQ (inC fo wi sp P (mi, wa, pl, qu, ca)) qu) qu i) i + 1))))), (qc, .inl (eI E, 8, .inl (upd (mix (nC (inC fo wi sp P (mi, wa, pl, qu, ca)) wa ki ca) ca i) i (bif ctc wa (ki i) ((mix (nC (inC fo wi sp P (mi, wa, pl, qu, ca)) wa ki ca) ca i) i) i then iMin 9999 ((mix (nC (inC fo wi sp P (mi, wa, pl, qu, ca)) wa ki ca) ca i) i + 1) else (mix (nC (inC fo wi sp P (mi, wa, pl, qu, ca)) wa ki ca) ca i) i))))] := hD.sub [1, 2, 0, 3, 4] (by decide) rfl
          refine lv_aload_n F.1 F.2.1 dX2_oneMinuteGoes_34 rfl (lv_at hl 3 rfl) ?_
          refine g_get F hX hP hin2 0 rfl rfl 7 (by decide) (mm 2 rfl) rfl dX2_oneMinuteGoes_35 ?_
          refine lv_iload_n F.1 F.2.1 dX2_oneMinuteGoes_38 rfl (lv_at hl 0 rfl) ?_
          refine lv_aload_n F.1 F.2.1 dX2_oneMinuteGoes_39 rfl (lv_at hl 3 rfl) ?_
          refine g_get F hX hP hin2 0 rfl rfl 7 (by decide) (mm 2 rfl) rfl dX2_oneMinuteGoes_40 ?_
          refine lv_iload_n F.1 F.2.1 dX2_oneMinuteGoes_43 rfl (lv_at hl 0 rfl) ?_
          refine g_iald F hX hP 2 rfl (j := i) (rfl) (by omega) (by decide) dX2_oneMinuteGoes_44 ?_
          refine lv_aload_n F.1 F.2.1 dX2_oneMinuteGoes_45 rfl (lv_at hl 3 rfl) ?_
          refine lv_iload_n F.1 F.2.1 dX2_oneMinuteGoes_46 rfl (lv_at hl 0 rfl) ?_
          refine lv_iload_n F.1 F.2.1 dX2_oneMinuteGoes_47 rfl (lv_at hl 2 rfl) ?_
          refine g_goIr (g_runV (As := [.int (nI i), .int (edC mi fo wi sp)]) (rest := [.int ((mix (nP mi wi sp (edC mi fo wi sp) ki pl) pl i) i), .int (nI i), .ref qp]) F hX hP hD hS hA (c_X2_goes l E h mi fo wi sp P wa qn qk qp qq qc i (edC mi fo wi sp) ki (mix (nP mi wi sp (edC mi fo wi sp) ki pl) pl i) (by omega) H.size) (cwV 2 F.2.2.2.2 gX2_oneMinuteGoes_X2_goes rfl rfl rfl (by decide +kernel) ⟨Nat.le_of_ble_eq_true rfl, Nat.le_of_ble_eq_true rfl⟩) [0, 1, 2] rfl rfl (q0 := 0) (ci := 2) rfl rfl rfl hl.1 rfl (Nat.le_of_ble_eq_true rfl) dX2_oneMinuteGoes_48 ⟨Nat.le_refl _, Nat.le_refl _⟩) hP hD hS hA [0, 1, 2] rfl (fun r _ H locs hq hP hS => ?_)
          subst hq
          refine lv_iadd F.1 F.2.1 dX2_oneMinuteGoes_51 ?_
          refine lv_iconst (v := 0) F.1 F.2.1 dX2_oneMinuteGoes_52 (by decide) ?_
          refine lv_bipush (v := 29) F.1 F.2.1 dX2_oneMinuteGoes_53 (by decide) ?_
          refine g_goIr (g_runSN (As := [.int (((mix (nP mi wi sp (edC mi fo wi sp) ki pl) pl i) i) + (gqC mi wi sp (ki i) ((mix (nP mi wi sp (edC mi fo wi sp) ki pl) pl i) i) (edC mi fo wi sp))), .int 0, .int 29]) (rest := [.int (nI i), .ref qp]) F hX hP hD hS hA (c_X3_held l E (((mix (nP mi wi sp (edC mi fo wi sp) ki pl) pl i) i) + (gqC mi wi sp (ki i) ((mix (nP mi wi sp (edC mi fo wi sp) ki pl) pl i) i) (edC mi fo wi sp))) 0 29 H.size) ⟨va_cnB 3 F.2.2.2.2 gX2_oneMinuteGoes_X3_held_n75 rfl rfl rfl hX.2.1.2.2.1 (F.2.2.2.2 _ (mm 53 rfl)) (by decide +kernel) ⟨Nat.le_of_ble_eq_true rfl, Nat.le_of_ble_eq_true rfl⟩, F.2.2.2.2 _ (mm 55 rfl), trivial⟩ [] rfl rfl rfl hl.1 rfl (Nat.le_of_ble_eq_true rfl) dX2_oneMinuteGoes_55 ⟨Nat.le_refl _, Nat.le_refl _⟩) hP hD hS hA [] rfl (fun r _ H locs hq hP hS => ?_)
          subst hq
          refine g_iast F hX hP hD hS 2 rfl (j := i) (rfl) (by omega) (by decide) dX2_oneMinuteGoes_58 (fun H locs hP hD hS => ?_)
          have hP : va_P (eD E) vwCl [(h, .inr (2, [.int mi, .int fo, .int wi, .int sp, .ref qn, .int (nI P), .ref qk, .ref qp, .ref qq, .ref qc, .int wa])), (qk, .inl (eI E, 8, .inl ki)), (qp, .inl (eI E, 8, .inl (upd (mix (nP mi wi sp (edC mi fo wi sp) ki pl) pl i) i (iMax 0 (iMin 29 (((mix (nP mi wi sp (edC mi fo wi sp) ki pl) pl i) i) + (gqC mi wi sp (ki i) ((mix (nP mi wi sp (edC mi fo wi sp) ki pl) pl i) i) (edC mi fo wi sp)))))))), (qq, .inl (eI E, 8, .inl (upd (mix (nQ (inC fo wi sp P (mi, wa, pl, qu, ca)) qu) qu i) i (iMin 9999 ((mix (nQ (inC fo wi sp P (mi, wa, pl, qu, ca)) qu) qu i) i + 1))))), (qc, .inl (eI E, 8, .inl (upd (mix (nC (inC fo wi sp P (mi, wa, pl, qu, ca)) wa ki ca) ca i) i (bif ctc wa (ki i) ((mix (nC (inC fo wi sp P (mi, wa, pl, qu, ca)) wa ki ca) ca i) i) i then iMin 9999 ((mix (nC (inC fo wi sp P (mi, wa, pl, qu, ca)) wa ki ca) ca i) i + 1) else (mix (nC (inC fo wi sp P (mi, wa, pl, qu, ca)) wa ki ca) ca i) i))))] H := hP
          have hD : va_D A [(h, .inr (2, [.int mi, .int fo, .int wi, .int sp, .ref qn, .int (nI P), .ref qk, .ref qp, .ref qq, .ref qc, .int wa])), (qk, .inl (eI E, 8, .inl ki)), (qp, .inl (eI E, 8, .inl (upd (mix (nP mi wi sp (edC mi fo wi sp) ki pl) pl i) i (iMax 0 (iMin 29 (((mix (nP mi wi sp (edC mi fo wi sp) ki pl) pl i) i) + (gqC mi wi sp (ki i) ((mix (nP mi wi sp (edC mi fo wi sp) ki pl) pl i) i) (edC mi fo wi sp)))))))), (qq, .inl (eI E, 8, .inl (upd (mix (nQ (inC fo wi sp P (mi, wa, pl, qu, ca)) qu) qu i) i (iMin 9999 ((mix (nQ (inC fo wi sp P (mi, wa, pl, qu, ca)) qu) qu i) i + 1))))), (qc, .inl (eI E, 8, .inl (upd (mix (nC (inC fo wi sp P (mi, wa, pl, qu, ca)) wa ki ca) ca i) i (bif ctc wa (ki i) ((mix (nC (inC fo wi sp P (mi, wa, pl, qu, ca)) wa ki ca) ca i) i) i then iMin 9999 ((mix (nC (inC fo wi sp P (mi, wa, pl, qu, ca)) wa ki ca) ca i) i + 1) else (mix (nC (inC fo wi sp P (mi, wa, pl, qu, ca)) wa ki ca) ca i) i))))] := hD
          refine lv_iinc (v := nI (i + 1)) (lv' := [(3, .int (nI (i + 1))), (2, .int (inC fo wi sp P (mi, wa, pl, qu, ca))), (1, .int (edC mi fo wi sp)), (0, .ref h)]) F.1 F.2.1 dX2_oneMinuteGoes_59 hl (k := 0) rfl (nI_1 _) (by decide) rfl (fun ls hl => ?_)
          refine lv_goto (tgt := 12) F.1 F.2.1 dX2_oneMinuteGoes_62 (by decide) ?_
          have ecell : (upd (mix (nP mi wi sp (edC mi fo wi sp) ki pl) pl i) i (iMax 0 (iMin 29 (((mix (nP mi wi sp (edC mi fo wi sp) ki pl) pl i) i) + (gqC mi wi sp (ki i) ((mix (nP mi wi sp (edC mi fo wi sp) ki pl) pl i) i) (edC mi fo wi sp)))))) = (mix (nP mi wi sp (edC mi fo wi sp) ki pl) pl (i + 1)) := mix_step _ _ _ _ (by simp only [nP, mix_at])
          rw [ecell] at hP hD
          clear ecell
          have ecell : (upd (mix (nQ (inC fo wi sp P (mi, wa, pl, qu, ca)) qu) qu i) i (iMin 9999 ((mix (nQ (inC fo wi sp P (mi, wa, pl, qu, ca)) qu) qu i) i + 1))) = (mix (nQ (inC fo wi sp P (mi, wa, pl, qu, ca)) qu) qu (i + 1)) := by first | exact mix_same _ _ _ (by simp [nQ, bitOf, k2]) | exact mix_step _ _ _ _ (by simp [nQ, bitOf, mix_at, k2])
          rw [ecell] at hP hD
          clear ecell
          have ecell : (upd (mix (nC (inC fo wi sp P (mi, wa, pl, qu, ca)) wa ki ca) ca i) i (bif ctc wa (ki i) ((mix (nC (inC fo wi sp P (mi, wa, pl, qu, ca)) wa ki ca) ca i) i) i then iMin 9999 ((mix (nC (inC fo wi sp P (mi, wa, pl, qu, ca)) wa ki ca) ca i) i + 1) else (mix (nC (inC fo wi sp P (mi, wa, pl, qu, ca)) wa ki ca) ca i) i)) = (mix (nC (inC fo wi sp P (mi, wa, pl, qu, ca)) wa ki ca) ca (i + 1)) := by first | exact mix_same _ _ _ (by simp [nC, bitOf, k2]) | exact mix_step _ _ _ _ (by simp [nC, bitOf, mix_at, k2])
          rw [ecell] at hP hD
          clear ecell
          have hP : va_P (eD E) vwCl [(h, .inr (2, [.int mi, .int fo, .int wi, .int sp, .ref qn, .int (nI P), .ref qk, .ref qp, .ref qq, .ref qc, .int wa])), (qk, .inl (eI E, 8, .inl ki)), (qp, .inl (eI E, 8, .inl (mix (nP mi wi sp (edC mi fo wi sp) ki pl) pl (i + 1)))), (qq, .inl (eI E, 8, .inl (mix (nQ (inC fo wi sp P (mi, wa, pl, qu, ca)) qu) qu (i + 1)))), (qc, .inl (eI E, 8, .inl (mix (nC (inC fo wi sp P (mi, wa, pl, qu, ca)) wa ki ca) ca (i + 1))))] H := hP
          have hD : va_D A [(h, .inr (2, [.int mi, .int fo, .int wi, .int sp, .ref qn, .int (nI P), .ref qk, .ref qp, .ref qq, .ref qc, .int wa])), (qk, .inl (eI E, 8, .inl ki)), (qp, .inl (eI E, 8, .inl (mix (nP mi wi sp (edC mi fo wi sp) ki pl) pl (i + 1)))), (qq, .inl (eI E, 8, .inl (mix (nQ (inC fo wi sp P (mi, wa, pl, qu, ca)) qu) qu (i + 1)))), (qc, .inl (eI E, 8, .inl (mix (nC (inC fo wi sp P (mi, wa, pl, qu, ca)) wa ki ca) ca (i + 1))))] := hD
          exact ih (i + 1) (by omega) (by omega)  _ _ _ hP hD hS (lv_sub hl [0, 1, 2, 3] rfl)
  have ecell : pl = (mix (nP mi wi sp (edC mi fo wi sp) ki pl) pl 0) := mix_0 _ _
  rw [ecell] at hP hD
  clear ecell
  have ecell : qu = (mix (nQ (inC fo wi sp P (mi, wa, pl, qu, ca)) qu) qu 0) := mix_0 _ _
  rw [ecell] at hP hD
  clear ecell
  have ecell : ca = (mix (nC (inC fo wi sp P (mi, wa, pl, qu, ca)) wa ki ca) ca 0) := mix_0 _ _
  rw [ecell] at hP hD
  clear ecell
  have hP : va_P (eD E) vwCl [(h, .inr (2, [.int mi, .int fo, .int wi, .int sp, .ref qn, .int (nI P), .ref qk, .ref qp, .ref qq, .ref qc, .int wa])), (qk, .inl (eI E, 8, .inl ki)), (qp, .inl (eI E, 8, .inl (mix (nP mi wi sp (edC mi fo wi sp) ki pl) pl 0))), (qq, .inl (eI E, 8, .inl (mix (nQ (inC fo wi sp P (mi, wa, pl, qu, ca)) qu) qu 0))), (qc, .inl (eI E, 8, .inl (mix (nC (inC fo wi sp P (mi, wa, pl, qu, ca)) wa ki ca) ca 0)))] H := hP
  have hD : va_D A [(h, .inr (2, [.int mi, .int fo, .int wi, .int sp, .ref qn, .int (nI P), .ref qk, .ref qp, .ref qq, .ref qc, .int wa])), (qk, .inl (eI E, 8, .inl ki)), (qp, .inl (eI E, 8, .inl (mix (nP mi wi sp (edC mi fo wi sp) ki pl) pl 0))), (qq, .inl (eI E, 8, .inl (mix (nQ (inC fo wi sp P (mi, wa, pl, qu, ca)) qu) qu 0))), (qc, .inl (eI E, 8, .inl (mix (nC (inC fo wi sp P (mi, wa, pl, qu, ca)) wa ki ca) ca 0)))] := hD
  exact lp12 (P + 1) 0 (by omega) (by omega)  _ _ _ hP hD hS (lv_sub hl [0, 1, 2, 3] rfl)
set_option maxHeartbeats 4000000 in
set_option maxRecDepth 100000 in
theorem c_X2_goOn (l : Launch) (E : gE) (h : Nat) (mi : Int32) (fo : Int32) (wi : Int32) (sp : Int32) (P : Nat) (wa : Int32) (qn : Nat) (qk : Nat) (qp : Nat) (qq : Nat) (qc : Nat) (N : Nat) (ki : Nat → Int32) (pl : Nat → Int32) (qu : Nat → Int32) (ca : Nat → Int32) (hP8 : P ≤ 8) (hN : N < 2 ^ 31) : gV l yX2_goOn wsX2_goOn ({ frames := 4, cells := 0, slots := 0, locals := 90 }) E [(h, .inr (2, [.int mi, .int fo, .int wi, .int sp, .ref qn, .int (nI P), .ref qk, .ref qp, .ref qq, .ref qc, .int wa])), (qk, .inl (eI E, 8, .inl ki)), (qp, .inl (eI E, 8, .inl pl)), (qq, .inl (eI E, 8, .inl qu)), (qc, .inl (eI E, 8, .inl ca))] (fun _ : Unit => [(h, .inr (2, [.int ((itT fo wi sp P ki N (mi, wa, pl, qu, ca)).1), .int fo, .int wi, .int sp, .ref qn, .int (nI P), .ref qk, .ref qp, .ref qq, .ref qc, .int ((itT fo wi sp P ki N (mi, wa, pl, qu, ca)).2.1)])), (qk, .inl (eI E, 8, .inl ki)), (qp, .inl (eI E, 8, .inl ((itT fo wi sp P ki N (mi, wa, pl, qu, ca)).2.2.1))), (qq, .inl (eI E, 8, .inl ((itT fo wi sp P ki N (mi, wa, pl, qu, ca)).2.2.2.1))), (qc, .inl (eI E, 8, .inl ((itT fo wi sp P ki N (mi, wa, pl, qu, ca)).2.2.2.2)))]) [.ref h, .int (nI N)] (fun (_ : Unit) => True) := by
  refine gV.of (cc := cX2_goOn) (maxL := 3) (by decide) rfl (Nat.le_of_ble_eq_true rfl) ?_
  intro pG eG sG mG below meth cG A ls H locs F hr hlk hX hP hD hA hS hl
  have hl : lv_has ls 3 [(0, .ref h), (1, .int (nI N))] := hl
  refine lv_iconst (v := 0) F.1 F.2.1 dX2_goOn_0 (by decide) ?_
  refine lv_istore_n (lv' := [(2, .int 0), (0, .ref h), (1, .int (nI N))]) F.1 F.2.1 dX2_goOn_1 rfl hl (by decide) rfl (fun ls hl => ?_)
  have lp2 : ∀ (fu i : Nat), i ≤ N → N + 1 ≤ i + fu → ∀ (H : Heap) (locs : List Loc) (ls : Array Slot), va_P (eD E) vwCl [(h, .inr (2, [.int ((itT fo wi sp P ki i (mi, wa, pl, qu, ca)).1), .int fo, .int wi, .int sp, .ref qn, .int (nI P), .ref qk, .ref qp, .ref qq, .ref qc, .int ((itT fo wi sp P ki i (mi, wa, pl, qu, ca)).2.1)])), (qk, .inl (eI E, 8, .inl ki)), (qp, .inl (eI E, 8, .inl ((itT fo wi sp P ki i (mi, wa, pl, qu, ca)).2.2.1))), (qq, .inl (eI E, 8, .inl ((itT fo wi sp P ki i (mi, wa, pl, qu, ca)).2.2.2.1))), (qc, .inl (eI E, 8, .inl ((itT fo wi sp P ki i (mi, wa, pl, qu, ca)).2.2.2.2)))] H → va_D A [(h, .inr (2, [.int ((itT fo wi sp P ki i (mi, wa, pl, qu, ca)).1), .int fo, .int wi, .int sp, .ref qn, .int (nI P), .ref qk, .ref qp, .ref qq, .ref qc, .int ((itT fo wi sp P ki i (mi, wa, pl, qu, ca)).2.1)])), (qk, .inl (eI E, 8, .inl ki)), (qp, .inl (eI E, 8, .inl ((itT fo wi sp P ki i (mi, wa, pl, qu, ca)).2.2.1))), (qq, .inl (eI E, 8, .inl ((itT fo wi sp P ki i (mi, wa, pl, qu, ca)).2.2.2.1))), (qc, .inl (eI E, 8, .inl ((itT fo wi sp P ki i (mi, wa, pl, qu, ca)).2.2.2.2)))] → va_S A sG.heap H locs → lv_has ls 3 [(2, .int (nI i)), (0, .ref h), (1, .int (nI N))] → W pG l eG { frames := 4, cells := 0, slots := 0, locals := 90 } sG mG [.ref h, .int (nI N)].toArray below meth cG H locs 0 0 (MQ below (va_Qv (fun (_ : Unit) => True) (gR E (fun _ : Unit => [(h, .inr (2, [.int ((itT fo wi sp P ki N (mi, wa, pl, qu, ca)).1), .int fo, .int wi, .int sp, .ref qn, .int (nI P), .ref qk, .ref qp, .ref qq, .ref qc, .int ((itT fo wi sp P ki N (mi, wa, pl, qu, ca)).2.1)])), (qk, .inl (eI E, 8, .inl ki)), (qp, .inl (eI E, 8, .inl ((itT fo wi sp P ki N (mi, wa, pl, qu, ca)).2.2.1))), (qq, .inl (eI E, 8, .inl ((itT fo wi sp P ki N (mi, wa, pl, qu, ca)).2.2.2.1))), (qc, .inl (eI E, 8, .inl ((itT fo wi sp P ki N (mi, wa, pl, qu, ca)).2.2.2.2)))]) A) A) [.ref h, .int (nI N)].toArray sG 0 0 A) (F0 mG 2 ls []) := by
    intro fu
    induction fu with
    | zero => intro i h1 h2; exact absurd h2 (by omega)
    | succ fu ih =>
      intro i hi hin   H locs ls hP hD hS hl
      refine lv_iload_n F.1 F.2.1 dX2_goOn_2 rfl (lv_at hl 0 rfl) ?_
      refine lv_iload_n F.1 F.2.1 dX2_goOn_3 rfl (lv_at hl 2 rfl) ?_
      refine lv_icmp_ge (tgt := 17) F.1 F.2.1 dX2_goOn_4 (by decide) (fun k1 => ?_) (fun k1 => ?_)
      · have hiN : N = i := Nat.le_antisymm ((nI_leI (by omega) (by omega)).mp k1) hi
        subst hiN
        exact g_retv F hr hlk hS hP hD (()) (rfl) (trivial) dX2_goOn_17
      · have hiN : i < N := Nat.lt_of_not_le (fun h => k1 (nI_le h (by omega)))
        refine lv_aload_n F.1 F.2.1 dX2_goOn_7 rfl (lv_at hl 1 rfl) ?_
        refine g_goV (wr := []) (g_runV (As := []) (rest := []) F hX hP hD hS hA (c_X2_oneMinuteGoes l E h ((itT fo wi sp P ki i (mi, wa, pl, qu, ca)).1) fo wi sp P ((itT fo wi sp P ki i (mi, wa, pl, qu, ca)).2.1) qn qk qp qq qc ki ((itT fo wi sp P ki i (mi, wa, pl, qu, ca)).2.2.1) ((itT fo wi sp P ki i (mi, wa, pl, qu, ca)).2.2.2.1) ((itT fo wi sp P ki i (mi, wa, pl, qu, ca)).2.2.2.2) (by assumption) H.size) (cwV 0 F.2.2.2.2 gX2_goOn_X2_oneMinuteGoes rfl rfl rfl (by decide +kernel) ⟨Nat.le_of_ble_eq_true rfl, Nat.le_of_ble_eq_true rfl⟩) [0, 1, 2, 3, 4] rfl rfl (q0 := 0) (ci := 2) rfl rfl rfl hl.1 rfl (Nat.le_of_ble_eq_true rfl) dX2_goOn_8 ⟨Nat.le_refl _, Nat.le_refl _⟩) hP hD hS hA [0, 1, 2, 3, 4] [] rfl rfl rfl (by decide) (fun _ H locs hq hP hD hS => ?_)
        have hP : va_P (eD E) vwCl [(h, .inr (2, [.int ((stT fo wi sp P ki (((itT fo wi sp P ki i (mi, wa, pl, qu, ca)).1), ((itT fo wi sp P ki i (mi, wa, pl, qu, ca)).2.1), ((itT fo wi sp P ki i (mi, wa, pl, qu, ca)).2.2.1), ((itT fo wi sp P ki i (mi, wa, pl, qu, ca)).2.2.2.1), ((itT fo wi sp P ki i (mi, wa, pl, qu, ca)).2.2.2.2))).1), .int fo, .int wi, .int sp, .ref qn, .int (nI P), .ref qk, .ref qp, .ref qq, .ref qc, .int ((stT fo wi sp P ki (((itT fo wi sp P ki i (mi, wa, pl, qu, ca)).1), ((itT fo wi sp P ki i (mi, wa, pl, qu, ca)).2.1), ((itT fo wi sp P ki i (mi, wa, pl, qu, ca)).2.2.1), ((itT fo wi sp P ki i (mi, wa, pl, qu, ca)).2.2.2.1), ((itT fo wi sp P ki i (mi, wa, pl, qu, ca)).2.2.2.2))).2.1)])), (qk, .inl (eI E, 8, .inl ki)), (qp, .inl (eI E, 8, .inl ((stT fo wi sp P ki (((itT fo wi sp P ki i (mi, wa, pl, qu, ca)).1), ((itT fo wi sp P ki i (mi, wa, pl, qu, ca)).2.1), ((itT fo wi sp P ki i (mi, wa, pl, qu, ca)).2.2.1), ((itT fo wi sp P ki i (mi, wa, pl, qu, ca)).2.2.2.1), ((itT fo wi sp P ki i (mi, wa, pl, qu, ca)).2.2.2.2))).2.2.1))), (qq, .inl (eI E, 8, .inl ((stT fo wi sp P ki (((itT fo wi sp P ki i (mi, wa, pl, qu, ca)).1), ((itT fo wi sp P ki i (mi, wa, pl, qu, ca)).2.1), ((itT fo wi sp P ki i (mi, wa, pl, qu, ca)).2.2.1), ((itT fo wi sp P ki i (mi, wa, pl, qu, ca)).2.2.2.1), ((itT fo wi sp P ki i (mi, wa, pl, qu, ca)).2.2.2.2))).2.2.2.1))), (qc, .inl (eI E, 8, .inl ((stT fo wi sp P ki (((itT fo wi sp P ki i (mi, wa, pl, qu, ca)).1), ((itT fo wi sp P ki i (mi, wa, pl, qu, ca)).2.1), ((itT fo wi sp P ki i (mi, wa, pl, qu, ca)).2.2.1), ((itT fo wi sp P ki i (mi, wa, pl, qu, ca)).2.2.2.1), ((itT fo wi sp P ki i (mi, wa, pl, qu, ca)).2.2.2.2))).2.2.2.2)))] H := hP.sub [0, 1, 2, 3, 4] rfl
        have hD : va_D A [(h, .inr (2, [.int ((stT fo wi sp P ki (((itT fo wi sp P ki i (mi, wa, pl, qu, ca)).1), ((itT fo wi sp P ki i (mi, wa, pl, qu, ca)).2.1), ((itT fo wi sp P ki i (mi, wa, pl, qu, ca)).2.2.1), ((itT fo wi sp P ki i (mi, wa, pl, qu, ca)).2.2.2.1), ((itT fo wi sp P ki i (mi, wa, pl, qu, ca)).2.2.2.2))).1), .int fo, .int wi, .int sp, .ref qn, .int (nI P), .ref qk, .ref qp, .ref qq, .ref qc, .int ((stT fo wi sp P ki (((itT fo wi sp P ki i (mi, wa, pl, qu, ca)).1), ((itT fo wi sp P ki i (mi, wa, pl, qu, ca)).2.1), ((itT fo wi sp P ki i (mi, wa, pl, qu, ca)).2.2.1), ((itT fo wi sp P ki i (mi, wa, pl, qu, ca)).2.2.2.1), ((itT fo wi sp P ki i (mi, wa, pl, qu, ca)).2.2.2.2))).2.1)])), (qk, .inl (eI E, 8, .inl ki)), (qp, .inl (eI E, 8, .inl ((stT fo wi sp P ki (((itT fo wi sp P ki i (mi, wa, pl, qu, ca)).1), ((itT fo wi sp P ki i (mi, wa, pl, qu, ca)).2.1), ((itT fo wi sp P ki i (mi, wa, pl, qu, ca)).2.2.1), ((itT fo wi sp P ki i (mi, wa, pl, qu, ca)).2.2.2.1), ((itT fo wi sp P ki i (mi, wa, pl, qu, ca)).2.2.2.2))).2.2.1))), (qq, .inl (eI E, 8, .inl ((stT fo wi sp P ki (((itT fo wi sp P ki i (mi, wa, pl, qu, ca)).1), ((itT fo wi sp P ki i (mi, wa, pl, qu, ca)).2.1), ((itT fo wi sp P ki i (mi, wa, pl, qu, ca)).2.2.1), ((itT fo wi sp P ki i (mi, wa, pl, qu, ca)).2.2.2.1), ((itT fo wi sp P ki i (mi, wa, pl, qu, ca)).2.2.2.2))).2.2.2.1))), (qc, .inl (eI E, 8, .inl ((stT fo wi sp P ki (((itT fo wi sp P ki i (mi, wa, pl, qu, ca)).1), ((itT fo wi sp P ki i (mi, wa, pl, qu, ca)).2.1), ((itT fo wi sp P ki i (mi, wa, pl, qu, ca)).2.2.1), ((itT fo wi sp P ki i (mi, wa, pl, qu, ca)).2.2.2.1), ((itT fo wi sp P ki i (mi, wa, pl, qu, ca)).2.2.2.2))).2.2.2.2)))] := hD.sub [0, 1, 2, 3, 4] (by decide) rfl
        refine lv_iinc (v := nI (i + 1)) (lv' := [(2, .int (nI (i + 1))), (0, .ref h), (1, .int (nI N))]) F.1 F.2.1 dX2_goOn_11 hl (k := 0) rfl (nI_1 _) (by decide) rfl (fun ls hl => ?_)
        refine lv_goto (tgt := 2) F.1 F.2.1 dX2_goOn_14 (by decide) ?_
        have hP : va_P (eD E) vwCl [(h, .inr (2, [.int ((itT fo wi sp P ki (i + 1) (mi, wa, pl, qu, ca)).1), .int fo, .int wi, .int sp, .ref qn, .int (nI P), .ref qk, .ref qp, .ref qq, .ref qc, .int ((itT fo wi sp P ki (i + 1) (mi, wa, pl, qu, ca)).2.1)])), (qk, .inl (eI E, 8, .inl ki)), (qp, .inl (eI E, 8, .inl ((itT fo wi sp P ki (i + 1) (mi, wa, pl, qu, ca)).2.2.1))), (qq, .inl (eI E, 8, .inl ((itT fo wi sp P ki (i + 1) (mi, wa, pl, qu, ca)).2.2.2.1))), (qc, .inl (eI E, 8, .inl ((itT fo wi sp P ki (i + 1) (mi, wa, pl, qu, ca)).2.2.2.2)))] H := hP
        have hD : va_D A [(h, .inr (2, [.int ((itT fo wi sp P ki (i + 1) (mi, wa, pl, qu, ca)).1), .int fo, .int wi, .int sp, .ref qn, .int (nI P), .ref qk, .ref qp, .ref qq, .ref qc, .int ((itT fo wi sp P ki (i + 1) (mi, wa, pl, qu, ca)).2.1)])), (qk, .inl (eI E, 8, .inl ki)), (qp, .inl (eI E, 8, .inl ((itT fo wi sp P ki (i + 1) (mi, wa, pl, qu, ca)).2.2.1))), (qq, .inl (eI E, 8, .inl ((itT fo wi sp P ki (i + 1) (mi, wa, pl, qu, ca)).2.2.2.1))), (qc, .inl (eI E, 8, .inl ((itT fo wi sp P ki (i + 1) (mi, wa, pl, qu, ca)).2.2.2.2)))] := hD
        exact ih (i + 1) (by omega) (by omega)  _ _ _ hP hD hS (lv_sub hl [0, 1, 2] rfl)
  have hP : va_P (eD E) vwCl [(h, .inr (2, [.int ((itT fo wi sp P ki 0 (mi, wa, pl, qu, ca)).1), .int fo, .int wi, .int sp, .ref qn, .int (nI P), .ref qk, .ref qp, .ref qq, .ref qc, .int ((itT fo wi sp P ki 0 (mi, wa, pl, qu, ca)).2.1)])), (qk, .inl (eI E, 8, .inl ki)), (qp, .inl (eI E, 8, .inl ((itT fo wi sp P ki 0 (mi, wa, pl, qu, ca)).2.2.1))), (qq, .inl (eI E, 8, .inl ((itT fo wi sp P ki 0 (mi, wa, pl, qu, ca)).2.2.2.1))), (qc, .inl (eI E, 8, .inl ((itT fo wi sp P ki 0 (mi, wa, pl, qu, ca)).2.2.2.2)))] H := hP
  have hD : va_D A [(h, .inr (2, [.int ((itT fo wi sp P ki 0 (mi, wa, pl, qu, ca)).1), .int fo, .int wi, .int sp, .ref qn, .int (nI P), .ref qk, .ref qp, .ref qq, .ref qc, .int ((itT fo wi sp P ki 0 (mi, wa, pl, qu, ca)).2.1)])), (qk, .inl (eI E, 8, .inl ki)), (qp, .inl (eI E, 8, .inl ((itT fo wi sp P ki 0 (mi, wa, pl, qu, ca)).2.2.1))), (qq, .inl (eI E, 8, .inl ((itT fo wi sp P ki 0 (mi, wa, pl, qu, ca)).2.2.2.1))), (qc, .inl (eI E, 8, .inl ((itT fo wi sp P ki 0 (mi, wa, pl, qu, ca)).2.2.2.2)))] := hD
  exact lp2 (N + 1) 0 (by omega) (by omega)  _ _ _ hP hD hS (lv_sub hl [0, 1, 2] rfl)
set_option maxHeartbeats 4000000 in
set_option maxRecDepth 100000 in
theorem c_X2_becomeEmpty (l : Launch) (E : gE) (h : Nat) (mi : Int32) (fo : Int32) (wi : Int32) (sp : Int32) (P : Nat) (wa : Int32) (qn : Nat) (qk : Nat) (qp : Nat) (qq : Nat) (qc : Nat) (o : Nat) (mi2 : Int32) (fo2 : Int32) (wi2 : Int32) (sp2 : Int32) (P2 : Nat) (wa2 : Int32) (qn2 : Nat) (qk2 : Nat) (qp2 : Nat) (qq2 : Nat) (qc2 : Nat) (no : Nat → Int32) (no2 : Nat → Int32) : gV l yX2_becomeEmpty wsX2_becomeEmpty ({ frames := 1, cells := 0, slots := 0, locals := 18 }) E [(h, .inr (2, [.int mi, .int fo, .int wi, .int sp, .ref qn, .int (nI P), .ref qk, .ref qp, .ref qq, .ref qc, .int wa])), (qn, .inl (eI E, 30, .inl no)), (o, .inr (2, [.int mi2, .int fo2, .int wi2, .int sp2, .ref qn2, .int (nI P2), .ref qk2, .ref qp2, .ref qq2, .ref qc2, .int wa2])), (qn2, .inl (eI E, 30, .inl no2))] (fun _ : Unit => [(h, .inr (2, [.int mi2, .int fo2, .int wi2, .int sp2, .ref qn, .int (nI 0), .ref qk, .ref qp, .ref qq, .ref qc, .int 0])), (qn, .inl (eI E, 30, .inl no2)), (o, .inr (2, [.int mi2, .int fo2, .int wi2, .int sp2, .ref qn2, .int (nI P2), .ref qk2, .ref qp2, .ref qq2, .ref qc2, .int wa2])), (qn2, .inl (eI E, 30, .inl no2))]) [.ref h, .ref o] (fun (_ : Unit) => True) := by
  have hin2 : ∀ w ∈ wsX20, w ∈ wsX2_becomeEmpty := (fun _ h => (List.mem_cons_of_mem _ (List.mem_append_right _ h)))
  refine gV.of (cc := cX2_becomeEmpty) (maxL := 2) (by decide) rfl (Nat.le_of_ble_eq_true rfl) ?_
  intro pG eG sG mG below meth cG A ls H locs F hr hlk hX hP hD hA hS hl
  have hl : lv_has ls 2 [(0, .ref h), (1, .ref o)] := hl
  refine lv_aload_n F.1 F.2.1 dX2_becomeEmpty_0 rfl (lv_at hl 0 rfl) ?_
  refine lv_aload_n F.1 F.2.1 dX2_becomeEmpty_1 rfl (lv_at hl 1 rfl) ?_
  refine g_get F hX hP hin2 2 rfl rfl 0 (by decide) (mm 1 rfl) rfl dX2_becomeEmpty_2 ?_
  refine g_put F hX hP hD hS hin2 tyX2 tyX2_ok nmX2 0 rfl rfl 0 (by decide) (mm 1 rfl) rfl (rfl) (rfl) (Nat.le_of_ble_eq_true rfl) dX2_becomeEmpty_5 (fun H locs hP hD hS => ?_)
  have hP : va_P (eD E) vwCl [(h, .inr (2, [.int mi2, .int fo, .int wi, .int sp, .ref qn, .int (nI P), .ref qk, .ref qp, .ref qq, .ref qc, .int wa])), (qn, .inl (eI E, 30, .inl no)), (o, .inr (2, [.int mi2, .int fo2, .int wi2, .int sp2, .ref qn2, .int (nI P2), .ref qk2, .ref qp2, .ref qq2, .ref qc2, .int wa2])), (qn2, .inl (eI E, 30, .inl no2))] H := hP
  have hD : va_D A [(h, .inr (2, [.int mi2, .int fo, .int wi, .int sp, .ref qn, .int (nI P), .ref qk, .ref qp, .ref qq, .ref qc, .int wa])), (qn, .inl (eI E, 30, .inl no)), (o, .inr (2, [.int mi2, .int fo2, .int wi2, .int sp2, .ref qn2, .int (nI P2), .ref qk2, .ref qp2, .ref qq2, .ref qc2, .int wa2])), (qn2, .inl (eI E, 30, .inl no2))] := hD
  refine lv_aload_n F.1 F.2.1 dX2_becomeEmpty_8 rfl (lv_at hl 0 rfl) ?_
  refine lv_aload_n F.1 F.2.1 dX2_becomeEmpty_9 rfl (lv_at hl 1 rfl) ?_
  refine g_get F hX hP hin2 2 rfl rfl 1 (by decide) (mm 2 rfl) rfl dX2_becomeEmpty_10 ?_
  refine g_put F hX hP hD hS hin2 tyX2 tyX2_ok nmX2 0 rfl rfl 1 (by decide) (mm 2 rfl) rfl (rfl) (rfl) (Nat.le_of_ble_eq_true rfl) dX2_becomeEmpty_13 (fun H locs hP hD hS => ?_)
  have hP : va_P (eD E) vwCl [(h, .inr (2, [.int mi2, .int fo2, .int wi, .int sp, .ref qn, .int (nI P), .ref qk, .ref qp, .ref qq, .ref qc, .int wa])), (qn, .inl (eI E, 30, .inl no)), (o, .inr (2, [.int mi2, .int fo2, .int wi2, .int sp2, .ref qn2, .int (nI P2), .ref qk2, .ref qp2, .ref qq2, .ref qc2, .int wa2])), (qn2, .inl (eI E, 30, .inl no2))] H := hP
  have hD : va_D A [(h, .inr (2, [.int mi2, .int fo2, .int wi, .int sp, .ref qn, .int (nI P), .ref qk, .ref qp, .ref qq, .ref qc, .int wa])), (qn, .inl (eI E, 30, .inl no)), (o, .inr (2, [.int mi2, .int fo2, .int wi2, .int sp2, .ref qn2, .int (nI P2), .ref qk2, .ref qp2, .ref qq2, .ref qc2, .int wa2])), (qn2, .inl (eI E, 30, .inl no2))] := hD
  refine lv_aload_n F.1 F.2.1 dX2_becomeEmpty_16 rfl (lv_at hl 0 rfl) ?_
  refine lv_aload_n F.1 F.2.1 dX2_becomeEmpty_17 rfl (lv_at hl 1 rfl) ?_
  refine g_get F hX hP hin2 2 rfl rfl 2 (by decide) (mm 3 rfl) rfl dX2_becomeEmpty_18 ?_
  refine g_put F hX hP hD hS hin2 tyX2 tyX2_ok nmX2 0 rfl rfl 2 (by decide) (mm 3 rfl) rfl (rfl) (rfl) (Nat.le_of_ble_eq_true rfl) dX2_becomeEmpty_21 (fun H locs hP hD hS => ?_)
  have hP : va_P (eD E) vwCl [(h, .inr (2, [.int mi2, .int fo2, .int wi2, .int sp, .ref qn, .int (nI P), .ref qk, .ref qp, .ref qq, .ref qc, .int wa])), (qn, .inl (eI E, 30, .inl no)), (o, .inr (2, [.int mi2, .int fo2, .int wi2, .int sp2, .ref qn2, .int (nI P2), .ref qk2, .ref qp2, .ref qq2, .ref qc2, .int wa2])), (qn2, .inl (eI E, 30, .inl no2))] H := hP
  have hD : va_D A [(h, .inr (2, [.int mi2, .int fo2, .int wi2, .int sp, .ref qn, .int (nI P), .ref qk, .ref qp, .ref qq, .ref qc, .int wa])), (qn, .inl (eI E, 30, .inl no)), (o, .inr (2, [.int mi2, .int fo2, .int wi2, .int sp2, .ref qn2, .int (nI P2), .ref qk2, .ref qp2, .ref qq2, .ref qc2, .int wa2])), (qn2, .inl (eI E, 30, .inl no2))] := hD
  refine lv_aload_n F.1 F.2.1 dX2_becomeEmpty_24 rfl (lv_at hl 0 rfl) ?_
  refine lv_aload_n F.1 F.2.1 dX2_becomeEmpty_25 rfl (lv_at hl 1 rfl) ?_
  refine g_get F hX hP hin2 2 rfl rfl 3 (by decide) (mm 4 rfl) rfl dX2_becomeEmpty_26 ?_
  refine g_put F hX hP hD hS hin2 tyX2 tyX2_ok nmX2 0 rfl rfl 3 (by decide) (mm 4 rfl) rfl (rfl) (rfl) (Nat.le_of_ble_eq_true rfl) dX2_becomeEmpty_29 (fun H locs hP hD hS => ?_)
  have hP : va_P (eD E) vwCl [(h, .inr (2, [.int mi2, .int fo2, .int wi2, .int sp2, .ref qn, .int (nI P), .ref qk, .ref qp, .ref qq, .ref qc, .int wa])), (qn, .inl (eI E, 30, .inl no)), (o, .inr (2, [.int mi2, .int fo2, .int wi2, .int sp2, .ref qn2, .int (nI P2), .ref qk2, .ref qp2, .ref qq2, .ref qc2, .int wa2])), (qn2, .inl (eI E, 30, .inl no2))] H := hP
  have hD : va_D A [(h, .inr (2, [.int mi2, .int fo2, .int wi2, .int sp2, .ref qn, .int (nI P), .ref qk, .ref qp, .ref qq, .ref qc, .int wa])), (qn, .inl (eI E, 30, .inl no)), (o, .inr (2, [.int mi2, .int fo2, .int wi2, .int sp2, .ref qn2, .int (nI P2), .ref qk2, .ref qp2, .ref qq2, .ref qc2, .int wa2])), (qn2, .inl (eI E, 30, .inl no2))] := hD
  refine lv_aload_n F.1 F.2.1 dX2_becomeEmpty_32 rfl (lv_at hl 1 rfl) ?_
  refine g_get F hX hP hin2 2 rfl rfl 4 (by decide) (mm 5 rfl) rfl dX2_becomeEmpty_33 ?_
  refine lv_iconst (v := 0) F.1 F.2.1 dX2_becomeEmpty_36 (by decide) ?_
  refine lv_aload_n F.1 F.2.1 dX2_becomeEmpty_37 rfl (lv_at hl 0 rfl) ?_
  refine g_get F hX hP hin2 0 rfl rfl 4 (by decide) (mm 5 rfl) rfl dX2_becomeEmpty_38 ?_
  refine lv_iconst (v := 0) F.1 F.2.1 dX2_becomeEmpty_41 (by decide) ?_
  refine lv_bipush (v := 30) F.1 F.2.1 dX2_becomeEmpty_42 (by decide) ?_
  refine g_copyi F hl hX (mm 6 rfl) (mm 7 rfl) (mm 8 rfl) (mm 9 rfl) hP hD hS 3 1 rfl rfl (sp := 0) (dp := 0) (n := 30) (rfl) (rfl) (rfl) (by decide) (by decide) (Nat.le_of_ble_eq_true rfl) (Nat.le_of_ble_eq_true rfl) dX2_becomeEmpty_44 (fun H locs hP hD hS => ?_)
  have hP : va_P (eD E) vwCl [(h, .inr (2, [.int mi2, .int fo2, .int wi2, .int sp2, .ref qn, .int (nI P), .ref qk, .ref qp, .ref qq, .ref qc, .int wa])), (qn, .inl (eI E, 30, .inl (va_cpy no2 no 0 0 30))), (o, .inr (2, [.int mi2, .int fo2, .int wi2, .int sp2, .ref qn2, .int (nI P2), .ref qk2, .ref qp2, .ref qq2, .ref qc2, .int wa2])), (qn2, .inl (eI E, 30, .inl no2))] H := hP
  have hD : va_D A [(h, .inr (2, [.int mi2, .int fo2, .int wi2, .int sp2, .ref qn, .int (nI P), .ref qk, .ref qp, .ref qq, .ref qc, .int wa])), (qn, .inl (eI E, 30, .inl (va_cpy no2 no 0 0 30))), (o, .inr (2, [.int mi2, .int fo2, .int wi2, .int sp2, .ref qn2, .int (nI P2), .ref qk2, .ref qp2, .ref qq2, .ref qc2, .int wa2])), (qn2, .inl (eI E, 30, .inl no2))] := hD
  have hP : va_P (eD E) vwCl [(h, .inr (2, [.int mi2, .int fo2, .int wi2, .int sp2, .ref qn, .int (nI P), .ref qk, .ref qp, .ref qq, .ref qc, .int wa])), (qn, .inl (eI E, 30, .inl no2)), (o, .inr (2, [.int mi2, .int fo2, .int wi2, .int sp2, .ref qn2, .int (nI P2), .ref qk2, .ref qp2, .ref qq2, .ref qc2, .int wa2])), (qn2, .inl (eI E, 30, .inl no2))] H := g_ext hP 1 (no2) rfl (fun j hj => sb_cpy0 hj)
  have hD : va_D A [(h, .inr (2, [.int mi2, .int fo2, .int wi2, .int sp2, .ref qn, .int (nI P), .ref qk, .ref qp, .ref qq, .ref qc, .int wa])), (qn, .inl (eI E, 30, .inl no2)), (o, .inr (2, [.int mi2, .int fo2, .int wi2, .int sp2, .ref qn2, .int (nI P2), .ref qk2, .ref qp2, .ref qq2, .ref qc2, .int wa2])), (qn2, .inl (eI E, 30, .inl no2))] := hD.set (p := 1) rfl
  refine lv_aload_n F.1 F.2.1 dX2_becomeEmpty_47 rfl (lv_at hl 0 rfl) ?_
  refine lv_iconst (v := 0) F.1 F.2.1 dX2_becomeEmpty_48 (by decide) ?_
  refine g_put F hX hP hD hS hin2 tyX2 tyX2_ok nmX2 0 rfl rfl 5 (by decide) (mm 10 rfl) rfl (rfl) (rfl) (Nat.le_of_ble_eq_true rfl) dX2_becomeEmpty_49 (fun H locs hP hD hS => ?_)
  have hP : va_P (eD E) vwCl [(h, .inr (2, [.int mi2, .int fo2, .int wi2, .int sp2, .ref qn, .int 0, .ref qk, .ref qp, .ref qq, .ref qc, .int wa])), (qn, .inl (eI E, 30, .inl no2)), (o, .inr (2, [.int mi2, .int fo2, .int wi2, .int sp2, .ref qn2, .int (nI P2), .ref qk2, .ref qp2, .ref qq2, .ref qc2, .int wa2])), (qn2, .inl (eI E, 30, .inl no2))] H := hP
  have hD : va_D A [(h, .inr (2, [.int mi2, .int fo2, .int wi2, .int sp2, .ref qn, .int 0, .ref qk, .ref qp, .ref qq, .ref qc, .int wa])), (qn, .inl (eI E, 30, .inl no2)), (o, .inr (2, [.int mi2, .int fo2, .int wi2, .int sp2, .ref qn2, .int (nI P2), .ref qk2, .ref qp2, .ref qq2, .ref qc2, .int wa2])), (qn2, .inl (eI E, 30, .inl no2))] := hD
  refine lv_aload_n F.1 F.2.1 dX2_becomeEmpty_52 rfl (lv_at hl 0 rfl) ?_
  refine lv_iconst (v := 0) F.1 F.2.1 dX2_becomeEmpty_53 (by decide) ?_
  refine g_put F hX hP hD hS hin2 tyX2 tyX2_ok nmX2 0 rfl rfl 10 (by decide) (mm 11 rfl) rfl (rfl) (rfl) (Nat.le_of_ble_eq_true rfl) dX2_becomeEmpty_54 (fun H locs hP hD hS => ?_)
  have hP : va_P (eD E) vwCl [(h, .inr (2, [.int mi2, .int fo2, .int wi2, .int sp2, .ref qn, .int 0, .ref qk, .ref qp, .ref qq, .ref qc, .int 0])), (qn, .inl (eI E, 30, .inl no2)), (o, .inr (2, [.int mi2, .int fo2, .int wi2, .int sp2, .ref qn2, .int (nI P2), .ref qk2, .ref qp2, .ref qq2, .ref qc2, .int wa2])), (qn2, .inl (eI E, 30, .inl no2))] H := hP
  have hD : va_D A [(h, .inr (2, [.int mi2, .int fo2, .int wi2, .int sp2, .ref qn, .int 0, .ref qk, .ref qp, .ref qq, .ref qc, .int 0])), (qn, .inl (eI E, 30, .inl no2)), (o, .inr (2, [.int mi2, .int fo2, .int wi2, .int sp2, .ref qn2, .int (nI P2), .ref qk2, .ref qp2, .ref qq2, .ref qc2, .int wa2])), (qn2, .inl (eI E, 30, .inl no2))] := hD
  exact g_retv F hr hlk hS hP hD (()) (rfl) (trivial) dX2_becomeEmpty_57
set_option maxHeartbeats 4000000 in
set_option maxRecDepth 100000 in
theorem c_X2_become (l : Launch) (E : gE) (h : Nat) (mi : Int32) (fo : Int32) (wi : Int32) (sp : Int32) (P : Nat) (wa : Int32) (qn : Nat) (qk : Nat) (qp : Nat) (qq : Nat) (qc : Nat) (o : Nat) (mi2 : Int32) (fo2 : Int32) (wi2 : Int32) (sp2 : Int32) (P2 : Nat) (wa2 : Int32) (qn2 : Nat) (qk2 : Nat) (qp2 : Nat) (qq2 : Nat) (qc2 : Nat) (no : Nat → Int32) (ki : Nat → Int32) (pl : Nat → Int32) (qu : Nat → Int32) (ca : Nat → Int32) (no2 : Nat → Int32) (ki2 : Nat → Int32) (pl2 : Nat → Int32) (qu2 : Nat → Int32) (ca2 : Nat → Int32) : gV l yX2_become wsX2_become ({ frames := 2, cells := 0, slots := 0, locals := 39 }) E [(h, .inr (2, [.int mi, .int fo, .int wi, .int sp, .ref qn, .int (nI P), .ref qk, .ref qp, .ref qq, .ref qc, .int wa])), (qn, .inl (eI E, 30, .inl no)), (qk, .inl (eI E, 8, .inl ki)), (qp, .inl (eI E, 8, .inl pl)), (qq, .inl (eI E, 8, .inl qu)), (qc, .inl (eI E, 8, .inl ca)), (o, .inr (2, [.int mi2, .int fo2, .int wi2, .int sp2, .ref qn2, .int (nI P2), .ref qk2, .ref qp2, .ref qq2, .ref qc2, .int wa2])), (qn2, .inl (eI E, 30, .inl no2)), (qk2, .inl (eI E, 8, .inl ki2)), (qp2, .inl (eI E, 8, .inl pl2)), (qq2, .inl (eI E, 8, .inl qu2)), (qc2, .inl (eI E, 8, .inl ca2))] (fun _ : Unit => [(h, .inr (2, [.int mi2, .int fo2, .int wi2, .int sp2, .ref qn, .int (nI P2), .ref qk, .ref qp, .ref qq, .ref qc, .int wa2])), (qn, .inl (eI E, 30, .inl no2)), (qk, .inl (eI E, 8, .inl ki2)), (qp, .inl (eI E, 8, .inl pl2)), (qq, .inl (eI E, 8, .inl qu2)), (qc, .inl (eI E, 8, .inl ca2)), (o, .inr (2, [.int mi2, .int fo2, .int wi2, .int sp2, .ref qn2, .int (nI P2), .ref qk2, .ref qp2, .ref qq2, .ref qc2, .int wa2])), (qn2, .inl (eI E, 30, .inl no2)), (qk2, .inl (eI E, 8, .inl ki2)), (qp2, .inl (eI E, 8, .inl pl2)), (qq2, .inl (eI E, 8, .inl qu2)), (qc2, .inl (eI E, 8, .inl ca2))]) [.ref h, .ref o] (fun (_ : Unit) => True) := by
  have hin2 : ∀ w ∈ wsX20, w ∈ wsX2_become := (fun _ h => (List.mem_cons_of_mem _ (List.mem_append_right _ h)))
  refine gV.of (cc := cX2_become) (maxL := 2) (by decide) rfl (Nat.le_of_ble_eq_true rfl) ?_
  intro pG eG sG mG below meth cG A ls H locs F hr hlk hX hP hD hA hS hl
  have hl : lv_has ls 2 [(0, .ref h), (1, .ref o)] := hl
  refine lv_aload_n F.1 F.2.1 dX2_become_0 rfl (lv_at hl 0 rfl) ?_
  refine lv_aload_n F.1 F.2.1 dX2_become_1 rfl (lv_at hl 1 rfl) ?_
  refine g_goV (wr := [(qk, .inl (eI E, 8, .inl ki)), (qp, .inl (eI E, 8, .inl pl)), (qq, .inl (eI E, 8, .inl qu)), (qc, .inl (eI E, 8, .inl ca)), (qk2, .inl (eI E, 8, .inl ki2)), (qp2, .inl (eI E, 8, .inl pl2)), (qq2, .inl (eI E, 8, .inl qu2)), (qc2, .inl (eI E, 8, .inl ca2))]) (g_runV (As := [.ref o]) (rest := []) F hX hP hD hS hA (c_X2_becomeEmpty l E h mi fo wi sp P wa qn qk qp qq qc o mi2 fo2 wi2 sp2 P2 wa2 qn2 qk2 qp2 qq2 qc2 no no2 H.size) (cwV 1 F.2.2.2.2 gX2_become_X2_becomeEmpty rfl rfl rfl (by decide +kernel) ⟨Nat.le_of_ble_eq_true rfl, Nat.le_of_ble_eq_true rfl⟩) [0, 1, 6, 7] rfl rfl (q0 := 0) (ci := 2) rfl rfl rfl hl.1 rfl (Nat.le_of_ble_eq_true rfl) dX2_become_2 ⟨Nat.le_refl _, Nat.le_refl _⟩) hP hD hS hA [0, 1, 6, 7] [2, 3, 4, 5, 8, 9, 10, 11] rfl rfl rfl (by decide) (fun _ H locs hq hP hD hS => ?_)
  have hP : va_P (eD E) vwCl [(h, .inr (2, [.int mi2, .int fo2, .int wi2, .int sp2, .ref qn, .int (nI 0), .ref qk, .ref qp, .ref qq, .ref qc, .int 0])), (qn, .inl (eI E, 30, .inl no2)), (qk, .inl (eI E, 8, .inl ki)), (qp, .inl (eI E, 8, .inl pl)), (qq, .inl (eI E, 8, .inl qu)), (qc, .inl (eI E, 8, .inl ca)), (o, .inr (2, [.int mi2, .int fo2, .int wi2, .int sp2, .ref qn2, .int (nI P2), .ref qk2, .ref qp2, .ref qq2, .ref qc2, .int wa2])), (qn2, .inl (eI E, 30, .inl no2)), (qk2, .inl (eI E, 8, .inl ki2)), (qp2, .inl (eI E, 8, .inl pl2)), (qq2, .inl (eI E, 8, .inl qu2)), (qc2, .inl (eI E, 8, .inl ca2))] H := hP.sub [8, 9, 0, 1, 2, 3, 10, 11, 4, 5, 6, 7] rfl
  have hD : va_D A [(h, .inr (2, [.int mi2, .int fo2, .int wi2, .int sp2, .ref qn, .int (nI 0), .ref qk, .ref qp, .ref qq, .ref qc, .int 0])), (qn, .inl (eI E, 30, .inl no2)), (qk, .inl (eI E, 8, .inl ki)), (qp, .inl (eI E, 8, .inl pl)), (qq, .inl (eI E, 8, .inl qu)), (qc, .inl (eI E, 8, .inl ca)), (o, .inr (2, [.int mi2, .int fo2, .int wi2, .int sp2, .ref qn2, .int (nI P2), .ref qk2, .ref qp2, .ref qq2, .ref qc2, .int wa2])), (qn2, .inl (eI E, 30, .inl no2)), (qk2, .inl (eI E, 8, .inl ki2)), (qp2, .inl (eI E, 8, .inl pl2)), (qq2, .inl (eI E, 8, .inl qu2)), (qc2, .inl (eI E, 8, .inl ca2))] := hD.sub [8, 9, 0, 1, 2, 3, 10, 11, 4, 5, 6, 7] (by decide) rfl
  refine lv_aload_n F.1 F.2.1 dX2_become_5 rfl (lv_at hl 0 rfl) ?_
  refine lv_aload_n F.1 F.2.1 dX2_become_6 rfl (lv_at hl 1 rfl) ?_
  refine g_get F hX hP hin2 6 rfl rfl 5 (by decide) (mm 1 rfl) rfl dX2_become_7 ?_
  refine g_put F hX hP hD hS hin2 tyX2 tyX2_ok nmX2 0 rfl rfl 5 (by decide) (mm 1 rfl) rfl (rfl) (rfl) (Nat.le_of_ble_eq_true rfl) dX2_become_10 (fun H locs hP hD hS => ?_)
  have hP : va_P (eD E) vwCl [(h, .inr (2, [.int mi2, .int fo2, .int wi2, .int sp2, .ref qn, .int (nI P2), .ref qk, .ref qp, .ref qq, .ref qc, .int 0])), (qn, .inl (eI E, 30, .inl no2)), (qk, .inl (eI E, 8, .inl ki)), (qp, .inl (eI E, 8, .inl pl)), (qq, .inl (eI E, 8, .inl qu)), (qc, .inl (eI E, 8, .inl ca)), (o, .inr (2, [.int mi2, .int fo2, .int wi2, .int sp2, .ref qn2, .int (nI P2), .ref qk2, .ref qp2, .ref qq2, .ref qc2, .int wa2])), (qn2, .inl (eI E, 30, .inl no2)), (qk2, .inl (eI E, 8, .inl ki2)), (qp2, .inl (eI E, 8, .inl pl2)), (qq2, .inl (eI E, 8, .inl qu2)), (qc2, .inl (eI E, 8, .inl ca2))] H := hP
  have hD : va_D A [(h, .inr (2, [.int mi2, .int fo2, .int wi2, .int sp2, .ref qn, .int (nI P2), .ref qk, .ref qp, .ref qq, .ref qc, .int 0])), (qn, .inl (eI E, 30, .inl no2)), (qk, .inl (eI E, 8, .inl ki)), (qp, .inl (eI E, 8, .inl pl)), (qq, .inl (eI E, 8, .inl qu)), (qc, .inl (eI E, 8, .inl ca)), (o, .inr (2, [.int mi2, .int fo2, .int wi2, .int sp2, .ref qn2, .int (nI P2), .ref qk2, .ref qp2, .ref qq2, .ref qc2, .int wa2])), (qn2, .inl (eI E, 30, .inl no2)), (qk2, .inl (eI E, 8, .inl ki2)), (qp2, .inl (eI E, 8, .inl pl2)), (qq2, .inl (eI E, 8, .inl qu2)), (qc2, .inl (eI E, 8, .inl ca2))] := hD
  refine lv_aload_n F.1 F.2.1 dX2_become_13 rfl (lv_at hl 1 rfl) ?_
  refine g_get F hX hP hin2 6 rfl rfl 6 (by decide) (mm 2 rfl) rfl dX2_become_14 ?_
  refine lv_iconst (v := 0) F.1 F.2.1 dX2_become_17 (by decide) ?_
  refine lv_aload_n F.1 F.2.1 dX2_become_18 rfl (lv_at hl 0 rfl) ?_
  refine g_get F hX hP hin2 0 rfl rfl 6 (by decide) (mm 2 rfl) rfl dX2_become_19 ?_
  refine lv_iconst (v := 0) F.1 F.2.1 dX2_become_22 (by decide) ?_
  refine lv_bipush (v := 8) F.1 F.2.1 dX2_become_23 (by decide) ?_
  refine g_copyi F hl hX (mm 3 rfl) (mm 4 rfl) (mm 5 rfl) (mm 6 rfl) hP hD hS 8 2 rfl rfl (sp := 0) (dp := 0) (n := 8) (rfl) (rfl) (rfl) (by decide) (by decide) (Nat.le_of_ble_eq_true rfl) (Nat.le_of_ble_eq_true rfl) dX2_become_25 (fun H locs hP hD hS => ?_)
  have hP : va_P (eD E) vwCl [(h, .inr (2, [.int mi2, .int fo2, .int wi2, .int sp2, .ref qn, .int (nI P2), .ref qk, .ref qp, .ref qq, .ref qc, .int 0])), (qn, .inl (eI E, 30, .inl no2)), (qk, .inl (eI E, 8, .inl (va_cpy ki2 ki 0 0 8))), (qp, .inl (eI E, 8, .inl pl)), (qq, .inl (eI E, 8, .inl qu)), (qc, .inl (eI E, 8, .inl ca)), (o, .inr (2, [.int mi2, .int fo2, .int wi2, .int sp2, .ref qn2, .int (nI P2), .ref qk2, .ref qp2, .ref qq2, .ref qc2, .int wa2])), (qn2, .inl (eI E, 30, .inl no2)), (qk2, .inl (eI E, 8, .inl ki2)), (qp2, .inl (eI E, 8, .inl pl2)), (qq2, .inl (eI E, 8, .inl qu2)), (qc2, .inl (eI E, 8, .inl ca2))] H := hP
  have hD : va_D A [(h, .inr (2, [.int mi2, .int fo2, .int wi2, .int sp2, .ref qn, .int (nI P2), .ref qk, .ref qp, .ref qq, .ref qc, .int 0])), (qn, .inl (eI E, 30, .inl no2)), (qk, .inl (eI E, 8, .inl (va_cpy ki2 ki 0 0 8))), (qp, .inl (eI E, 8, .inl pl)), (qq, .inl (eI E, 8, .inl qu)), (qc, .inl (eI E, 8, .inl ca)), (o, .inr (2, [.int mi2, .int fo2, .int wi2, .int sp2, .ref qn2, .int (nI P2), .ref qk2, .ref qp2, .ref qq2, .ref qc2, .int wa2])), (qn2, .inl (eI E, 30, .inl no2)), (qk2, .inl (eI E, 8, .inl ki2)), (qp2, .inl (eI E, 8, .inl pl2)), (qq2, .inl (eI E, 8, .inl qu2)), (qc2, .inl (eI E, 8, .inl ca2))] := hD
  have hP : va_P (eD E) vwCl [(h, .inr (2, [.int mi2, .int fo2, .int wi2, .int sp2, .ref qn, .int (nI P2), .ref qk, .ref qp, .ref qq, .ref qc, .int 0])), (qn, .inl (eI E, 30, .inl no2)), (qk, .inl (eI E, 8, .inl ki2)), (qp, .inl (eI E, 8, .inl pl)), (qq, .inl (eI E, 8, .inl qu)), (qc, .inl (eI E, 8, .inl ca)), (o, .inr (2, [.int mi2, .int fo2, .int wi2, .int sp2, .ref qn2, .int (nI P2), .ref qk2, .ref qp2, .ref qq2, .ref qc2, .int wa2])), (qn2, .inl (eI E, 30, .inl no2)), (qk2, .inl (eI E, 8, .inl ki2)), (qp2, .inl (eI E, 8, .inl pl2)), (qq2, .inl (eI E, 8, .inl qu2)), (qc2, .inl (eI E, 8, .inl ca2))] H := g_ext hP 2 (ki2) rfl (fun j hj => sb_cpy0 hj)
  have hD : va_D A [(h, .inr (2, [.int mi2, .int fo2, .int wi2, .int sp2, .ref qn, .int (nI P2), .ref qk, .ref qp, .ref qq, .ref qc, .int 0])), (qn, .inl (eI E, 30, .inl no2)), (qk, .inl (eI E, 8, .inl ki2)), (qp, .inl (eI E, 8, .inl pl)), (qq, .inl (eI E, 8, .inl qu)), (qc, .inl (eI E, 8, .inl ca)), (o, .inr (2, [.int mi2, .int fo2, .int wi2, .int sp2, .ref qn2, .int (nI P2), .ref qk2, .ref qp2, .ref qq2, .ref qc2, .int wa2])), (qn2, .inl (eI E, 30, .inl no2)), (qk2, .inl (eI E, 8, .inl ki2)), (qp2, .inl (eI E, 8, .inl pl2)), (qq2, .inl (eI E, 8, .inl qu2)), (qc2, .inl (eI E, 8, .inl ca2))] := hD.set (p := 2) rfl
  refine lv_aload_n F.1 F.2.1 dX2_become_28 rfl (lv_at hl 1 rfl) ?_
  refine g_get F hX hP hin2 6 rfl rfl 7 (by decide) (mm 7 rfl) rfl dX2_become_29 ?_
  refine lv_iconst (v := 0) F.1 F.2.1 dX2_become_32 (by decide) ?_
  refine lv_aload_n F.1 F.2.1 dX2_become_33 rfl (lv_at hl 0 rfl) ?_
  refine g_get F hX hP hin2 0 rfl rfl 7 (by decide) (mm 7 rfl) rfl dX2_become_34 ?_
  refine lv_iconst (v := 0) F.1 F.2.1 dX2_become_37 (by decide) ?_
  refine lv_bipush (v := 8) F.1 F.2.1 dX2_become_38 (by decide) ?_
  refine g_copyi F hl hX (mm 3 rfl) (mm 4 rfl) (mm 5 rfl) (mm 6 rfl) hP hD hS 9 3 rfl rfl (sp := 0) (dp := 0) (n := 8) (rfl) (rfl) (rfl) (by decide) (by decide) (Nat.le_of_ble_eq_true rfl) (Nat.le_of_ble_eq_true rfl) dX2_become_40 (fun H locs hP hD hS => ?_)
  have hP : va_P (eD E) vwCl [(h, .inr (2, [.int mi2, .int fo2, .int wi2, .int sp2, .ref qn, .int (nI P2), .ref qk, .ref qp, .ref qq, .ref qc, .int 0])), (qn, .inl (eI E, 30, .inl no2)), (qk, .inl (eI E, 8, .inl ki2)), (qp, .inl (eI E, 8, .inl (va_cpy pl2 pl 0 0 8))), (qq, .inl (eI E, 8, .inl qu)), (qc, .inl (eI E, 8, .inl ca)), (o, .inr (2, [.int mi2, .int fo2, .int wi2, .int sp2, .ref qn2, .int (nI P2), .ref qk2, .ref qp2, .ref qq2, .ref qc2, .int wa2])), (qn2, .inl (eI E, 30, .inl no2)), (qk2, .inl (eI E, 8, .inl ki2)), (qp2, .inl (eI E, 8, .inl pl2)), (qq2, .inl (eI E, 8, .inl qu2)), (qc2, .inl (eI E, 8, .inl ca2))] H := hP
  have hD : va_D A [(h, .inr (2, [.int mi2, .int fo2, .int wi2, .int sp2, .ref qn, .int (nI P2), .ref qk, .ref qp, .ref qq, .ref qc, .int 0])), (qn, .inl (eI E, 30, .inl no2)), (qk, .inl (eI E, 8, .inl ki2)), (qp, .inl (eI E, 8, .inl (va_cpy pl2 pl 0 0 8))), (qq, .inl (eI E, 8, .inl qu)), (qc, .inl (eI E, 8, .inl ca)), (o, .inr (2, [.int mi2, .int fo2, .int wi2, .int sp2, .ref qn2, .int (nI P2), .ref qk2, .ref qp2, .ref qq2, .ref qc2, .int wa2])), (qn2, .inl (eI E, 30, .inl no2)), (qk2, .inl (eI E, 8, .inl ki2)), (qp2, .inl (eI E, 8, .inl pl2)), (qq2, .inl (eI E, 8, .inl qu2)), (qc2, .inl (eI E, 8, .inl ca2))] := hD
  have hP : va_P (eD E) vwCl [(h, .inr (2, [.int mi2, .int fo2, .int wi2, .int sp2, .ref qn, .int (nI P2), .ref qk, .ref qp, .ref qq, .ref qc, .int 0])), (qn, .inl (eI E, 30, .inl no2)), (qk, .inl (eI E, 8, .inl ki2)), (qp, .inl (eI E, 8, .inl pl2)), (qq, .inl (eI E, 8, .inl qu)), (qc, .inl (eI E, 8, .inl ca)), (o, .inr (2, [.int mi2, .int fo2, .int wi2, .int sp2, .ref qn2, .int (nI P2), .ref qk2, .ref qp2, .ref qq2, .ref qc2, .int wa2])), (qn2, .inl (eI E, 30, .inl no2)), (qk2, .inl (eI E, 8, .inl ki2)), (qp2, .inl (eI E, 8, .inl pl2)), (qq2, .inl (eI E, 8, .inl qu2)), (qc2, .inl (eI E, 8, .inl ca2))] H := g_ext hP 3 (pl2) rfl (fun j hj => sb_cpy0 hj)
  have hD : va_D A [(h, .inr (2, [.int mi2, .int fo2, .int wi2, .int sp2, .ref qn, .int (nI P2), .ref qk, .ref qp, .ref qq, .ref qc, .int 0])), (qn, .inl (eI E, 30, .inl no2)), (qk, .inl (eI E, 8, .inl ki2)), (qp, .inl (eI E, 8, .inl pl2)), (qq, .inl (eI E, 8, .inl qu)), (qc, .inl (eI E, 8, .inl ca)), (o, .inr (2, [.int mi2, .int fo2, .int wi2, .int sp2, .ref qn2, .int (nI P2), .ref qk2, .ref qp2, .ref qq2, .ref qc2, .int wa2])), (qn2, .inl (eI E, 30, .inl no2)), (qk2, .inl (eI E, 8, .inl ki2)), (qp2, .inl (eI E, 8, .inl pl2)), (qq2, .inl (eI E, 8, .inl qu2)), (qc2, .inl (eI E, 8, .inl ca2))] := hD.set (p := 3) rfl
  refine lv_aload_n F.1 F.2.1 dX2_become_43 rfl (lv_at hl 1 rfl) ?_
  refine g_get F hX hP hin2 6 rfl rfl 8 (by decide) (mm 8 rfl) rfl dX2_become_44 ?_
  refine lv_iconst (v := 0) F.1 F.2.1 dX2_become_47 (by decide) ?_
  refine lv_aload_n F.1 F.2.1 dX2_become_48 rfl (lv_at hl 0 rfl) ?_
  refine g_get F hX hP hin2 0 rfl rfl 8 (by decide) (mm 8 rfl) rfl dX2_become_49 ?_
  refine lv_iconst (v := 0) F.1 F.2.1 dX2_become_52 (by decide) ?_
  refine lv_bipush (v := 8) F.1 F.2.1 dX2_become_53 (by decide) ?_
  refine g_copyi F hl hX (mm 3 rfl) (mm 4 rfl) (mm 5 rfl) (mm 6 rfl) hP hD hS 10 4 rfl rfl (sp := 0) (dp := 0) (n := 8) (rfl) (rfl) (rfl) (by decide) (by decide) (Nat.le_of_ble_eq_true rfl) (Nat.le_of_ble_eq_true rfl) dX2_become_55 (fun H locs hP hD hS => ?_)
  have hP : va_P (eD E) vwCl [(h, .inr (2, [.int mi2, .int fo2, .int wi2, .int sp2, .ref qn, .int (nI P2), .ref qk, .ref qp, .ref qq, .ref qc, .int 0])), (qn, .inl (eI E, 30, .inl no2)), (qk, .inl (eI E, 8, .inl ki2)), (qp, .inl (eI E, 8, .inl pl2)), (qq, .inl (eI E, 8, .inl (va_cpy qu2 qu 0 0 8))), (qc, .inl (eI E, 8, .inl ca)), (o, .inr (2, [.int mi2, .int fo2, .int wi2, .int sp2, .ref qn2, .int (nI P2), .ref qk2, .ref qp2, .ref qq2, .ref qc2, .int wa2])), (qn2, .inl (eI E, 30, .inl no2)), (qk2, .inl (eI E, 8, .inl ki2)), (qp2, .inl (eI E, 8, .inl pl2)), (qq2, .inl (eI E, 8, .inl qu2)), (qc2, .inl (eI E, 8, .inl ca2))] H := hP
  have hD : va_D A [(h, .inr (2, [.int mi2, .int fo2, .int wi2, .int sp2, .ref qn, .int (nI P2), .ref qk, .ref qp, .ref qq, .ref qc, .int 0])), (qn, .inl (eI E, 30, .inl no2)), (qk, .inl (eI E, 8, .inl ki2)), (qp, .inl (eI E, 8, .inl pl2)), (qq, .inl (eI E, 8, .inl (va_cpy qu2 qu 0 0 8))), (qc, .inl (eI E, 8, .inl ca)), (o, .inr (2, [.int mi2, .int fo2, .int wi2, .int sp2, .ref qn2, .int (nI P2), .ref qk2, .ref qp2, .ref qq2, .ref qc2, .int wa2])), (qn2, .inl (eI E, 30, .inl no2)), (qk2, .inl (eI E, 8, .inl ki2)), (qp2, .inl (eI E, 8, .inl pl2)), (qq2, .inl (eI E, 8, .inl qu2)), (qc2, .inl (eI E, 8, .inl ca2))] := hD
  have hP : va_P (eD E) vwCl [(h, .inr (2, [.int mi2, .int fo2, .int wi2, .int sp2, .ref qn, .int (nI P2), .ref qk, .ref qp, .ref qq, .ref qc, .int 0])), (qn, .inl (eI E, 30, .inl no2)), (qk, .inl (eI E, 8, .inl ki2)), (qp, .inl (eI E, 8, .inl pl2)), (qq, .inl (eI E, 8, .inl qu2)), (qc, .inl (eI E, 8, .inl ca)), (o, .inr (2, [.int mi2, .int fo2, .int wi2, .int sp2, .ref qn2, .int (nI P2), .ref qk2, .ref qp2, .ref qq2, .ref qc2, .int wa2])), (qn2, .inl (eI E, 30, .inl no2)), (qk2, .inl (eI E, 8, .inl ki2)), (qp2, .inl (eI E, 8, .inl pl2)), (qq2, .inl (eI E, 8, .inl qu2)), (qc2, .inl (eI E, 8, .inl ca2))] H := g_ext hP 4 (qu2) rfl (fun j hj => sb_cpy0 hj)
  have hD : va_D A [(h, .inr (2, [.int mi2, .int fo2, .int wi2, .int sp2, .ref qn, .int (nI P2), .ref qk, .ref qp, .ref qq, .ref qc, .int 0])), (qn, .inl (eI E, 30, .inl no2)), (qk, .inl (eI E, 8, .inl ki2)), (qp, .inl (eI E, 8, .inl pl2)), (qq, .inl (eI E, 8, .inl qu2)), (qc, .inl (eI E, 8, .inl ca)), (o, .inr (2, [.int mi2, .int fo2, .int wi2, .int sp2, .ref qn2, .int (nI P2), .ref qk2, .ref qp2, .ref qq2, .ref qc2, .int wa2])), (qn2, .inl (eI E, 30, .inl no2)), (qk2, .inl (eI E, 8, .inl ki2)), (qp2, .inl (eI E, 8, .inl pl2)), (qq2, .inl (eI E, 8, .inl qu2)), (qc2, .inl (eI E, 8, .inl ca2))] := hD.set (p := 4) rfl
  refine lv_aload_n F.1 F.2.1 dX2_become_58 rfl (lv_at hl 1 rfl) ?_
  refine g_get F hX hP hin2 6 rfl rfl 9 (by decide) (mm 9 rfl) rfl dX2_become_59 ?_
  refine lv_iconst (v := 0) F.1 F.2.1 dX2_become_62 (by decide) ?_
  refine lv_aload_n F.1 F.2.1 dX2_become_63 rfl (lv_at hl 0 rfl) ?_
  refine g_get F hX hP hin2 0 rfl rfl 9 (by decide) (mm 9 rfl) rfl dX2_become_64 ?_
  refine lv_iconst (v := 0) F.1 F.2.1 dX2_become_67 (by decide) ?_
  refine lv_bipush (v := 8) F.1 F.2.1 dX2_become_68 (by decide) ?_
  refine g_copyi F hl hX (mm 3 rfl) (mm 4 rfl) (mm 5 rfl) (mm 6 rfl) hP hD hS 11 5 rfl rfl (sp := 0) (dp := 0) (n := 8) (rfl) (rfl) (rfl) (by decide) (by decide) (Nat.le_of_ble_eq_true rfl) (Nat.le_of_ble_eq_true rfl) dX2_become_70 (fun H locs hP hD hS => ?_)
  have hP : va_P (eD E) vwCl [(h, .inr (2, [.int mi2, .int fo2, .int wi2, .int sp2, .ref qn, .int (nI P2), .ref qk, .ref qp, .ref qq, .ref qc, .int 0])), (qn, .inl (eI E, 30, .inl no2)), (qk, .inl (eI E, 8, .inl ki2)), (qp, .inl (eI E, 8, .inl pl2)), (qq, .inl (eI E, 8, .inl qu2)), (qc, .inl (eI E, 8, .inl (va_cpy ca2 ca 0 0 8))), (o, .inr (2, [.int mi2, .int fo2, .int wi2, .int sp2, .ref qn2, .int (nI P2), .ref qk2, .ref qp2, .ref qq2, .ref qc2, .int wa2])), (qn2, .inl (eI E, 30, .inl no2)), (qk2, .inl (eI E, 8, .inl ki2)), (qp2, .inl (eI E, 8, .inl pl2)), (qq2, .inl (eI E, 8, .inl qu2)), (qc2, .inl (eI E, 8, .inl ca2))] H := hP
  have hD : va_D A [(h, .inr (2, [.int mi2, .int fo2, .int wi2, .int sp2, .ref qn, .int (nI P2), .ref qk, .ref qp, .ref qq, .ref qc, .int 0])), (qn, .inl (eI E, 30, .inl no2)), (qk, .inl (eI E, 8, .inl ki2)), (qp, .inl (eI E, 8, .inl pl2)), (qq, .inl (eI E, 8, .inl qu2)), (qc, .inl (eI E, 8, .inl (va_cpy ca2 ca 0 0 8))), (o, .inr (2, [.int mi2, .int fo2, .int wi2, .int sp2, .ref qn2, .int (nI P2), .ref qk2, .ref qp2, .ref qq2, .ref qc2, .int wa2])), (qn2, .inl (eI E, 30, .inl no2)), (qk2, .inl (eI E, 8, .inl ki2)), (qp2, .inl (eI E, 8, .inl pl2)), (qq2, .inl (eI E, 8, .inl qu2)), (qc2, .inl (eI E, 8, .inl ca2))] := hD
  have hP : va_P (eD E) vwCl [(h, .inr (2, [.int mi2, .int fo2, .int wi2, .int sp2, .ref qn, .int (nI P2), .ref qk, .ref qp, .ref qq, .ref qc, .int 0])), (qn, .inl (eI E, 30, .inl no2)), (qk, .inl (eI E, 8, .inl ki2)), (qp, .inl (eI E, 8, .inl pl2)), (qq, .inl (eI E, 8, .inl qu2)), (qc, .inl (eI E, 8, .inl ca2)), (o, .inr (2, [.int mi2, .int fo2, .int wi2, .int sp2, .ref qn2, .int (nI P2), .ref qk2, .ref qp2, .ref qq2, .ref qc2, .int wa2])), (qn2, .inl (eI E, 30, .inl no2)), (qk2, .inl (eI E, 8, .inl ki2)), (qp2, .inl (eI E, 8, .inl pl2)), (qq2, .inl (eI E, 8, .inl qu2)), (qc2, .inl (eI E, 8, .inl ca2))] H := g_ext hP 5 (ca2) rfl (fun j hj => sb_cpy0 hj)
  have hD : va_D A [(h, .inr (2, [.int mi2, .int fo2, .int wi2, .int sp2, .ref qn, .int (nI P2), .ref qk, .ref qp, .ref qq, .ref qc, .int 0])), (qn, .inl (eI E, 30, .inl no2)), (qk, .inl (eI E, 8, .inl ki2)), (qp, .inl (eI E, 8, .inl pl2)), (qq, .inl (eI E, 8, .inl qu2)), (qc, .inl (eI E, 8, .inl ca2)), (o, .inr (2, [.int mi2, .int fo2, .int wi2, .int sp2, .ref qn2, .int (nI P2), .ref qk2, .ref qp2, .ref qq2, .ref qc2, .int wa2])), (qn2, .inl (eI E, 30, .inl no2)), (qk2, .inl (eI E, 8, .inl ki2)), (qp2, .inl (eI E, 8, .inl pl2)), (qq2, .inl (eI E, 8, .inl qu2)), (qc2, .inl (eI E, 8, .inl ca2))] := hD.set (p := 5) rfl
  refine lv_aload_n F.1 F.2.1 dX2_become_73 rfl (lv_at hl 0 rfl) ?_
  refine lv_aload_n F.1 F.2.1 dX2_become_74 rfl (lv_at hl 1 rfl) ?_
  refine g_get F hX hP hin2 6 rfl rfl 10 (by decide) (mm 10 rfl) rfl dX2_become_75 ?_
  refine g_put F hX hP hD hS hin2 tyX2 tyX2_ok nmX2 0 rfl rfl 10 (by decide) (mm 10 rfl) rfl (rfl) (rfl) (Nat.le_of_ble_eq_true rfl) dX2_become_78 (fun H locs hP hD hS => ?_)
  have hP : va_P (eD E) vwCl [(h, .inr (2, [.int mi2, .int fo2, .int wi2, .int sp2, .ref qn, .int (nI P2), .ref qk, .ref qp, .ref qq, .ref qc, .int wa2])), (qn, .inl (eI E, 30, .inl no2)), (qk, .inl (eI E, 8, .inl ki2)), (qp, .inl (eI E, 8, .inl pl2)), (qq, .inl (eI E, 8, .inl qu2)), (qc, .inl (eI E, 8, .inl ca2)), (o, .inr (2, [.int mi2, .int fo2, .int wi2, .int sp2, .ref qn2, .int (nI P2), .ref qk2, .ref qp2, .ref qq2, .ref qc2, .int wa2])), (qn2, .inl (eI E, 30, .inl no2)), (qk2, .inl (eI E, 8, .inl ki2)), (qp2, .inl (eI E, 8, .inl pl2)), (qq2, .inl (eI E, 8, .inl qu2)), (qc2, .inl (eI E, 8, .inl ca2))] H := hP
  have hD : va_D A [(h, .inr (2, [.int mi2, .int fo2, .int wi2, .int sp2, .ref qn, .int (nI P2), .ref qk, .ref qp, .ref qq, .ref qc, .int wa2])), (qn, .inl (eI E, 30, .inl no2)), (qk, .inl (eI E, 8, .inl ki2)), (qp, .inl (eI E, 8, .inl pl2)), (qq, .inl (eI E, 8, .inl qu2)), (qc, .inl (eI E, 8, .inl ca2)), (o, .inr (2, [.int mi2, .int fo2, .int wi2, .int sp2, .ref qn2, .int (nI P2), .ref qk2, .ref qp2, .ref qq2, .ref qc2, .int wa2])), (qn2, .inl (eI E, 30, .inl no2)), (qk2, .inl (eI E, 8, .inl ki2)), (qp2, .inl (eI E, 8, .inl pl2)), (qq2, .inl (eI E, 8, .inl qu2)), (qc2, .inl (eI E, 8, .inl ca2))] := hD
  exact g_retv F hr hlk hS hP hD (()) (rfl) (trivial) dX2_become_81
set_option maxHeartbeats 4000000 in
set_option maxRecDepth 100000 in
theorem c_X2_becomeWithOne (l : Launch) (E : gE) (h : Nat) (mi : Int32) (fo : Int32) (wi : Int32) (sp : Int32) (P : Nat) (wa : Int32) (qn : Nat) (qk : Nat) (qp : Nat) (qq : Nat) (qc : Nat) (o : Nat) (mi2 : Int32) (fo2 : Int32) (wi2 : Int32) (sp2 : Int32) (P2 : Nat) (wa2 : Int32) (qn2 : Nat) (qk2 : Nat) (qp2 : Nat) (qq2 : Nat) (qc2 : Nat) (no : Nat → Int32) (ki : Nat → Int32) (pl : Nat → Int32) (qu : Nat → Int32) (ca : Nat → Int32) (no2 : Nat → Int32) (ki2 : Nat → Int32) (pl2 : Nat → Int32) (qu2 : Nat → Int32) (ca2 : Nat → Int32) (j : Nat) (hj8 : j < 8) : gV l yX2_becomeWithOne wsX2_becomeWithOne ({ frames := 2, cells := 0, slots := 0, locals := 39 }) E [(h, .inr (2, [.int mi, .int fo, .int wi, .int sp, .ref qn, .int (nI P), .ref qk, .ref qp, .ref qq, .ref qc, .int wa])), (qn, .inl (eI E, 30, .inl no)), (qk, .inl (eI E, 8, .inl ki)), (qp, .inl (eI E, 8, .inl pl)), (qq, .inl (eI E, 8, .inl qu)), (qc, .inl (eI E, 8, .inl ca)), (o, .inr (2, [.int mi2, .int fo2, .int wi2, .int sp2, .ref qn2, .int (nI P2), .ref qk2, .ref qp2, .ref qq2, .ref qc2, .int wa2])), (qn2, .inl (eI E, 30, .inl no2)), (qk2, .inl (eI E, 8, .inl ki2)), (qp2, .inl (eI E, 8, .inl pl2)), (qq2, .inl (eI E, 8, .inl qu2)), (qc2, .inl (eI E, 8, .inl ca2))] (fun _ : Unit => [(h, .inr (2, [.int mi2, .int fo2, .int wi2, .int sp2, .ref qn, .int (nI 1), .ref qk, .ref qp, .ref qq, .ref qc, .int (bitOf wa2 j)])), (qn, .inl (eI E, 30, .inl no2)), (qk, .inl (eI E, 8, .inl (upd ki 0 (ki2 j)))), (qp, .inl (eI E, 8, .inl (upd pl 0 (pl2 j)))), (qq, .inl (eI E, 8, .inl (upd qu 0 (qu2 j)))), (qc, .inl (eI E, 8, .inl (upd ca 0 (ca2 j)))), (o, .inr (2, [.int mi2, .int fo2, .int wi2, .int sp2, .ref qn2, .int (nI P2), .ref qk2, .ref qp2, .ref qq2, .ref qc2, .int wa2])), (qn2, .inl (eI E, 30, .inl no2)), (qk2, .inl (eI E, 8, .inl ki2)), (qp2, .inl (eI E, 8, .inl pl2)), (qq2, .inl (eI E, 8, .inl qu2)), (qc2, .inl (eI E, 8, .inl ca2))]) [.ref h, .ref o, .int (nI j)] (fun (_ : Unit) => True) := by
  have hin2 : ∀ w ∈ wsX20, w ∈ wsX2_becomeWithOne := (fun _ h => (List.mem_cons_of_mem _ (List.mem_append_right _ h)))
  refine gV.of (cc := cX2_becomeWithOne) (maxL := 3) (by decide) rfl (Nat.le_of_ble_eq_true rfl) ?_
  intro pG eG sG mG below meth cG A ls H locs F hr hlk hX hP hD hA hS hl
  have hl : lv_has ls 3 [(0, .ref h), (1, .ref o), (2, .int (nI j))] := hl
  refine lv_aload_n F.1 F.2.1 dX2_becomeWithOne_0 rfl (lv_at hl 0 rfl) ?_
  refine lv_aload_n F.1 F.2.1 dX2_becomeWithOne_1 rfl (lv_at hl 1 rfl) ?_
  refine g_goV (wr := [(qk, .inl (eI E, 8, .inl ki)), (qp, .inl (eI E, 8, .inl pl)), (qq, .inl (eI E, 8, .inl qu)), (qc, .inl (eI E, 8, .inl ca)), (qk2, .inl (eI E, 8, .inl ki2)), (qp2, .inl (eI E, 8, .inl pl2)), (qq2, .inl (eI E, 8, .inl qu2)), (qc2, .inl (eI E, 8, .inl ca2))]) (g_runV (As := [.ref o]) (rest := []) F hX hP hD hS hA (c_X2_becomeEmpty l E h mi fo wi sp P wa qn qk qp qq qc o mi2 fo2 wi2 sp2 P2 wa2 qn2 qk2 qp2 qq2 qc2 no no2 H.size) (cwV 1 F.2.2.2.2 gX2_becomeWithOne_X2_becomeEmpty rfl rfl rfl (by decide +kernel) ⟨Nat.le_of_ble_eq_true rfl, Nat.le_of_ble_eq_true rfl⟩) [0, 1, 6, 7] rfl rfl (q0 := 0) (ci := 2) rfl rfl rfl hl.1 rfl (Nat.le_of_ble_eq_true rfl) dX2_becomeWithOne_2 ⟨Nat.le_refl _, Nat.le_refl _⟩) hP hD hS hA [0, 1, 6, 7] [2, 3, 4, 5, 8, 9, 10, 11] rfl rfl rfl (by decide) (fun _ H locs hq hP hD hS => ?_)
  have hP : va_P (eD E) vwCl [(h, .inr (2, [.int mi2, .int fo2, .int wi2, .int sp2, .ref qn, .int (nI 0), .ref qk, .ref qp, .ref qq, .ref qc, .int 0])), (qn, .inl (eI E, 30, .inl no2)), (qk, .inl (eI E, 8, .inl ki)), (qp, .inl (eI E, 8, .inl pl)), (qq, .inl (eI E, 8, .inl qu)), (qc, .inl (eI E, 8, .inl ca)), (o, .inr (2, [.int mi2, .int fo2, .int wi2, .int sp2, .ref qn2, .int (nI P2), .ref qk2, .ref qp2, .ref qq2, .ref qc2, .int wa2])), (qn2, .inl (eI E, 30, .inl no2)), (qk2, .inl (eI E, 8, .inl ki2)), (qp2, .inl (eI E, 8, .inl pl2)), (qq2, .inl (eI E, 8, .inl qu2)), (qc2, .inl (eI E, 8, .inl ca2))] H := hP.sub [8, 9, 0, 1, 2, 3, 10, 11, 4, 5, 6, 7] rfl
  have hD : va_D A [(h, .inr (2, [.int mi2, .int fo2, .int wi2, .int sp2, .ref qn, .int (nI 0), .ref qk, .ref qp, .ref qq, .ref qc, .int 0])), (qn, .inl (eI E, 30, .inl no2)), (qk, .inl (eI E, 8, .inl ki)), (qp, .inl (eI E, 8, .inl pl)), (qq, .inl (eI E, 8, .inl qu)), (qc, .inl (eI E, 8, .inl ca)), (o, .inr (2, [.int mi2, .int fo2, .int wi2, .int sp2, .ref qn2, .int (nI P2), .ref qk2, .ref qp2, .ref qq2, .ref qc2, .int wa2])), (qn2, .inl (eI E, 30, .inl no2)), (qk2, .inl (eI E, 8, .inl ki2)), (qp2, .inl (eI E, 8, .inl pl2)), (qq2, .inl (eI E, 8, .inl qu2)), (qc2, .inl (eI E, 8, .inl ca2))] := hD.sub [8, 9, 0, 1, 2, 3, 10, 11, 4, 5, 6, 7] (by decide) rfl
  refine lv_aload_n F.1 F.2.1 dX2_becomeWithOne_5 rfl (lv_at hl 0 rfl) ?_
  refine lv_iconst (v := 1) F.1 F.2.1 dX2_becomeWithOne_6 (by decide) ?_
  refine g_put F hX hP hD hS hin2 tyX2 tyX2_ok nmX2 0 rfl rfl 5 (by decide) (mm 1 rfl) rfl (rfl) (rfl) (Nat.le_of_ble_eq_true rfl) dX2_becomeWithOne_7 (fun H locs hP hD hS => ?_)
  have hP : va_P (eD E) vwCl [(h, .inr (2, [.int mi2, .int fo2, .int wi2, .int sp2, .ref qn, .int 1, .ref qk, .ref qp, .ref qq, .ref qc, .int 0])), (qn, .inl (eI E, 30, .inl no2)), (qk, .inl (eI E, 8, .inl ki)), (qp, .inl (eI E, 8, .inl pl)), (qq, .inl (eI E, 8, .inl qu)), (qc, .inl (eI E, 8, .inl ca)), (o, .inr (2, [.int mi2, .int fo2, .int wi2, .int sp2, .ref qn2, .int (nI P2), .ref qk2, .ref qp2, .ref qq2, .ref qc2, .int wa2])), (qn2, .inl (eI E, 30, .inl no2)), (qk2, .inl (eI E, 8, .inl ki2)), (qp2, .inl (eI E, 8, .inl pl2)), (qq2, .inl (eI E, 8, .inl qu2)), (qc2, .inl (eI E, 8, .inl ca2))] H := hP
  have hD : va_D A [(h, .inr (2, [.int mi2, .int fo2, .int wi2, .int sp2, .ref qn, .int 1, .ref qk, .ref qp, .ref qq, .ref qc, .int 0])), (qn, .inl (eI E, 30, .inl no2)), (qk, .inl (eI E, 8, .inl ki)), (qp, .inl (eI E, 8, .inl pl)), (qq, .inl (eI E, 8, .inl qu)), (qc, .inl (eI E, 8, .inl ca)), (o, .inr (2, [.int mi2, .int fo2, .int wi2, .int sp2, .ref qn2, .int (nI P2), .ref qk2, .ref qp2, .ref qq2, .ref qc2, .int wa2])), (qn2, .inl (eI E, 30, .inl no2)), (qk2, .inl (eI E, 8, .inl ki2)), (qp2, .inl (eI E, 8, .inl pl2)), (qq2, .inl (eI E, 8, .inl qu2)), (qc2, .inl (eI E, 8, .inl ca2))] := hD
  refine lv_aload_n F.1 F.2.1 dX2_becomeWithOne_10 rfl (lv_at hl 0 rfl) ?_
  refine g_get F hX hP hin2 0 rfl rfl 6 (by decide) (mm 2 rfl) rfl dX2_becomeWithOne_11 ?_
  refine lv_iconst (v := 0) F.1 F.2.1 dX2_becomeWithOne_14 (by decide) ?_
  refine lv_aload_n F.1 F.2.1 dX2_becomeWithOne_15 rfl (lv_at hl 1 rfl) ?_
  refine g_get F hX hP hin2 6 rfl rfl 6 (by decide) (mm 2 rfl) rfl dX2_becomeWithOne_16 ?_
  refine lv_iload_n F.1 F.2.1 dX2_becomeWithOne_19 rfl (lv_at hl 2 rfl) ?_
  refine g_iald F hX hP 8 rfl (j := j) (rfl) (by omega) (by decide) dX2_becomeWithOne_20 ?_
  refine g_iast F hX hP hD hS 2 rfl (j := 0) (rfl) (by decide) (by decide) dX2_becomeWithOne_21 (fun H locs hP hD hS => ?_)
  have hP : va_P (eD E) vwCl [(h, .inr (2, [.int mi2, .int fo2, .int wi2, .int sp2, .ref qn, .int 1, .ref qk, .ref qp, .ref qq, .ref qc, .int 0])), (qn, .inl (eI E, 30, .inl no2)), (qk, .inl (eI E, 8, .inl (upd ki 0 (ki2 j)))), (qp, .inl (eI E, 8, .inl pl)), (qq, .inl (eI E, 8, .inl qu)), (qc, .inl (eI E, 8, .inl ca)), (o, .inr (2, [.int mi2, .int fo2, .int wi2, .int sp2, .ref qn2, .int (nI P2), .ref qk2, .ref qp2, .ref qq2, .ref qc2, .int wa2])), (qn2, .inl (eI E, 30, .inl no2)), (qk2, .inl (eI E, 8, .inl ki2)), (qp2, .inl (eI E, 8, .inl pl2)), (qq2, .inl (eI E, 8, .inl qu2)), (qc2, .inl (eI E, 8, .inl ca2))] H := hP
  have hD : va_D A [(h, .inr (2, [.int mi2, .int fo2, .int wi2, .int sp2, .ref qn, .int 1, .ref qk, .ref qp, .ref qq, .ref qc, .int 0])), (qn, .inl (eI E, 30, .inl no2)), (qk, .inl (eI E, 8, .inl (upd ki 0 (ki2 j)))), (qp, .inl (eI E, 8, .inl pl)), (qq, .inl (eI E, 8, .inl qu)), (qc, .inl (eI E, 8, .inl ca)), (o, .inr (2, [.int mi2, .int fo2, .int wi2, .int sp2, .ref qn2, .int (nI P2), .ref qk2, .ref qp2, .ref qq2, .ref qc2, .int wa2])), (qn2, .inl (eI E, 30, .inl no2)), (qk2, .inl (eI E, 8, .inl ki2)), (qp2, .inl (eI E, 8, .inl pl2)), (qq2, .inl (eI E, 8, .inl qu2)), (qc2, .inl (eI E, 8, .inl ca2))] := hD
  refine lv_aload_n F.1 F.2.1 dX2_becomeWithOne_22 rfl (lv_at hl 0 rfl) ?_
  refine g_get F hX hP hin2 0 rfl rfl 7 (by decide) (mm 3 rfl) rfl dX2_becomeWithOne_23 ?_
  refine lv_iconst (v := 0) F.1 F.2.1 dX2_becomeWithOne_26 (by decide) ?_
  refine lv_aload_n F.1 F.2.1 dX2_becomeWithOne_27 rfl (lv_at hl 1 rfl) ?_
  refine g_get F hX hP hin2 6 rfl rfl 7 (by decide) (mm 3 rfl) rfl dX2_becomeWithOne_28 ?_
  refine lv_iload_n F.1 F.2.1 dX2_becomeWithOne_31 rfl (lv_at hl 2 rfl) ?_
  refine g_iald F hX hP 9 rfl (j := j) (rfl) (by omega) (by decide) dX2_becomeWithOne_32 ?_
  refine g_iast F hX hP hD hS 3 rfl (j := 0) (rfl) (by decide) (by decide) dX2_becomeWithOne_33 (fun H locs hP hD hS => ?_)
  have hP : va_P (eD E) vwCl [(h, .inr (2, [.int mi2, .int fo2, .int wi2, .int sp2, .ref qn, .int 1, .ref qk, .ref qp, .ref qq, .ref qc, .int 0])), (qn, .inl (eI E, 30, .inl no2)), (qk, .inl (eI E, 8, .inl (upd ki 0 (ki2 j)))), (qp, .inl (eI E, 8, .inl (upd pl 0 (pl2 j)))), (qq, .inl (eI E, 8, .inl qu)), (qc, .inl (eI E, 8, .inl ca)), (o, .inr (2, [.int mi2, .int fo2, .int wi2, .int sp2, .ref qn2, .int (nI P2), .ref qk2, .ref qp2, .ref qq2, .ref qc2, .int wa2])), (qn2, .inl (eI E, 30, .inl no2)), (qk2, .inl (eI E, 8, .inl ki2)), (qp2, .inl (eI E, 8, .inl pl2)), (qq2, .inl (eI E, 8, .inl qu2)), (qc2, .inl (eI E, 8, .inl ca2))] H := hP
  have hD : va_D A [(h, .inr (2, [.int mi2, .int fo2, .int wi2, .int sp2, .ref qn, .int 1, .ref qk, .ref qp, .ref qq, .ref qc, .int 0])), (qn, .inl (eI E, 30, .inl no2)), (qk, .inl (eI E, 8, .inl (upd ki 0 (ki2 j)))), (qp, .inl (eI E, 8, .inl (upd pl 0 (pl2 j)))), (qq, .inl (eI E, 8, .inl qu)), (qc, .inl (eI E, 8, .inl ca)), (o, .inr (2, [.int mi2, .int fo2, .int wi2, .int sp2, .ref qn2, .int (nI P2), .ref qk2, .ref qp2, .ref qq2, .ref qc2, .int wa2])), (qn2, .inl (eI E, 30, .inl no2)), (qk2, .inl (eI E, 8, .inl ki2)), (qp2, .inl (eI E, 8, .inl pl2)), (qq2, .inl (eI E, 8, .inl qu2)), (qc2, .inl (eI E, 8, .inl ca2))] := hD
  refine lv_aload_n F.1 F.2.1 dX2_becomeWithOne_34 rfl (lv_at hl 0 rfl) ?_
  refine g_get F hX hP hin2 0 rfl rfl 8 (by decide) (mm 4 rfl) rfl dX2_becomeWithOne_35 ?_
  refine lv_iconst (v := 0) F.1 F.2.1 dX2_becomeWithOne_38 (by decide) ?_
  refine lv_aload_n F.1 F.2.1 dX2_becomeWithOne_39 rfl (lv_at hl 1 rfl) ?_
  refine g_get F hX hP hin2 6 rfl rfl 8 (by decide) (mm 4 rfl) rfl dX2_becomeWithOne_40 ?_
  refine lv_iload_n F.1 F.2.1 dX2_becomeWithOne_43 rfl (lv_at hl 2 rfl) ?_
  refine g_iald F hX hP 10 rfl (j := j) (rfl) (by omega) (by decide) dX2_becomeWithOne_44 ?_
  refine g_iast F hX hP hD hS 4 rfl (j := 0) (rfl) (by decide) (by decide) dX2_becomeWithOne_45 (fun H locs hP hD hS => ?_)
  have hP : va_P (eD E) vwCl [(h, .inr (2, [.int mi2, .int fo2, .int wi2, .int sp2, .ref qn, .int 1, .ref qk, .ref qp, .ref qq, .ref qc, .int 0])), (qn, .inl (eI E, 30, .inl no2)), (qk, .inl (eI E, 8, .inl (upd ki 0 (ki2 j)))), (qp, .inl (eI E, 8, .inl (upd pl 0 (pl2 j)))), (qq, .inl (eI E, 8, .inl (upd qu 0 (qu2 j)))), (qc, .inl (eI E, 8, .inl ca)), (o, .inr (2, [.int mi2, .int fo2, .int wi2, .int sp2, .ref qn2, .int (nI P2), .ref qk2, .ref qp2, .ref qq2, .ref qc2, .int wa2])), (qn2, .inl (eI E, 30, .inl no2)), (qk2, .inl (eI E, 8, .inl ki2)), (qp2, .inl (eI E, 8, .inl pl2)), (qq2, .inl (eI E, 8, .inl qu2)), (qc2, .inl (eI E, 8, .inl ca2))] H := hP
  have hD : va_D A [(h, .inr (2, [.int mi2, .int fo2, .int wi2, .int sp2, .ref qn, .int 1, .ref qk, .ref qp, .ref qq, .ref qc, .int 0])), (qn, .inl (eI E, 30, .inl no2)), (qk, .inl (eI E, 8, .inl (upd ki 0 (ki2 j)))), (qp, .inl (eI E, 8, .inl (upd pl 0 (pl2 j)))), (qq, .inl (eI E, 8, .inl (upd qu 0 (qu2 j)))), (qc, .inl (eI E, 8, .inl ca)), (o, .inr (2, [.int mi2, .int fo2, .int wi2, .int sp2, .ref qn2, .int (nI P2), .ref qk2, .ref qp2, .ref qq2, .ref qc2, .int wa2])), (qn2, .inl (eI E, 30, .inl no2)), (qk2, .inl (eI E, 8, .inl ki2)), (qp2, .inl (eI E, 8, .inl pl2)), (qq2, .inl (eI E, 8, .inl qu2)), (qc2, .inl (eI E, 8, .inl ca2))] := hD
  refine lv_aload_n F.1 F.2.1 dX2_becomeWithOne_46 rfl (lv_at hl 0 rfl) ?_
  refine g_get F hX hP hin2 0 rfl rfl 9 (by decide) (mm 5 rfl) rfl dX2_becomeWithOne_47 ?_
  refine lv_iconst (v := 0) F.1 F.2.1 dX2_becomeWithOne_50 (by decide) ?_
  refine lv_aload_n F.1 F.2.1 dX2_becomeWithOne_51 rfl (lv_at hl 1 rfl) ?_
  refine g_get F hX hP hin2 6 rfl rfl 9 (by decide) (mm 5 rfl) rfl dX2_becomeWithOne_52 ?_
  refine lv_iload_n F.1 F.2.1 dX2_becomeWithOne_55 rfl (lv_at hl 2 rfl) ?_
  refine g_iald F hX hP 11 rfl (j := j) (rfl) (by omega) (by decide) dX2_becomeWithOne_56 ?_
  refine g_iast F hX hP hD hS 5 rfl (j := 0) (rfl) (by decide) (by decide) dX2_becomeWithOne_57 (fun H locs hP hD hS => ?_)
  have hP : va_P (eD E) vwCl [(h, .inr (2, [.int mi2, .int fo2, .int wi2, .int sp2, .ref qn, .int 1, .ref qk, .ref qp, .ref qq, .ref qc, .int 0])), (qn, .inl (eI E, 30, .inl no2)), (qk, .inl (eI E, 8, .inl (upd ki 0 (ki2 j)))), (qp, .inl (eI E, 8, .inl (upd pl 0 (pl2 j)))), (qq, .inl (eI E, 8, .inl (upd qu 0 (qu2 j)))), (qc, .inl (eI E, 8, .inl (upd ca 0 (ca2 j)))), (o, .inr (2, [.int mi2, .int fo2, .int wi2, .int sp2, .ref qn2, .int (nI P2), .ref qk2, .ref qp2, .ref qq2, .ref qc2, .int wa2])), (qn2, .inl (eI E, 30, .inl no2)), (qk2, .inl (eI E, 8, .inl ki2)), (qp2, .inl (eI E, 8, .inl pl2)), (qq2, .inl (eI E, 8, .inl qu2)), (qc2, .inl (eI E, 8, .inl ca2))] H := hP
  have hD : va_D A [(h, .inr (2, [.int mi2, .int fo2, .int wi2, .int sp2, .ref qn, .int 1, .ref qk, .ref qp, .ref qq, .ref qc, .int 0])), (qn, .inl (eI E, 30, .inl no2)), (qk, .inl (eI E, 8, .inl (upd ki 0 (ki2 j)))), (qp, .inl (eI E, 8, .inl (upd pl 0 (pl2 j)))), (qq, .inl (eI E, 8, .inl (upd qu 0 (qu2 j)))), (qc, .inl (eI E, 8, .inl (upd ca 0 (ca2 j)))), (o, .inr (2, [.int mi2, .int fo2, .int wi2, .int sp2, .ref qn2, .int (nI P2), .ref qk2, .ref qp2, .ref qq2, .ref qc2, .int wa2])), (qn2, .inl (eI E, 30, .inl no2)), (qk2, .inl (eI E, 8, .inl ki2)), (qp2, .inl (eI E, 8, .inl pl2)), (qq2, .inl (eI E, 8, .inl qu2)), (qc2, .inl (eI E, 8, .inl ca2))] := hD
  refine lv_aload_n F.1 F.2.1 dX2_becomeWithOne_58 rfl (lv_at hl 0 rfl) ?_
  refine lv_aload_n F.1 F.2.1 dX2_becomeWithOne_59 rfl (lv_at hl 1 rfl) ?_
  refine g_get F hX hP hin2 6 rfl rfl 10 (by decide) (mm 6 rfl) rfl dX2_becomeWithOne_60 ?_
  refine lv_iload_n F.1 F.2.1 dX2_becomeWithOne_63 rfl (lv_at hl 2 rfl) ?_
  refine lv_ishr F.1 F.2.1 dX2_becomeWithOne_64 ?_
  refine lv_iconst (v := 1) F.1 F.2.1 dX2_becomeWithOne_65 (by decide) ?_
  refine lv_iand F.1 F.2.1 dX2_becomeWithOne_66 ?_
  refine g_put F hX hP hD hS hin2 tyX2 tyX2_ok nmX2 0 rfl rfl 10 (by decide) (mm 6 rfl) rfl (rfl) (rfl) (Nat.le_of_ble_eq_true rfl) dX2_becomeWithOne_67 (fun H locs hP hD hS => ?_)
  have hP : va_P (eD E) vwCl [(h, .inr (2, [.int mi2, .int fo2, .int wi2, .int sp2, .ref qn, .int 1, .ref qk, .ref qp, .ref qq, .ref qc, .int ((wa2 >>> ((nI j) &&& 31)) &&& 1)])), (qn, .inl (eI E, 30, .inl no2)), (qk, .inl (eI E, 8, .inl (upd ki 0 (ki2 j)))), (qp, .inl (eI E, 8, .inl (upd pl 0 (pl2 j)))), (qq, .inl (eI E, 8, .inl (upd qu 0 (qu2 j)))), (qc, .inl (eI E, 8, .inl (upd ca 0 (ca2 j)))), (o, .inr (2, [.int mi2, .int fo2, .int wi2, .int sp2, .ref qn2, .int (nI P2), .ref qk2, .ref qp2, .ref qq2, .ref qc2, .int wa2])), (qn2, .inl (eI E, 30, .inl no2)), (qk2, .inl (eI E, 8, .inl ki2)), (qp2, .inl (eI E, 8, .inl pl2)), (qq2, .inl (eI E, 8, .inl qu2)), (qc2, .inl (eI E, 8, .inl ca2))] H := hP
  have hD : va_D A [(h, .inr (2, [.int mi2, .int fo2, .int wi2, .int sp2, .ref qn, .int 1, .ref qk, .ref qp, .ref qq, .ref qc, .int ((wa2 >>> ((nI j) &&& 31)) &&& 1)])), (qn, .inl (eI E, 30, .inl no2)), (qk, .inl (eI E, 8, .inl (upd ki 0 (ki2 j)))), (qp, .inl (eI E, 8, .inl (upd pl 0 (pl2 j)))), (qq, .inl (eI E, 8, .inl (upd qu 0 (qu2 j)))), (qc, .inl (eI E, 8, .inl (upd ca 0 (ca2 j)))), (o, .inr (2, [.int mi2, .int fo2, .int wi2, .int sp2, .ref qn2, .int (nI P2), .ref qk2, .ref qp2, .ref qq2, .ref qc2, .int wa2])), (qn2, .inl (eI E, 30, .inl no2)), (qk2, .inl (eI E, 8, .inl ki2)), (qp2, .inl (eI E, 8, .inl pl2)), (qq2, .inl (eI E, 8, .inl qu2)), (qc2, .inl (eI E, 8, .inl ca2))] := hD
  exact g_retv F hr hlk hS hP hD (()) (rfl) (trivial) dX2_becomeWithOne_70
set_option maxHeartbeats 4000000 in
set_option maxRecDepth 100000 in
theorem c_X2_add (l : Launch) (E : gE) (h : Nat) (mi : Int32) (fo : Int32) (wi : Int32) (sp : Int32) (P : Nat) (wa : Int32) (qn : Nat) (qk : Nat) (qp : Nat) (qq : Nat) (qc : Nat) (k : Int32) (g : Int32) (ki : Nat → Int32) (pl : Nat → Int32) (qu : Nat → Int32) (ca : Nat → Int32) (hP8 : P < 8) : gV l yX2_add wsX2_add ({ frames := 0, cells := 0, slots := 0, locals := 0 }) E [(h, .inr (2, [.int mi, .int fo, .int wi, .int sp, .ref qn, .int (nI P), .ref qk, .ref qp, .ref qq, .ref qc, .int wa])), (qk, .inl (eI E, 8, .inl ki)), (qp, .inl (eI E, 8, .inl pl)), (qq, .inl (eI E, 8, .inl qu)), (qc, .inl (eI E, 8, .inl ca))] (fun _ : Unit => [(h, .inr (2, [.int mi, .int fo, .int wi, .int sp, .ref qn, .int (nI (P + 1)), .ref qk, .ref qp, .ref qq, .ref qc, .int (wa &&& ((1 <<< (nI P &&& 31)) ^^^ (-1)))])), (qk, .inl (eI E, 8, .inl (upd ki P k))), (qp, .inl (eI E, 8, .inl (upd pl P g))), (qq, .inl (eI E, 8, .inl (upd qu P 0))), (qc, .inl (eI E, 8, .inl (upd ca P 0)))]) [.ref h, .int k, .int g] (fun (_ : Unit) => True) := by
  have hin2 : ∀ w ∈ wsX20, w ∈ wsX2_add := (fun _ h => (List.mem_cons_of_mem _ (List.mem_append_right _ h)))
  refine gV.of (cc := cX2_add) (maxL := 3) (by decide) rfl (Nat.le_of_ble_eq_true rfl) ?_
  intro pG eG sG mG below meth cG A ls H locs F hr hlk hX hP hD hA hS hl
  have hl : lv_has ls 3 [(0, .ref h), (1, .int k), (2, .int g)] := hl
  refine lv_aload_n F.1 F.2.1 dX2_add_0 rfl (lv_at hl 0 rfl) ?_
  refine g_get F hX hP hin2 0 rfl rfl 5 (by decide) (mm 1 rfl) rfl dX2_add_1 ?_
  refine lv_bipush (v := 8) F.1 F.2.1 dX2_add_4 (by decide) ?_
  refine lv_icmp_ge (tgt := 76) F.1 F.2.1 dX2_add_6 (by decide) (fun k1 => ?_) (fun k1 => ?_)
  · exact absurd k1 (nI_ge hP8 (by decide))
  · refine lv_aload_n F.1 F.2.1 dX2_add_9 rfl (lv_at hl 0 rfl) ?_
    refine g_get F hX hP hin2 0 rfl rfl 6 (by decide) (mm 2 rfl) rfl dX2_add_10 ?_
    refine lv_aload_n F.1 F.2.1 dX2_add_13 rfl (lv_at hl 0 rfl) ?_
    refine g_get F hX hP hin2 0 rfl rfl 5 (by decide) (mm 1 rfl) rfl dX2_add_14 ?_
    refine lv_iload_n F.1 F.2.1 dX2_add_17 rfl (lv_at hl 1 rfl) ?_
    refine g_iast F hX hP hD hS 1 rfl (j := P) (rfl) (by omega) (by decide) dX2_add_18 (fun H locs hP hD hS => ?_)
    have hP : va_P (eD E) vwCl [(h, .inr (2, [.int mi, .int fo, .int wi, .int sp, .ref qn, .int (nI P), .ref qk, .ref qp, .ref qq, .ref qc, .int wa])), (qk, .inl (eI E, 8, .inl (upd ki P k))), (qp, .inl (eI E, 8, .inl pl)), (qq, .inl (eI E, 8, .inl qu)), (qc, .inl (eI E, 8, .inl ca))] H := hP
    have hD : va_D A [(h, .inr (2, [.int mi, .int fo, .int wi, .int sp, .ref qn, .int (nI P), .ref qk, .ref qp, .ref qq, .ref qc, .int wa])), (qk, .inl (eI E, 8, .inl (upd ki P k))), (qp, .inl (eI E, 8, .inl pl)), (qq, .inl (eI E, 8, .inl qu)), (qc, .inl (eI E, 8, .inl ca))] := hD
    refine lv_aload_n F.1 F.2.1 dX2_add_19 rfl (lv_at hl 0 rfl) ?_
    refine g_get F hX hP hin2 0 rfl rfl 7 (by decide) (mm 3 rfl) rfl dX2_add_20 ?_
    refine lv_aload_n F.1 F.2.1 dX2_add_23 rfl (lv_at hl 0 rfl) ?_
    refine g_get F hX hP hin2 0 rfl rfl 5 (by decide) (mm 1 rfl) rfl dX2_add_24 ?_
    refine lv_iload_n F.1 F.2.1 dX2_add_27 rfl (lv_at hl 2 rfl) ?_
    refine g_iast F hX hP hD hS 2 rfl (j := P) (rfl) (by omega) (by decide) dX2_add_28 (fun H locs hP hD hS => ?_)
    have hP : va_P (eD E) vwCl [(h, .inr (2, [.int mi, .int fo, .int wi, .int sp, .ref qn, .int (nI P), .ref qk, .ref qp, .ref qq, .ref qc, .int wa])), (qk, .inl (eI E, 8, .inl (upd ki P k))), (qp, .inl (eI E, 8, .inl (upd pl P g))), (qq, .inl (eI E, 8, .inl qu)), (qc, .inl (eI E, 8, .inl ca))] H := hP
    have hD : va_D A [(h, .inr (2, [.int mi, .int fo, .int wi, .int sp, .ref qn, .int (nI P), .ref qk, .ref qp, .ref qq, .ref qc, .int wa])), (qk, .inl (eI E, 8, .inl (upd ki P k))), (qp, .inl (eI E, 8, .inl (upd pl P g))), (qq, .inl (eI E, 8, .inl qu)), (qc, .inl (eI E, 8, .inl ca))] := hD
    refine lv_aload_n F.1 F.2.1 dX2_add_29 rfl (lv_at hl 0 rfl) ?_
    refine g_get F hX hP hin2 0 rfl rfl 8 (by decide) (mm 4 rfl) rfl dX2_add_30 ?_
    refine lv_aload_n F.1 F.2.1 dX2_add_33 rfl (lv_at hl 0 rfl) ?_
    refine g_get F hX hP hin2 0 rfl rfl 5 (by decide) (mm 1 rfl) rfl dX2_add_34 ?_
    refine lv_iconst (v := 0) F.1 F.2.1 dX2_add_37 (by decide) ?_
    refine g_iast F hX hP hD hS 3 rfl (j := P) (rfl) (by omega) (by decide) dX2_add_38 (fun H locs hP hD hS => ?_)
    have hP : va_P (eD E) vwCl [(h, .inr (2, [.int mi, .int fo, .int wi, .int sp, .ref qn, .int (nI P), .ref qk, .ref qp, .ref qq, .ref qc, .int wa])), (qk, .inl (eI E, 8, .inl (upd ki P k))), (qp, .inl (eI E, 8, .inl (upd pl P g))), (qq, .inl (eI E, 8, .inl (upd qu P 0))), (qc, .inl (eI E, 8, .inl ca))] H := hP
    have hD : va_D A [(h, .inr (2, [.int mi, .int fo, .int wi, .int sp, .ref qn, .int (nI P), .ref qk, .ref qp, .ref qq, .ref qc, .int wa])), (qk, .inl (eI E, 8, .inl (upd ki P k))), (qp, .inl (eI E, 8, .inl (upd pl P g))), (qq, .inl (eI E, 8, .inl (upd qu P 0))), (qc, .inl (eI E, 8, .inl ca))] := hD
    refine lv_aload_n F.1 F.2.1 dX2_add_39 rfl (lv_at hl 0 rfl) ?_
    refine g_get F hX hP hin2 0 rfl rfl 9 (by decide) (mm 5 rfl) rfl dX2_add_40 ?_
    refine lv_aload_n F.1 F.2.1 dX2_add_43 rfl (lv_at hl 0 rfl) ?_
    refine g_get F hX hP hin2 0 rfl rfl 5 (by decide) (mm 1 rfl) rfl dX2_add_44 ?_
    refine lv_iconst (v := 0) F.1 F.2.1 dX2_add_47 (by decide) ?_
    refine g_iast F hX hP hD hS 4 rfl (j := P) (rfl) (by omega) (by decide) dX2_add_48 (fun H locs hP hD hS => ?_)
    have hP : va_P (eD E) vwCl [(h, .inr (2, [.int mi, .int fo, .int wi, .int sp, .ref qn, .int (nI P), .ref qk, .ref qp, .ref qq, .ref qc, .int wa])), (qk, .inl (eI E, 8, .inl (upd ki P k))), (qp, .inl (eI E, 8, .inl (upd pl P g))), (qq, .inl (eI E, 8, .inl (upd qu P 0))), (qc, .inl (eI E, 8, .inl (upd ca P 0)))] H := hP
    have hD : va_D A [(h, .inr (2, [.int mi, .int fo, .int wi, .int sp, .ref qn, .int (nI P), .ref qk, .ref qp, .ref qq, .ref qc, .int wa])), (qk, .inl (eI E, 8, .inl (upd ki P k))), (qp, .inl (eI E, 8, .inl (upd pl P g))), (qq, .inl (eI E, 8, .inl (upd qu P 0))), (qc, .inl (eI E, 8, .inl (upd ca P 0)))] := hD
    refine lv_aload_n F.1 F.2.1 dX2_add_49 rfl (lv_at hl 0 rfl) ?_
    refine lv_dup F.1 F.2.1 dX2_add_50 rfl ?_
    refine g_get F hX hP hin2 0 rfl rfl 10 (by decide) (mm 6 rfl) rfl dX2_add_51 ?_
    refine lv_iconst (v := 1) F.1 F.2.1 dX2_add_54 (by decide) ?_
    refine lv_aload_n F.1 F.2.1 dX2_add_55 rfl (lv_at hl 0 rfl) ?_
    refine g_get F hX hP hin2 0 rfl rfl 5 (by decide) (mm 1 rfl) rfl dX2_add_56 ?_
    refine lv_ishl F.1 F.2.1 dX2_add_59 ?_
    refine lv_iconst (v := (-1)) F.1 F.2.1 dX2_add_60 (by decide) ?_
    refine lv_ixor F.1 F.2.1 dX2_add_61 ?_
    refine lv_iand F.1 F.2.1 dX2_add_62 ?_
    refine g_put F hX hP hD hS hin2 tyX2 tyX2_ok nmX2 0 rfl rfl 10 (by decide) (mm 6 rfl) rfl (rfl) (rfl) (Nat.le_of_ble_eq_true rfl) dX2_add_63 (fun H locs hP hD hS => ?_)
    have hP : va_P (eD E) vwCl [(h, .inr (2, [.int mi, .int fo, .int wi, .int sp, .ref qn, .int (nI P), .ref qk, .ref qp, .ref qq, .ref qc, .int (wa &&& ((1 <<< ((nI P) &&& 31)) ^^^ (-1)))])), (qk, .inl (eI E, 8, .inl (upd ki P k))), (qp, .inl (eI E, 8, .inl (upd pl P g))), (qq, .inl (eI E, 8, .inl (upd qu P 0))), (qc, .inl (eI E, 8, .inl (upd ca P 0)))] H := hP
    have hD : va_D A [(h, .inr (2, [.int mi, .int fo, .int wi, .int sp, .ref qn, .int (nI P), .ref qk, .ref qp, .ref qq, .ref qc, .int (wa &&& ((1 <<< ((nI P) &&& 31)) ^^^ (-1)))])), (qk, .inl (eI E, 8, .inl (upd ki P k))), (qp, .inl (eI E, 8, .inl (upd pl P g))), (qq, .inl (eI E, 8, .inl (upd qu P 0))), (qc, .inl (eI E, 8, .inl (upd ca P 0)))] := hD
    refine lv_aload_n F.1 F.2.1 dX2_add_66 rfl (lv_at hl 0 rfl) ?_
    refine lv_dup F.1 F.2.1 dX2_add_67 rfl ?_
    refine g_get F hX hP hin2 0 rfl rfl 5 (by decide) (mm 1 rfl) rfl dX2_add_68 ?_
    refine lv_iconst (v := 1) F.1 F.2.1 dX2_add_71 (by decide) ?_
    refine lv_iadd F.1 F.2.1 dX2_add_72 ?_
    refine g_top (nI (P + 1)) (nI_1 _) ?_
    refine g_put F hX hP hD hS hin2 tyX2 tyX2_ok nmX2 0 rfl rfl 5 (by decide) (mm 1 rfl) rfl (rfl) (rfl) (Nat.le_of_ble_eq_true rfl) dX2_add_73 (fun H locs hP hD hS => ?_)
    have hP : va_P (eD E) vwCl [(h, .inr (2, [.int mi, .int fo, .int wi, .int sp, .ref qn, .int (nI (P + 1)), .ref qk, .ref qp, .ref qq, .ref qc, .int (wa &&& ((1 <<< ((nI P) &&& 31)) ^^^ (-1)))])), (qk, .inl (eI E, 8, .inl (upd ki P k))), (qp, .inl (eI E, 8, .inl (upd pl P g))), (qq, .inl (eI E, 8, .inl (upd qu P 0))), (qc, .inl (eI E, 8, .inl (upd ca P 0)))] H := hP
    have hD : va_D A [(h, .inr (2, [.int mi, .int fo, .int wi, .int sp, .ref qn, .int (nI (P + 1)), .ref qk, .ref qp, .ref qq, .ref qc, .int (wa &&& ((1 <<< ((nI P) &&& 31)) ^^^ (-1)))])), (qk, .inl (eI E, 8, .inl (upd ki P k))), (qp, .inl (eI E, 8, .inl (upd pl P g))), (qq, .inl (eI E, 8, .inl (upd qu P 0))), (qc, .inl (eI E, 8, .inl (upd ca P 0)))] := hD
    exact g_retv F hr hlk hS hP hD (()) (rfl) (trivial) dX2_add_76
set_option maxHeartbeats 4000000 in
set_option maxRecDepth 100000 in
theorem c_X2_noiseOfAll (l : Launch) (E : gE) (h : Nat) (mi : Int32) (fo : Int32) (wi : Int32) (sp : Int32) (P : Nat) (wa : Int32) (qn : Nat) (qk : Nat) (qp : Nat) (qq : Nat) (qc : Nat) (no : Nat → Int32) : gI l yX2_noiseOfAll wsX2_noiseOfAll ({ frames := 1, cells := 0, slots := 0, locals := 23 }) E [(h, .inr (2, [.int mi, .int fo, .int wi, .int sp, .ref qn, .int (nI P), .ref qk, .ref qp, .ref qq, .ref qc, .int wa])), (qn, .inl (eI E, 30, .inl no))] (fun _ : Unit => [(h, .inr (2, [.int mi, .int fo, .int wi, .int sp, .ref qn, .int (nI P), .ref qk, .ref qp, .ref qq, .ref qc, .int wa])), (qn, .inl (eI E, 30, .inl no))]) [.ref h] (fun (r : Int32) (_ : Unit) => r = sumF 0 no 30) := by
  have hin2 : ∀ w ∈ wsX20, w ∈ wsX2_noiseOfAll := (fun _ h => (List.mem_cons_of_mem _ (List.mem_append_right _ h)))
  refine gI.of (cc := cX2_noiseOfAll) (maxL := 1) (by decide) rfl (Nat.le_of_ble_eq_true rfl) ?_
  intro pG eG sG mG below meth cG A ls H locs F hr hlk hX hP hD hA hS hl
  have hl : lv_has ls 1 [(0, .ref h)] := hl
  refine lv_aload_n F.1 F.2.1 dX2_noiseOfAll_0 rfl (lv_at hl 0 rfl) ?_
  refine g_get F hX hP hin2 0 rfl rfl 4 (by decide) (mm 1 rfl) rfl dX2_noiseOfAll_1 ?_
  refine lv_bipush (v := 30) F.1 F.2.1 dX2_noiseOfAll_4 (by decide) ?_
  refine g_goIr (g_runSN (As := [.ref qn, .int 30]) (rest := []) F hX hP hD hS hA (c_X3_sum l E qn 30 30 no (by omega) H.size) ⟨va_cnB 2 F.2.2.2.2 gX2_noiseOfAll_X3_sum_n112 rfl rfl rfl hX.2.1.2.1 (F.2.2.2.2 _ (mm 3 rfl)) (by decide +kernel) ⟨Nat.le_of_ble_eq_true rfl, Nat.le_of_ble_eq_true rfl⟩, F.2.2.2.2 _ (mm 2 rfl), trivial⟩ [1] rfl rfl rfl hl.1 rfl (Nat.le_of_ble_eq_true rfl) dX2_noiseOfAll_6 ⟨Nat.le_refl _, Nat.le_refl _⟩) hP hD hS hA [1] rfl (fun r _ H locs hq hP hS => ?_)
  subst hq
  exact g_reti F hr hlk (vp_nar_int _) hS hP hD (()) (rfl) (rfl) dX2_noiseOfAll_9
set_option maxHeartbeats 4000000 in
set_option maxRecDepth 100000 in
theorem c_X2_quietOfAll (l : Launch) (E : gE) (h : Nat) (mi : Int32) (fo : Int32) (wi : Int32) (sp : Int32) (P : Nat) (wa : Int32) (qn : Nat) (qk : Nat) (qp : Nat) (qq : Nat) (qc : Nat) (qu : Nat → Int32) (hP8 : P ≤ 8) : gI l yX2_quietOfAll wsX2_quietOfAll ({ frames := 1, cells := 0, slots := 0, locals := 23 }) E [(h, .inr (2, [.int mi, .int fo, .int wi, .int sp, .ref qn, .int (nI P), .ref qk, .ref qp, .ref qq, .ref qc, .int wa])), (qq, .inl (eI E, 8, .inl qu))] (fun _ : Unit => [(h, .inr (2, [.int mi, .int fo, .int wi, .int sp, .ref qn, .int (nI P), .ref qk, .ref qp, .ref qq, .ref qc, .int wa])), (qq, .inl (eI E, 8, .inl qu))]) [.ref h] (fun (r : Int32) (_ : Unit) => r = sumF 0 qu P) := by
  have hin2 : ∀ w ∈ wsX20, w ∈ wsX2_quietOfAll := (fun _ h => (List.mem_cons_of_mem _ (List.mem_append_right _ h)))
  refine gI.of (cc := cX2_quietOfAll) (maxL := 1) (by decide) rfl (Nat.le_of_ble_eq_true rfl) ?_
  intro pG eG sG mG below meth cG A ls H locs F hr hlk hX hP hD hA hS hl
  have hl : lv_has ls 1 [(0, .ref h)] := hl
  refine lv_aload_n F.1 F.2.1 dX2_quietOfAll_0 rfl (lv_at hl 0 rfl) ?_
  refine g_get F hX hP hin2 0 rfl rfl 8 (by decide) (mm 1 rfl) rfl dX2_quietOfAll_1 ?_
  refine lv_aload_n F.1 F.2.1 dX2_quietOfAll_4 rfl (lv_at hl 0 rfl) ?_
  refine g_get F hX hP hin2 0 rfl rfl 5 (by decide) (mm 2 rfl) rfl dX2_quietOfAll_5 ?_
  refine g_goIr (g_runSN (As := [.ref qq, .int (nI P)]) (rest := []) F hX hP hD hS hA (c_X3_sum l E qq P 8 qu (by omega) H.size) ⟨va_cnB 2 F.2.2.2.2 gX2_quietOfAll_X3_sum_n112 rfl rfl rfl hX.2.1.2.1 (F.2.2.2.2 _ (mm 4 rfl)) (by decide +kernel) ⟨Nat.le_of_ble_eq_true rfl, Nat.le_of_ble_eq_true rfl⟩, F.2.2.2.2 _ (mm 3 rfl), trivial⟩ [1] rfl rfl rfl hl.1 rfl (Nat.le_of_ble_eq_true rfl) dX2_quietOfAll_8 ⟨Nat.le_refl _, Nat.le_refl _⟩) hP hD hS hA [1] rfl (fun r _ H locs hq hP hS => ?_)
  subst hq
  exact g_reti F hr hlk (vp_nar_int _) hS hP hD (()) (rfl) (rfl) dX2_quietOfAll_11
set_option maxHeartbeats 4000000 in
set_option maxRecDepth 100000 in
theorem c_X2_caughtOfAll (l : Launch) (E : gE) (h : Nat) (mi : Int32) (fo : Int32) (wi : Int32) (sp : Int32) (P : Nat) (wa : Int32) (qn : Nat) (qk : Nat) (qp : Nat) (qq : Nat) (qc : Nat) (ca : Nat → Int32) (hP8 : P ≤ 8) : gI l yX2_caughtOfAll wsX2_caughtOfAll ({ frames := 1, cells := 0, slots := 0, locals := 23 }) E [(h, .inr (2, [.int mi, .int fo, .int wi, .int sp, .ref qn, .int (nI P), .ref qk, .ref qp, .ref qq, .ref qc, .int wa])), (qc, .inl (eI E, 8, .inl ca))] (fun _ : Unit => [(h, .inr (2, [.int mi, .int fo, .int wi, .int sp, .ref qn, .int (nI P), .ref qk, .ref qp, .ref qq, .ref qc, .int wa])), (qc, .inl (eI E, 8, .inl ca))]) [.ref h] (fun (r : Int32) (_ : Unit) => r = sumF 0 ca P) := by
  have hin2 : ∀ w ∈ wsX20, w ∈ wsX2_caughtOfAll := (fun _ h => (List.mem_cons_of_mem _ (List.mem_append_right _ h)))
  refine gI.of (cc := cX2_caughtOfAll) (maxL := 1) (by decide) rfl (Nat.le_of_ble_eq_true rfl) ?_
  intro pG eG sG mG below meth cG A ls H locs F hr hlk hX hP hD hA hS hl
  have hl : lv_has ls 1 [(0, .ref h)] := hl
  refine lv_aload_n F.1 F.2.1 dX2_caughtOfAll_0 rfl (lv_at hl 0 rfl) ?_
  refine g_get F hX hP hin2 0 rfl rfl 9 (by decide) (mm 1 rfl) rfl dX2_caughtOfAll_1 ?_
  refine lv_aload_n F.1 F.2.1 dX2_caughtOfAll_4 rfl (lv_at hl 0 rfl) ?_
  refine g_get F hX hP hin2 0 rfl rfl 5 (by decide) (mm 2 rfl) rfl dX2_caughtOfAll_5 ?_
  refine g_goIr (g_runSN (As := [.ref qc, .int (nI P)]) (rest := []) F hX hP hD hS hA (c_X3_sum l E qc P 8 ca (by omega) H.size) ⟨va_cnB 2 F.2.2.2.2 gX2_caughtOfAll_X3_sum_n112 rfl rfl rfl hX.2.1.2.1 (F.2.2.2.2 _ (mm 4 rfl)) (by decide +kernel) ⟨Nat.le_of_ble_eq_true rfl, Nat.le_of_ble_eq_true rfl⟩, F.2.2.2.2 _ (mm 3 rfl), trivial⟩ [1] rfl rfl rfl hl.1 rfl (Nat.le_of_ble_eq_true rfl) dX2_caughtOfAll_8 ⟨Nat.le_refl _, Nat.le_refl _⟩) hP hD hS hA [1] rfl (fun r _ H locs hq hP hS => ?_)
  subst hq
  exact g_reti F hr hlk (vp_nar_int _) hS hP hD (()) (rfl) (rfl) dX2_caughtOfAll_11
