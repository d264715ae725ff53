/-! the public methods that try things out -/
theorem who1 (f : Nat → Bool) : whoC f 1 = bi (f 0) := by
  show ((0 : Int32) ||| (bif f 0 then (1 : Int32) <<< (nI 0 &&& 31) else 0)) = _
  cases f 0 <;> decide
theorem one_mi (fo wi sp mi wa k p q c : Int32) (ki pl qu ca : Nat → Int32) {j : Nat} (hj : j < 32) (n : Nat) : (itT fo wi sp 1 (upd ki 0 k) n (mi, bitOf wa j, upd pl 0 p, upd qu 0 q, upd ca 0 c)).1 = (it1 fo wi sp k n (mi, bitOf wa j, p, q, c)).1 := congrArg (fun t : PV => t.1) (itT_one fo wi sp mi wa k p q c ki pl qu ca hj n)
theorem one_pl (fo wi sp mi wa k p q c : Int32) (ki pl qu ca : Nat → Int32) {j : Nat} (hj : j < 32) (n : Nat) : (itT fo wi sp 1 (upd ki 0 k) n (mi, bitOf wa j, upd pl 0 p, upd qu 0 q, upd ca 0 c)).2.2.1 0 = (it1 fo wi sp k n (mi, bitOf wa j, p, q, c)).2.2.1 := congrArg (fun t : PV => t.2.2.1) (itT_one fo wi sp mi wa k p q c ki pl qu ca hj n)
theorem one_qu (fo wi sp mi wa k p q c : Int32) (ki pl qu ca : Nat → Int32) {j : Nat} (hj : j < 32) (n : Nat) : (itT fo wi sp 1 (upd ki 0 k) n (mi, bitOf wa j, upd pl 0 p, upd qu 0 q, upd ca 0 c)).2.2.2.1 0 = (it1 fo wi sp k n (mi, bitOf wa j, p, q, c)).2.2.2.1 := congrArg (fun t : PV => t.2.2.2.1) (itT_one fo wi sp mi wa k p q c ki pl qu ca hj n)
theorem one_ca (fo wi sp mi wa k p q c : Int32) (ki pl qu ca : Nat → Int32) {j : Nat} (hj : j < 32) (n : Nat) : (itT fo wi sp 1 (upd ki 0 k) n (mi, bitOf wa j, upd pl 0 p, upd qu 0 q, upd ca 0 c)).2.2.2.2 0 = (it1 fo wi sp k n (mi, bitOf wa j, p, q, c)).2.2.2.2 := congrArg (fun t : PV => t.2.2.2.2) (itT_one fo wi sp mi wa k p q c ki pl qu ca hj n)
/-- the first of i, i + 1, .. (n of them) of which it holds -/
def fs1 (p : Nat → Bool) : Nat → Nat → Option Nat
  | 0, _ => none
  | n + 1, i => bif p i then some i else fs1 p n (i + 1)
theorem fs1_yes {p : Nat → Bool} {n i : Nat} (h : p i = true) (hn : 0 < n) : fs1 p n i = some i := by
  cases n with
  | zero => exact absurd hn (Nat.lt_irrefl 0)
  | succ n => show (bif p i then some i else fs1 p n (i + 1)) = some i; rw [h]; rfl
theorem fs1_no {p : Nat → Bool} {N i : Nat} (h : p i = false) (hn : i < N) : fs1 p (N - i) i = fs1 p (N - (i + 1)) (i + 1) := by
  obtain ⟨k, hk⟩ : ∃ k, N - i = k + 1 := ⟨N - i - 1, by omega⟩
  rw [hk, show N - (i + 1) = k by omega]
  show (bif p i then some i else fs1 p k (i + 1)) = _
  rw [h]; rfl
theorem fs1_end {p : Nat → Bool} {N : Nat} : fs1 p (N - N) N = none := by rw [Nat.sub_self]; rfl
/-- the best so far: what is most, of several the first -/
def bst (f : Nat → Int32) (lab : Nat → Int32) (ini : Int32 × Int32) : Nat → Int32 × Int32
  | 0 => ini
  | n + 1 => if f n ≤ (bst f lab ini n).2 then bst f lab ini n else (lab n, f n)
def bsm (f : Nat → Int32) (lab : Nat → Int32) (ini : Int32 × Int32) : Nat → Int32 × Int32
  | 0 => ini
  | n + 1 => if (bsm f lab ini n).2 ≤ f n then bsm f lab ini n else (lab n, f n)
def qtb (f : Nat → Int32) : Nat → Nat
  | 0 => 0
  | n + 1 => if f (n + 1) ≤ f (qtb f n) then qtb f n else n + 1
theorem qtb_le (f : Nat → Int32) : ∀ n, qtb f n ≤ n
  | 0 => Nat.le_refl 0
  | n + 1 => by
    show (if f (n + 1) ≤ f (qtb f n) then qtb f n else n + 1) ≤ n + 1
    split
    · exact Nat.le_succ_of_le (qtb_le f n)
    · exact Nat.le_refl _
def wdv (i : Nat) : Int32 := 10 - nI i
theorem wdv_s (i : Nat) : wdv i + (-1) = wdv (i + 1) := by
  unfold wdv
  rw [nI_succ]
  show (10 - nI i : Int32) + -1 = 10 - (nI i + 1)
  rw [← Int32.sub_eq_add_neg, Int32.sub_sub]
theorem wdv_lt {i : Nat} (h : i ≤ 11) : wdv i < 0 ↔ 10 < i := by
  rw [Int32.lt_iff_toInt_lt]
  have e : (wdv i).toInt = (10 : Int) - i := pk_sub_toInt (a := 10) (by decide) (by omega)
  rw [e]
  show (10 : Int) - i < 0 ↔ _
  omega
set_option maxHeartbeats 4000000 in
set_option maxRecDepth 100000 in
theorem c_X3_tryOn (l : Launch) (E : gE) (x : Nat) (fx : List Value) (t : Nat) (h : Nat) (mi : Int32) (fo : Int32) (wi : Int32) (sp : Int32) (P : Nat) (wa : Int32) (qn : Nat) (qk : Nat) (qp : Nat) (qq : Nat) (qc : Nat) (no : Nat → Int32) (ki : Nat → Int32) (pl : Nat → Int32) (qu : Nat → Int32) (ca : Nat → Int32) (mi3 : Int32) (fo3 : Int32) (wi3 : Int32) (sp3 : Int32) (P3 : Nat) (wa3 : Int32) (qn3 : Nat) (qk3 : Nat) (qp3 : Nat) (qq3 : Nat) (qc3 : Nat) (no3 : Nat → Int32) (ki3 : Nat → Int32) (pl3 : Nat → Int32) (qu3 : Nat → Int32) (ca3 : Nat → Int32) (N : Nat) (hx0 : fx[0]? = some (.ref h)) (hx2 : fx[2]? = some (.ref t)) (hP8 : P ≤ 8) (hN : N < 2 ^ 31) : gV l yX3_tryOn wsX3_tryOn ({ frames := 5, cells := 0, slots := 0, locals := 112 }) E [(x, .inr (3, fx)), (h, .inr (2, [.int mi, .int fo, .int wi, .int sp, .ref qn, .int (nI P), .ref qk, .ref qp, .ref qq, .ref qc, .int wa])), (qn, .inl (eI E, 30, .inl no)), (qk, .inl (eI E, 8, .inl ki)), (qp, .inl (eI E, 8, .inl pl)), (qq, .inl (eI E, 8, .inl qu)), (qc, .inl (eI E, 8, .inl ca)), (t, .inr (2, [.int mi3, .int fo3, .int wi3, .int sp3, .ref qn3, .int (nI P3), .ref qk3, .ref qp3, .ref qq3, .ref qc3, .int wa3])), (qn3, .inl (eI E, 30, .inl no3)), (qk3, .inl (eI E, 8, .inl ki3)), (qp3, .inl (eI E, 8, .inl pl3)), (qq3, .inl (eI E, 8, .inl qu3)), (qc3, .inl (eI E, 8, .inl ca3))] (fun _ : Unit => [(x, .inr (3, fx)), (h, .inr (2, [.int mi, .int fo, .int wi, .int sp, .ref qn, .int (nI P), .ref qk, .ref qp, .ref qq, .ref qc, .int wa])), (qn, .inl (eI E, 30, .inl no)), (qk, .inl (eI E, 8, .inl ki)), (qp, .inl (eI E, 8, .inl pl)), (qq, .inl (eI E, 8, .inl qu)), (qc, .inl (eI E, 8, .inl ca)), (t, .inr (2, [.int ((itT fo wi sp P ki N (mi, wa, pl, qu, ca)).1), .int fo, .int wi, .int sp, .ref qn3, .int (nI P), .ref qk3, .ref qp3, .ref qq3, .ref qc3, .int ((itT fo wi sp P ki N (mi, wa, pl, qu, ca)).2.1)])), (qn3, .inl (eI E, 30, .inl no)), (qk3, .inl (eI E, 8, .inl ki)), (qp3, .inl (eI E, 8, .inl ((itT fo wi sp P ki N (mi, wa, pl, qu, ca)).2.2.1))), (qq3, .inl (eI E, 8, .inl ((itT fo wi sp P ki N (mi, wa, pl, qu, ca)).2.2.2.1))), (qc3, .inl (eI E, 8, .inl ((itT fo wi sp P ki N (mi, wa, pl, qu, ca)).2.2.2.2)))]) [.ref x, .int (nI N)] (fun (_ : Unit) => True) := by
  have hin3 : ∀ w ∈ wsX30, w ∈ wsX3_tryOn := (fun _ h => (List.mem_cons_of_mem _ (List.mem_append_left _ (List.mem_append_right _ h))))
  refine gV.of (cc := cX3_tryOn) (maxL := 2) (by decide) rfl (Nat.le_of_ble_eq_true rfl) ?_
  intro pG eG sG mG below meth cG A ls H locs F hr hlk hX hP hD hA hS hl
  have hl : lv_has ls 2 [(0, .ref x), (1, .int (nI N))] := hl
  refine lv_aload_n F.1 F.2.1 dX3_tryOn_0 rfl (lv_at hl 0 rfl) ?_
  refine g_get F hX hP hin3 0 rfl rfl 2 (by decide) (mm 1 rfl) hx2 dX3_tryOn_1 ?_
  refine lv_aload_n F.1 F.2.1 dX3_tryOn_4 rfl (lv_at hl 0 rfl) ?_
  refine g_get F hX hP hin3 0 rfl rfl 0 (by decide) (mm 2 rfl) hx0 dX3_tryOn_5 ?_
  refine g_goV (wr := [(x, .inr (3, fx))]) (g_runV (As := [.ref h]) (rest := []) F hX hP hD hS hA (c_X2_become l E t mi3 fo3 wi3 sp3 P3 wa3 qn3 qk3 qp3 qq3 qc3 h mi fo wi sp P wa qn qk qp qq qc no3 ki3 pl3 qu3 ca3 no ki pl qu ca H.size) (cwV 1 F.2.2.2.2 gX3_tryOn_X2_become rfl rfl rfl (by decide +kernel) ⟨Nat.le_of_ble_eq_true rfl, Nat.le_of_ble_eq_true rfl⟩) [7, 8, 9, 10, 11, 12, 1, 2, 3, 4, 5, 6] rfl rfl (q0 := 7) (ci := 2) rfl rfl rfl hl.1 rfl (Nat.le_of_ble_eq_true rfl) dX3_tryOn_8 ⟨Nat.le_refl _, Nat.le_refl _⟩) hP hD hS hA [7, 8, 9, 10, 11, 12, 1, 2, 3, 4, 5, 6] [0] rfl rfl rfl (by decide) (fun _ H locs hq hP hD hS => ?_)
  have hP : va_P (eD E) vwCl [(x, .inr (3, fx)), (h, .inr (2, [.int mi, .int fo, .int wi, .int sp, .ref qn, .int (nI P), .ref qk, .ref qp, .ref qq, .ref qc, .int wa])), (qn, .inl (eI E, 30, .inl no)), (qk, .inl (eI E, 8, .inl ki)), (qp, .inl (eI E, 8, .inl pl)), (qq, .inl (eI E, 8, .inl qu)), (qc, .inl (eI E, 8, .inl ca)), (t, .inr (2, [.int mi, .int fo, .int wi, .int sp, .ref qn3, .int (nI P), .ref qk3, .ref qp3, .ref qq3, .ref qc3, .int wa])), (qn3, .inl (eI E, 30, .inl no)), (qk3, .inl (eI E, 8, .inl ki)), (qp3, .inl (eI E, 8, .inl pl)), (qq3, .inl (eI E, 8, .inl qu)), (qc3, .inl (eI E, 8, .inl ca))] H := hP.sub [0, 7, 8, 9, 10, 11, 12, 1, 2, 3, 4, 5, 6] rfl
  have hD : va_D A [(x, .inr (3, fx)), (h, .inr (2, [.int mi, .int fo, .int wi, .int sp, .ref qn, .int (nI P), .ref qk, .ref qp, .ref qq, .ref qc, .int wa])), (qn, .inl (eI E, 30, .inl no)), (qk, .inl (eI E, 8, .inl ki)), (qp, .inl (eI E, 8, .inl pl)), (qq, .inl (eI E, 8, .inl qu)), (qc, .inl (eI E, 8, .inl ca)), (t, .inr (2, [.int mi, .int fo, .int wi, .int sp, .ref qn3, .int (nI P), .ref qk3, .ref qp3, .ref qq3, .ref qc3, .int wa])), (qn3, .inl (eI E, 30, .inl no)), (qk3, .inl (eI E, 8, .inl ki)), (qp3, .inl (eI E, 8, .inl pl)), (qq3, .inl (eI E, 8, .inl qu)), (qc3, .inl (eI E, 8, .inl ca))] := hD.sub [0, 7, 8, 9, 10, 11, 12, 1, 2, 3, 4, 5, 6] (by decide) rfl
  refine lv_aload_n F.1 F.2.1 dX3_tryOn_11 rfl (lv_at hl 0 rfl) ?_
  refine g_get F hX hP hin3 0 rfl rfl 2 (by decide) (mm 1 rfl) hx2 dX3_tryOn_12 ?_
  refine lv_iload_n F.1 F.2.1 dX3_tryOn_15 rfl (lv_at hl 1 rfl) ?_
  refine g_goV (wr := [(x, .inr (3, fx)), (h, .inr (2, [.int mi, .int fo, .int wi, .int sp, .ref qn, .int (nI P), .ref qk, .ref qp, .ref qq, .ref qc, .int wa])), (qn, .inl (eI E, 30, .inl no)), (qk, .inl (eI E, 8, .inl ki)), (qp, .inl (eI E, 8, .inl pl)), (qq, .inl (eI E, 8, .inl qu)), (qc, .inl (eI E, 8, .inl ca)), (qn3, .inl (eI E, 30, .inl no))]) (g_runV (As := [.int (nI N)]) (rest := []) F hX hP hD hS hA (c_X2_goOn l E t mi fo wi sp P wa qn3 qk3 qp3 qq3 qc3 N ki pl qu ca (by first | assumption | omega) (by first | assumption | omega) H.size) (cwV 1 F.2.2.2.2 gX3_tryOn_X2_goOn rfl rfl rfl (by decide +kernel) ⟨Nat.le_of_ble_eq_true rfl, Nat.le_of_ble_eq_true rfl⟩) [7, 9, 10, 11, 12] rfl rfl (q0 := 7) (ci := 2) rfl rfl rfl hl.1 rfl (Nat.le_of_ble_eq_true rfl) dX3_tryOn_16 ⟨Nat.le_refl _, Nat.le_refl _⟩) hP hD hS hA [7, 9, 10, 11, 12] [0, 1, 2, 3, 4, 5, 6, 8] rfl rfl rfl (by decide) (fun _ H locs hq hP hD hS => ?_)
  have hP : va_P (eD E) vwCl [(x, .inr (3, fx)), (h, .inr (2, [.int mi, .int fo, .int wi, .int sp, .ref qn, .int (nI P), .ref qk, .ref qp, .ref qq, .ref qc, .int wa])), (qn, .inl (eI E, 30, .inl no)), (qk, .inl (eI E, 8, .inl ki)), (qp, .inl (eI E, 8, .inl pl)), (qq, .inl (eI E, 8, .inl qu)), (qc, .inl (eI E, 8, .inl ca)), (t, .inr (2, [.int ((itT fo wi sp P ki N (mi, wa, pl, qu, ca)).1), .int fo, .int wi, .int sp, .ref qn3, .int (nI P), .ref qk3, .ref qp3, .ref qq3, .ref qc3, .int ((itT fo wi sp P ki N (mi, wa, pl, qu, ca)).2.1)])), (qn3, .inl (eI E, 30, .inl no)), (qk3, .inl (eI E, 8, .inl ki)), (qp3, .inl (eI E, 8, .inl ((itT fo wi sp P ki N (mi, wa, pl, qu, ca)).2.2.1))), (qq3, .inl (eI E, 8, .inl ((itT fo wi sp P ki N (mi, wa, pl, qu, ca)).2.2.2.1))), (qc3, .inl (eI E, 8, .inl ((itT fo wi sp P ki N (mi, wa, pl, qu, ca)).2.2.2.2)))] H := hP.sub [0, 1, 2, 3, 4, 5, 6, 8, 7, 9, 10, 11, 12] rfl
  have hD : va_D A [(x, .inr (3, fx)), (h, .inr (2, [.int mi, .int fo, .int wi, .int sp, .ref qn, .int (nI P), .ref qk, .ref qp, .ref qq, .ref qc, .int wa])), (qn, .inl (eI E, 30, .inl no)), (qk, .inl (eI E, 8, .inl ki)), (qp, .inl (eI E, 8, .inl pl)), (qq, .inl (eI E, 8, .inl qu)), (qc, .inl (eI E, 8, .inl ca)), (t, .inr (2, [.int ((itT fo wi sp P ki N (mi, wa, pl, qu, ca)).1), .int fo, .int wi, .int sp, .ref qn3, .int (nI P), .ref qk3, .ref qp3, .ref qq3, .ref qc3, .int ((itT fo wi sp P ki N (mi, wa, pl, qu, ca)).2.1)])), (qn3, .inl (eI E, 30, .inl no)), (qk3, .inl (eI E, 8, .inl ki)), (qp3, .inl (eI E, 8, .inl ((itT fo wi sp P ki N (mi, wa, pl, qu, ca)).2.2.1))), (qq3, .inl (eI E, 8, .inl ((itT fo wi sp P ki N (mi, wa, pl, qu, ca)).2.2.2.1))), (qc3, .inl (eI E, 8, .inl ((itT fo wi sp P ki N (mi, wa, pl, qu, ca)).2.2.2.2)))] := hD.sub [0, 1, 2, 3, 4, 5, 6, 8, 7, 9, 10, 11, 12] (by decide) rfl
  exact g_retv F hr hlk hS hP hD (()) (rfl) (trivial) dX3_tryOn_19
set_option maxHeartbeats 4000000 in
set_option maxRecDepth 100000 in
theorem c_X3_tryOne (l : Launch) (E : gE) (x : Nat) (fx : List Value) (t : Nat) (h : Nat) (mi : Int32) (fo : Int32) (wi : Int32) (sp : Int32) (P : Nat) (wa : Int32) (qn : Nat) (qk : Nat) (qp : Nat) (qq : Nat) (qc : Nat) (no : Nat → Int32) (ki : Nat → Int32) (pl : Nat → Int32) (qu : Nat → Int32) (ca : Nat → Int32) (mi3 : Int32) (fo3 : Int32) (wi3 : Int32) (sp3 : Int32) (P3 : Nat) (wa3 : Int32) (qn3 : Nat) (qk3 : Nat) (qp3 : Nat) (qq3 : Nat) (qc3 : Nat) (no3 : Nat → Int32) (ki3 : Nat → Int32) (pl3 : Nat → Int32) (qu3 : Nat → Int32) (ca3 : Nat → Int32) (j : Nat) (k : Int32) (g : Int32) (hx0 : fx[0]? = some (.ref h)) (hx2 : fx[2]? = some (.ref t)) (hj8 : j < 8) : gV l yX3_tryOne wsX3_tryOne ({ frames := 3, cells := 0, slots := 0, locals := 61 }) E [(x, .inr (3, fx)), (h, .inr (2, [.int mi, .int fo, .int wi, .int sp, .ref qn, .int (nI P), .ref qk, .ref qp, .ref qq, .ref qc, .int wa])), (qn, .inl (eI E, 30, .inl no)), (qk, .inl (eI E, 8, .inl ki)), (qp, .inl (eI E, 8, .inl pl)), (qq, .inl (eI E, 8, .inl qu)), (qc, .inl (eI E, 8, .inl ca)), (t, .inr (2, [.int mi3, .int fo3, .int wi3, .int sp3, .ref qn3, .int (nI P3), .ref qk3, .ref qp3, .ref qq3, .ref qc3, .int wa3])), (qn3, .inl (eI E, 30, .inl no3)), (qk3, .inl (eI E, 8, .inl ki3)), (qp3, .inl (eI E, 8, .inl pl3)), (qq3, .inl (eI E, 8, .inl qu3)), (qc3, .inl (eI E, 8, .inl ca3))] (fun _ : Unit => [(x, .inr (3, fx)), (h, .inr (2, [.int mi, .int fo, .int wi, .int sp, .ref qn, .int (nI P), .ref qk, .ref qp, .ref qq, .ref qc, .int wa])), (qn, .inl (eI E, 30, .inl no)), (qk, .inl (eI E, 8, .inl ki)), (qp, .inl (eI E, 8, .inl pl)), (qq, .inl (eI E, 8, .inl qu)), (qc, .inl (eI E, 8, .inl ca)), (t, .inr (2, [.int mi, .int fo, .int wi, .int sp, .ref qn3, .int (nI 1), .ref qk3, .ref qp3, .ref qq3, .ref qc3, .int (bitOf wa j)])), (qn3, .inl (eI E, 30, .inl no)), (qk3, .inl (eI E, 8, .inl (upd ki3 0 k))), (qp3, .inl (eI E, 8, .inl (upd pl3 0 g))), (qq3, .inl (eI E, 8, .inl (upd qu3 0 (qu j)))), (qc3, .inl (eI E, 8, .inl (upd ca3 0 (ca j))))]) [.ref x, .int (nI j), .int k, .int g] (fun (_ : Unit) => True) := by
  have hin2 : ∀ w ∈ wsX20, w ∈ wsX3_tryOne := (fun _ h => (List.mem_cons_of_mem _ (List.mem_append_right _ h)))
  have hin3 : ∀ w ∈ wsX30, w ∈ wsX3_tryOne := (fun _ h => (List.mem_cons_of_mem _ (List.mem_append_left _ (List.mem_append_right _ h))))
  refine gV.of (cc := cX3_tryOne) (maxL := 4) (by decide) rfl (Nat.le_of_ble_eq_true rfl) ?_
  intro pG eG sG mG below meth cG A ls H locs F hr hlk hX hP hD hA hS hl
  have hl : lv_has ls 4 [(0, .ref x), (1, .int (nI j)), (2, .int k), (3, .int g)] := hl
  refine lv_aload_n F.1 F.2.1 dX3_tryOne_0 rfl (lv_at hl 0 rfl) ?_
  refine g_get F hX hP hin3 0 rfl rfl 2 (by decide) (mm 1 rfl) hx2 dX3_tryOne_1 ?_
  refine lv_aload_n F.1 F.2.1 dX3_tryOne_4 rfl (lv_at hl 0 rfl) ?_
  refine g_get F hX hP hin3 0 rfl rfl 0 (by decide) (mm 2 rfl) hx0 dX3_tryOne_5 ?_
  refine lv_iload_n F.1 F.2.1 dX3_tryOne_8 rfl (lv_at hl 1 rfl) ?_
  refine g_goV (wr := [(x, .inr (3, fx))]) (g_runV (As := [.ref h, .int (nI j)]) (rest := []) F hX hP hD hS hA (c_X2_becomeWithOne l E t mi3 fo3 wi3 sp3 P3 wa3 qn3 qk3 qp3 qq3 qc3 h mi fo wi sp P wa qn qk qp qq qc no3 ki3 pl3 qu3 ca3 no ki pl qu ca j (by first | assumption | omega) H.size) (cwV 2 F.2.2.2.2 gX3_tryOne_X2_becomeWithOne rfl rfl rfl (by decide +kernel) ⟨Nat.le_of_ble_eq_true rfl, Nat.le_of_ble_eq_true rfl⟩) [7, 8, 9, 10, 11, 12, 1, 2, 3, 4, 5, 6] rfl rfl (q0 := 7) (ci := 2) rfl rfl rfl hl.1 rfl (Nat.le_of_ble_eq_true rfl) dX3_tryOne_9 ⟨Nat.le_refl _, Nat.le_refl _⟩) hP hD hS hA [7, 8, 9, 10, 11, 12, 1, 2, 3, 4, 5, 6] [0] rfl rfl rfl (by decide) (fun _ H locs hq hP hD hS => ?_)
  have hP : va_P (eD E) vwCl [(x, .inr (3, fx)), (h, .inr (2, [.int mi, .int fo, .int wi, .int sp, .ref qn, .int (nI P), .ref qk, .ref qp, .ref qq, .ref qc, .int wa])), (qn, .inl (eI E, 30, .inl no)), (qk, .inl (eI E, 8, .inl ki)), (qp, .inl (eI E, 8, .inl pl)), (qq, .inl (eI E, 8, .inl qu)), (qc, .inl (eI E, 8, .inl ca)), (t, .inr (2, [.int mi, .int fo, .int wi, .int sp, .ref qn3, .int (nI 1), .ref qk3, .ref qp3, .ref qq3, .ref qc3, .int (bitOf wa j)])), (qn3, .inl (eI E, 30, .inl no)), (qk3, .inl (eI E, 8, .inl (upd ki3 0 (ki j)))), (qp3, .inl (eI E, 8, .inl (upd pl3 0 (pl j)))), (qq3, .inl (eI E, 8, .inl (upd qu3 0 (qu j)))), (qc3, .inl (eI E, 8, .inl (upd ca3 0 (ca j))))] H := hP.sub [0, 7, 8, 9, 10, 11, 12, 1, 2, 3, 4, 5, 6] rfl
  have hD : va_D A [(x, .inr (3, fx)), (h, .inr (2, [.int mi, .int fo, .int wi, .int sp, .ref qn, .int (nI P), .ref qk, .ref qp, .ref qq, .ref qc, .int wa])), (qn, .inl (eI E, 30, .inl no)), (qk, .inl (eI E, 8, .inl ki)), (qp, .inl (eI E, 8, .inl pl)), (qq, .inl (eI E, 8, .inl qu)), (qc, .inl (eI E, 8, .inl ca)), (t, .inr (2, [.int mi, .int fo, .int wi, .int sp, .ref qn3, .int (nI 1), .ref qk3, .ref qp3, .ref qq3, .ref qc3, .int (bitOf wa j)])), (qn3, .inl (eI E, 30, .inl no)), (qk3, .inl (eI E, 8, .inl (upd ki3 0 (ki j)))), (qp3, .inl (eI E, 8, .inl (upd pl3 0 (pl j)))), (qq3, .inl (eI E, 8, .inl (upd qu3 0 (qu j)))), (qc3, .inl (eI E, 8, .inl (upd ca3 0 (ca j))))] := hD.sub [0, 7, 8, 9, 10, 11, 12, 1, 2, 3, 4, 5, 6] (by decide) rfl
  refine lv_aload_n F.1 F.2.1 dX3_tryOne_12 rfl (lv_at hl 0 rfl) ?_
  refine g_get F hX hP hin3 0 rfl rfl 2 (by decide) (mm 1 rfl) hx2 dX3_tryOne_13 ?_
  refine g_get F hX hP hin2 7 rfl rfl 6 (by decide) (mm 3 rfl) rfl dX3_tryOne_16 ?_
  refine lv_iconst (v := 0) F.1 F.2.1 dX3_tryOne_19 (by decide) ?_
  refine lv_iload_n F.1 F.2.1 dX3_tryOne_20 rfl (lv_at hl 2 rfl) ?_
  refine g_iast F hX hP hD hS 9 rfl (j := 0) (rfl) (by decide) (by decide) dX3_tryOne_21 (fun H locs hP hD hS => ?_)
  have hP : va_P (eD E) vwCl [(x, .inr (3, fx)), (h, .inr (2, [.int mi, .int fo, .int wi, .int sp, .ref qn, .int (nI P), .ref qk, .ref qp, .ref qq, .ref qc, .int wa])), (qn, .inl (eI E, 30, .inl no)), (qk, .inl (eI E, 8, .inl ki)), (qp, .inl (eI E, 8, .inl pl)), (qq, .inl (eI E, 8, .inl qu)), (qc, .inl (eI E, 8, .inl ca)), (t, .inr (2, [.int mi, .int fo, .int wi, .int sp, .ref qn3, .int (nI 1), .ref qk3, .ref qp3, .ref qq3, .ref qc3, .int (bitOf wa j)])), (qn3, .inl (eI E, 30, .inl no)), (qk3, .inl (eI E, 8, .inl (upd (upd ki3 0 (ki j)) 0 k))), (qp3, .inl (eI E, 8, .inl (upd pl3 0 (pl j)))), (qq3, .inl (eI E, 8, .inl (upd qu3 0 (qu j)))), (qc3, .inl (eI E, 8, .inl (upd ca3 0 (ca j))))] H := hP
  have hD : va_D A [(x, .inr (3, fx)), (h, .inr (2, [.int mi, .int fo, .int wi, .int sp, .ref qn, .int (nI P), .ref qk, .ref qp, .ref qq, .ref qc, .int wa])), (qn, .inl (eI E, 30, .inl no)), (qk, .inl (eI E, 8, .inl ki)), (qp, .inl (eI E, 8, .inl pl)), (qq, .inl (eI E, 8, .inl qu)), (qc, .inl (eI E, 8, .inl ca)), (t, .inr (2, [.int mi, .int fo, .int wi, .int sp, .ref qn3, .int (nI 1), .ref qk3, .ref qp3, .ref qq3, .ref qc3, .int (bitOf wa j)])), (qn3, .inl (eI E, 30, .inl no)), (qk3, .inl (eI E, 8, .inl (upd (upd ki3 0 (ki j)) 0 k))), (qp3, .inl (eI E, 8, .inl (upd pl3 0 (pl j)))), (qq3, .inl (eI E, 8, .inl (upd qu3 0 (qu j)))), (qc3, .inl (eI E, 8, .inl (upd ca3 0 (ca j))))] := hD
  have ecell : (upd (upd ki3 0 (ki j)) 0 k) = upd ki3 0 k := upd2 _ _ _ _
  rw [ecell] at hP hD
  clear ecell
  refine lv_aload_n F.1 F.2.1 dX3_tryOne_22 rfl (lv_at hl 0 rfl) ?_
  refine g_get F hX hP hin3 0 rfl rfl 2 (by decide) (mm 1 rfl) hx2 dX3_tryOne_23 ?_
  refine g_get F hX hP hin2 7 rfl rfl 7 (by decide) (mm 4 rfl) rfl dX3_tryOne_26 ?_
  refine lv_iconst (v := 0) F.1 F.2.1 dX3_tryOne_29 (by decide) ?_
  refine lv_iload_n F.1 F.2.1 dX3_tryOne_30 rfl (lv_at hl 3 rfl) ?_
  refine g_iast F hX hP hD hS 10 rfl (j := 0) (rfl) (by decide) (by decide) dX3_tryOne_31 (fun H locs hP hD hS => ?_)
  have hP : va_P (eD E) vwCl [(x, .inr (3, fx)), (h, .inr (2, [.int mi, .int fo, .int wi, .int sp, .ref qn, .int (nI P), .ref qk, .ref qp, .ref qq, .ref qc, .int wa])), (qn, .inl (eI E, 30, .inl no)), (qk, .inl (eI E, 8, .inl ki)), (qp, .inl (eI E, 8, .inl pl)), (qq, .inl (eI E, 8, .inl qu)), (qc, .inl (eI E, 8, .inl ca)), (t, .inr (2, [.int mi, .int fo, .int wi, .int sp, .ref qn3, .int (nI 1), .ref qk3, .ref qp3, .ref qq3, .ref qc3, .int (bitOf wa j)])), (qn3, .inl (eI E, 30, .inl no)), (qk3, .inl (eI E, 8, .inl (upd ki3 0 k))), (qp3, .inl (eI E, 8, .inl (upd (upd pl3 0 (pl j)) 0 g))), (qq3, .inl (eI E, 8, .inl (upd qu3 0 (qu j)))), (qc3, .inl (eI E, 8, .inl (upd ca3 0 (ca j))))] H := hP
  have hD : va_D A [(x, .inr (3, fx)), (h, .inr (2, [.int mi, .int fo, .int wi, .int sp, .ref qn, .int (nI P), .ref qk, .ref qp, .ref qq, .ref qc, .int wa])), (qn, .inl (eI E, 30, .inl no)), (qk, .inl (eI E, 8, .inl ki)), (qp, .inl (eI E, 8, .inl pl)), (qq, .inl (eI E, 8, .inl qu)), (qc, .inl (eI E, 8, .inl ca)), (t, .inr (2, [.int mi, .int fo, .int wi, .int sp, .ref qn3, .int (nI 1), .ref qk3, .ref qp3, .ref qq3, .ref qc3, .int (bitOf wa j)])), (qn3, .inl (eI E, 30, .inl no)), (qk3, .inl (eI E, 8, .inl (upd ki3 0 k))), (qp3, .inl (eI E, 8, .inl (upd (upd pl3 0 (pl j)) 0 g))), (qq3, .inl (eI E, 8, .inl (upd qu3 0 (qu j)))), (qc3, .inl (eI E, 8, .inl (upd ca3 0 (ca j))))] := hD
  have ecell : (upd (upd pl3 0 (pl j)) 0 g) = upd pl3 0 g := upd2 _ _ _ _
  rw [ecell] at hP hD
  clear ecell
  exact g_retv F hr hlk hS hP hD (()) (rfl) (trivial) dX3_tryOne_32
