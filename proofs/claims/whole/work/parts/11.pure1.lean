/-! bits (a family out of kit/laws/BITS.to-paste), and what one person does -/
def bt (x : Int32) (i : Nat) : Bool := x.toBitVec.getLsbD i
theorem b_ext {x y : Int32} (h : ∀ i, i < 32 → bt x i = bt y i) : x = y := Int32.toBitVec_inj.mp (BitVec.eq_of_getLsbD_eq (fun i hi => h i hi))
theorem b_or (x y : Int32) (i : Nat) : bt (x ||| y) i = (bt x i || bt y i) := by unfold bt; rw [Int32.toBitVec_or, BitVec.getLsbD_or]
theorem b_and (x y : Int32) (i : Nat) : bt (x &&& y) i = (bt x i && bt y i) := by unfold bt; rw [Int32.toBitVec_and, BitVec.getLsbD_and]
theorem b_xor (x y : Int32) (i : Nat) : bt (x ^^^ y) i = (bt x i ^^ bt y i) := by unfold bt; rw [Int32.toBitVec_xor, BitVec.getLsbD_xor]
theorem b_big {x : Int32} {i : Nat} (h : 32 ≤ i) : bt x i = false := BitVec.getLsbD_of_ge _ _ h
theorem b_m1 : ∀ i, i < 32 → bt (-1) i = true := by decide +kernel
theorem b_0 (i : Nat) : bt 0 i = false := BitVec.getLsbD_zero
theorem s_l : ∀ n, n < 32 → ((nI n &&& 31).toBitVec.smod 32).toNat = n := by decide +kernel
theorem b_shl (n : Nat) (hn : n < 32) (x : Int32) {i : Nat} (hi : i < 32) : bt (x <<< (nI n &&& 31)) i = (decide (n ≤ i) && bt x (i - n)) := by
  unfold bt
  rw [Int32.toBitVec_shiftLeft]
  show (x.toBitVec <<< ((nI n &&& 31).toBitVec.smod 32).toNat).getLsbD i = _
  rw [s_l n hn, BitVec.getLsbD_shiftLeft]
  rcases Nat.lt_or_ge i n with h | h
  · simp [h, Nat.not_le.mpr h]
  · simp [hi, h, Nat.not_lt.mpr h]
theorem b_sshr (n : Nat) (hn : n < 32) (x : Int32) {i : Nat} (hi : i < 32) : bt (x >>> (nI n &&& 31)) i = if n + i < 32 then bt x (n + i) else bt x 31 := by
  unfold bt
  rw [Int32.toBitVec_shiftRight]
  show (x.toBitVec.sshiftRight ((nI n &&& 31).toBitVec.smod 32).toNat).getLsbD i = _
  rw [s_l n hn, BitVec.getLsbD_sshiftRight, BitVec.msb_eq_getLsbD_last]
  simp [hi]
theorem b_1 : ∀ i, i < 32 → bt 1 i = decide (i = 0) := by decide +kernel
theorem bitOf_bt (x : Int32) {j : Nat} (hj : j < 32) : bitOf x j = bi (bt x j) := by
  refine b_ext (fun i hi => ?_)
  unfold bitOf
  rw [b_and, b_sshr j hj x hi, b_1 i hi]
  by_cases h : i = 0
  · subst h
    rw [if_pos (by omega), decide_eq_true rfl, Bool.and_true, Nat.add_zero]
    cases bt x j <;> rfl
  · rw [decide_eq_false h, Bool.and_false]
    cases bt x j
    · exact (b_0 i).symm
    · show false = bt 1 i
      rw [b_1 i hi, decide_eq_false h]
theorem bt_who (f : Nat → Bool) : ∀ n, n ≤ 31 → ∀ i, i < 32 → bt (whoC f n) i = (decide (i < n) && f i)
  | 0, _, i, _ => by
    show bt 0 i = _
    rw [b_0, decide_eq_false (Nat.not_lt_zero i), Bool.false_and]
  | n + 1, hn, i, hi => by
    show bt (whoC f n ||| (bif f n then 1 <<< (nI n &&& 31) else 0)) i = _
    rw [b_or, bt_who f n (by omega) i hi]
    by_cases e : i = n
    · subst e
      rw [decide_eq_false (Nat.lt_irrefl i), Bool.false_and, Bool.false_or, decide_eq_true (Nat.lt_succ_self i), Bool.true_and]
      cases h : f i
      · exact b_0 i
      · show bt (1 <<< (nI i &&& 31)) i = true
        rw [b_shl i (by omega) 1 hi, Nat.sub_self, b_1 0 (by decide), decide_eq_true (Nat.le_refl i)]
        rfl
    · have e2 : decide (i < n + 1) = decide (i < n) := by
        by_cases q : i < n
        · rw [decide_eq_true q, decide_eq_true (by omega)]
        · rw [decide_eq_false q, decide_eq_false (by omega)]
      rw [e2]
      cases f n
      · show (_ || bt 0 i) = _
        rw [b_0, Bool.or_false]
      · show (_ || bt (1 <<< (nI n &&& 31)) i) = _
        rw [b_shl n (by omega) 1 hi]
        by_cases q : n ≤ i
        · rw [b_1 (i - n) (by omega), decide_eq_false (show ¬ i - n = 0 by omega), Bool.and_false, Bool.or_false]
        · rw [decide_eq_false q, Bool.false_and, Bool.or_false]
theorem bit_who (f : Nat → Bool) {n j : Nat} (hn : n ≤ 31) (hj : j < n) : bitOf (whoC f n) j = bi (f j) := by
  rw [bitOf_bt _ (by omega), bt_who f n hn j (by omega), decide_eq_true hj, Bool.true_and]
theorem bit_clr (x : Int32) {n j : Nat} (hn : n < 32) (hj : j < 32) : bitOf (x &&& ((1 <<< (nI n &&& 31)) ^^^ (-1))) j = if j = n then 0 else bitOf x j := by
  rw [bitOf_bt _ hj, b_and, b_xor, b_m1 j hj, b_shl n hn 1 hj]
  by_cases e : j = n
  · subst e
    rw [if_pos rfl, Nat.sub_self, b_1 0 (by decide), decide_eq_true (Nat.le_refl j)]
    cases bt x j <;> rfl
  · rw [if_neg e, bitOf_bt _ hj]
    by_cases q : n ≤ j
    · rw [b_1 (j - n) (by omega), decide_eq_false (show ¬ j - n = 0 by omega), Bool.and_false]
      cases bt x j <;> rfl
    · rw [decide_eq_false q, Bool.false_and]
      cases bt x j <;> rfl
/-- one person: minute, whether it was in it, place, quiet, caught -/
abbrev PV : Type := Int32 × Int32 × Int32 × Int32 × Int32
def st1 (fo wi sp k : Int32) (t : PV) : PV :=
  (t.1 + 1, bi (tk (edC t.1 fo wi sp) wi t.2.2.1), iMax 0 (iMin 29 (t.2.2.1 + gqC t.1 wi sp k t.2.2.1 (edC t.1 fo wi sp))),
   (bif tk (edC t.1 fo wi sp) wi t.2.2.1 then iMin 9999 (t.2.2.2.1 + 1) else t.2.2.2.1),
   (bif tk (edC t.1 fo wi sp) wi t.2.2.1 then (bif decide (t.2.1 = 0) && !soC k t.2.2.2.2 then iMin 9999 (t.2.2.2.2 + 1) else t.2.2.2.2) else t.2.2.2.2))
def it1 (fo wi sp k : Int32) : Nat → PV → PV
  | 0, t => t
  | n + 1, t => st1 fo wi sp k (it1 fo wi sp k n t)
def at1 (t : TV) (j : Nat) : PV := (t.1, bitOf t.2.1 j, t.2.2.1 j, t.2.2.2.1 j, t.2.2.2.2 j)
theorem stT_at (fo wi sp : Int32) {P : Nat} (ki : Nat → Int32) (t : TV) {j : Nat} (hP : P ≤ 31) (hj : j < P) : at1 (stT fo wi sp P ki t) j = st1 fo wi sp (ki j) (at1 t j) := by
  have hb : bitOf (inC fo wi sp P t) j = bi (tk (edC t.1 fo wi sp) wi (t.2.2.1 j)) := bit_who _ hP hj
  unfold at1 stT st1
  simp only [mix, if_pos hj, nP, nQ, nC, hb, ctc]
  cases tk (edC t.1 fo wi sp) wi (t.2.2.1 j) <;> rfl
theorem itT_at (fo wi sp : Int32) {P : Nat} (ki : Nat → Int32) {j : Nat} (hP : P ≤ 31) (hj : j < P) : ∀ (n : Nat) (t : TV), at1 (itT fo wi sp P ki n t) j = it1 fo wi sp (ki j) n (at1 t j)
  | 0, _ => rfl
  | n + 1, t => by
    show at1 (stT fo wi sp P ki (itT fo wi sp P ki n t)) j = st1 fo wi sp (ki j) (it1 fo wi sp (ki j) n (at1 t j))
    rw [stT_at fo wi sp ki _ hP hj, itT_at fo wi sp ki hP hj n t]
def miN (x : Int32) : Nat → Int32
  | 0 => x
  | n + 1 => miN x n + 1
theorem itT_mi (fo wi sp : Int32) (P : Nat) (ki : Nat → Int32) : ∀ (n : Nat) (t : TV), (itT fo wi sp P ki n t).1 = miN t.1 n
  | 0, _ => rfl
  | n + 1, t => by
    show (itT fo wi sp P ki n t).1 + 1 = miN t.1 n + 1
    rw [itT_mi fo wi sp P ki n t]
theorem bi_bit (b : Bool) : bitOf (bi b) 0 = bi b := by cases b <;> decide
theorem bitOf_bit (x : Int32) {j : Nat} (hj : j < 32) : bitOf (bitOf x j) 0 = bitOf x j := by
  rw [bitOf_bt x hj, bi_bit]
/-- one alone -/
theorem itT_one (fo wi sp mi wa k p q c : Int32) (ki pl qu ca : Nat → Int32) {j : Nat} (hj : j < 32) (n : Nat) :
    at1 (itT fo wi sp 1 (upd ki 0 k) n (mi, bitOf wa j, upd pl 0 p, upd qu 0 q, upd ca 0 c)) 0 = it1 fo wi sp k n (mi, bitOf wa j, p, q, c) := by
  rw [itT_at fo wi sp _ (by decide) (by decide)]
  show it1 fo wi sp k n (mi, bitOf (bitOf wa j) 0, p, q, c) = _
  rw [bitOf_bit wa hj]
theorem upd2 (f : Nat → Int32) (i : Nat) (x y : Int32) : upd (upd f i x) i y = upd f i y := funext fun j => by
  unfold upd
  split <;> rfl
theorem upd_at (f : Nat → Int32) (i : Nat) (x : Int32) : upd f i x i = x := if_pos rfl
