section REL3
variable {mi fo wi sp wa : Int32} {B P : Nat} {no ki pl qu ca m fd : Nat → Int32}
theorem bst_congr {f g lab lab2 : Nat → Int32} {ini : Int32 × Int32} : ∀ n, (∀ i, i < n → f i = g i ∧ lab i = lab2 i) → bst f lab ini n = bst g lab2 ini n
  | 0, _ => rfl
  | n + 1, h => by
    show (if f n ≤ (bst f lab ini n).2 then bst f lab ini n else (lab n, f n)) = (if g n ≤ (bst g lab2 ini n).2 then bst g lab2 ini n else (lab2 n, g n))
    rw [bst_congr n (fun i hi => h i (by omega)), (h n (by omega)).1, (h n (by omega)).2]
theorem rel_where (h : Rel 99999 mi fo wi sp P wa no ki pl qu ca m) (a1 a2 : Int32) : cn_where mi fo wi sp P wa no ki pl qu ca fd a1 a2 = mn_where P m fd a1 a2 := by
  unfold cn_where mn_where
  by_cases c : inR a1 0 (nI P - 1) = true ∧ inR a2 1 200 = true
  · rw [if_pos c, if_pos c]
    obtain ⟨hx, hj⟩ := ix_person c.1 h.2.1
    obtain ⟨hy, hn⟩ := ix_of 200 c.2 (by decide) (by decide)
    have e : bst (fun n => (it1 fo wi sp (ki (ix a1)) (ix a2) (mi, bitOf wa (ix a1), nI n, qu (ix a1), ca (ix a1))).2.2.2.1) (fun n => nI n) (0, -1) 30 = bst (fun n => pf (itM P (upd m (35 + 5 * ix a1 + 1) (nI (0 + n))) (ix a2)) (ix a1) 2) (fun n => nI (0 + n)) (0, -1) 30 := bst_congr 30 (fun i hi => by
      have hv : (nI i).toInt = i := nI_toInt (by omega)
      have hr := (h.pl1 hj (v := nI i) (by omega) (by omega)).it1 (n := ix a2) hj (by omega)
      rw [upd_at] at hr
      refine ⟨?_, by rw [Nat.zero_add]⟩
      show (it1 fo wi sp (ki (ix a1)) (ix a2) (mi, bitOf wa (ix a1), nI i, qu (ix a1), ca (ix a1))).2.2.2.1 = pf (itM P (pu m (ix a1) 1 (nI (0 + i))) (ix a2)) (ix a1) 2
      rw [Nat.zero_add, ← hr]; rfl)
    exact congrArg (fun q : Int32 × Int32 => (q.1, fd)) e
  · rw [if_neg c, if_neg c]
theorem rel_kind (h : Rel 99999 mi fo wi sp P wa no ki pl qu ca m) (a1 a2 : Int32) : cn_kind mi fo wi sp P wa no ki pl qu ca fd a1 a2 = mn_kind P m fd a1 a2 := by
  unfold cn_kind mn_kind
  by_cases c : inR a1 0 (nI P - 1) = true ∧ inR a2 1 200 = true
  · rw [if_pos c, if_pos c]
    obtain ⟨hx, hj⟩ := ix_person c.1 h.2.1
    obtain ⟨hy, hn⟩ := ix_of 200 c.2 (by decide) (by decide)
    have e : bst (fun n => (it1 fo wi sp (nI n) (ix a2) (mi, bitOf wa (ix a1), pl (ix a1), qu (ix a1), ca (ix a1))).2.2.2.1) (fun n => nI n) (0, -1) 6 = bst (fun n => pf (itM P (upd m (35 + 5 * ix a1) (nI (0 + n))) (ix a2)) (ix a1) 2) (fun n => nI (0 + n)) (0, -1) 6 := bst_congr 6 (fun i hi => by
      have hr := (h.kind1 hj (nI i)).it1 (n := ix a2) hj (by omega)
      rw [upd_at] at hr
      refine ⟨?_, by rw [Nat.zero_add]⟩
      show (it1 fo wi sp (nI i) (ix a2) (mi, bitOf wa (ix a1), pl (ix a1), qu (ix a1), ca (ix a1))).2.2.2.1 = pf (itM P (pu m (ix a1) 0 (nI (0 + i))) (ix a2)) (ix a1) 2
      rw [Nat.zero_add, ← hr]; rfl)
    exact congrArg (fun q : Int32 × Int32 => (q.1, fd)) e
  · rw [if_neg c, if_neg c]
theorem wdv_int {n : Nat} (h : n < 11) : 0 ≤ (wdv n).toInt ∧ (wdv n).toInt ≤ 10 := by
  have e : (wdv n).toInt = (10 : Int) - n := pk_sub_toInt (a := 10) (by decide) (by omega)
  omega
theorem rel_wide (h : Rel 99999 mi fo wi sp P wa no ki pl qu ca m) (a1 : Int32) : cn_wide mi fo wi sp P wa no ki pl qu ca fd a1 = mn_wide P m fd a1 := by
  unfold cn_wide mn_wide
  by_cases c : inR a1 1 100 = true
  · rw [if_pos c, if_pos c]
    obtain ⟨hy, hn⟩ := ix_of 100 c (by decide) (by decide)
    rw [fs1_congr (p := fun n => !decide (sumF 0 ca P < sumF 0 (itT fo (wdv n) sp P ki (ix a1) (mi, wa, pl, qu, ca)).2.2.2.2 P)) (q := fun n => !decide (sumF 0 (fun j => pf m j 3) P < (fun n => sumF 0 (fun j => pf (itM P (upd m 2 (wdv n)) (ix a1)) j 3) P) n)) 11 0 (fun k _ hk => by
      have hw := wdv_int (n := k) (by omega)
      have hg := (h.wide hw.1 hw.2).go (n := ix a1) (by omega)
      show (!decide (sumF 0 ca P < sumF 0 (itT fo (wdv k) sp P ki (ix a1) (mi, wa, pl, qu, ca)).2.2.2.2 P)) = !decide (sumF 0 (fun j => pf m j 3) P < sumF 0 (fun j => pf (itM P (upd m 2 (wdv k)) (ix a1)) j 3) P)
      rw [sumF_congr (g := fun j => pf m j 3) (fun j hj => (h.at hj).2.2.2.1.symm), sumF_congr (g := fun j => pf (itM P (upd m 2 (wdv k)) (ix a1)) j 3) (fun j hj => (hg.at hj).2.2.2.1.symm)])]
    generalize fs1 (fun n => !decide (sumF 0 (fun j => pf m j 3) P < (fun n => sumF 0 (fun j => pf (itM P (upd m 2 (wdv n)) (ix a1)) j 3) P) n)) 11 0 = o
    cases o <;> rfl
  · rw [if_neg c, if_neg c]
theorem rel_pace (h : Rel 99999 mi fo wi sp P wa no ki pl qu ca m) (a1 : Int32) : cn_pace mi fo wi sp P wa no ki pl qu ca fd a1 = mn_pace P m fd a1 := by
  unfold cn_pace mn_pace
  by_cases c : inR a1 1 100 = true
  · rw [if_pos c, if_pos c]
    obtain ⟨hy, hn⟩ := ix_of 100 c (by decide) (by decide)
    have e : bst (fun n => sumF 0 (itT fo wi (nI (n + 1)) P ki (ix a1) (mi, wa, pl, qu, ca)).2.2.2.1 P) (fun n => nI (n + 1)) (1, -1) 5 = bst (fun n => sumF 0 (fun j => pf (itM P (upd m 3 (nI (1 + n))) (ix a1)) j 2) P) (fun n => nI (1 + n)) (1, -1) 5 := bst_congr 5 (fun i hi => by
      have hv : (nI (i + 1)).toInt = (i + 1 : Nat) := nI_toInt (by omega)
      have hg := (h.pace (v := nI (i + 1)) (by omega) (by omega)).go (n := ix a1) (by omega)
      refine ⟨?_, by rw [Nat.add_comm]⟩
      show sumF 0 (itT fo wi (nI (i + 1)) P ki (ix a1) (mi, wa, pl, qu, ca)).2.2.2.1 P = sumF 0 (fun j => pf (itM P (upd m 3 (nI (1 + i))) (ix a1)) j 2) P
      rw [Nat.add_comm 1 i]
      exact sumF_congr (fun j hj => (hg.at hj).2.2.1.symm))
    exact congrArg (fun q : Int32 × Int32 => (q.1, fd)) e
  · rw [if_neg c, if_neg c]
theorem bsn_congr {f g : Nat → Int32} : ∀ n, (∀ i, i < n → f i = g i) → bsn f n = bsn g n
  | 0, _ => rfl
  | n + 1, h => by
    show (bif (decide ((bsn f n).1 < 0) || !decide ((bsn f n).2 ≤ f n)) then (nI n, f n) else bsn f n) = (bif (decide ((bsn g n).1 < 0) || !decide ((bsn g n).2 ≤ g n)) then (nI n, g n) else bsn g n)
    rw [bsn_congr n (fun i hi => h i (by omega)), h n (by omega)]
theorem bsn_nn {f : Nat → Int32} : ∀ n, n < 1000 → ¬ (bsn f (n + 1)).1 < 0
  | 0, _ => by
    show ¬ (bif (decide ((-1 : Int32) < 0) || !decide ((0 : Int32) ≤ f 0)) then (nI 0, f 0) else (-1, 0)).1 < 0
    rw [decide_eq_true (show (-1 : Int32) < 0 by decide), Bool.true_or, cond_true]
    exact nI_pos (by decide)
  | n + 1, h => by
    show ¬ (bif (decide ((bsn f (n + 1)).1 < 0) || !decide ((bsn f (n + 1)).2 ≤ f (n + 1))) then (nI (n + 1), f (n + 1)) else bsn f (n + 1)).1 < 0
    cases (decide ((bsn f (n + 1)).1 < 0) || !decide ((bsn f (n + 1)).2 ≤ f (n + 1)))
    · exact bsn_nn n (by omega)
    · exact nI_pos (by omega)
theorem bsn_1 (f : Nat → Int32) : bsn f 1 = (nI 0, f 0) := by
  show (bif (decide ((-1 : Int32) < 0) || !decide ((0 : Int32) ≤ f 0)) then (nI 0, f 0) else (-1, 0)) = _
  rw [decide_eq_true (show (-1 : Int32) < 0 by decide), Bool.true_or, cond_true]
theorem bsn_2 {f : Nat → Int32} {n : Nat} (h : n < 1000) : bsn f (n + 2) = if (bsn f (n + 1)).2 ≤ f (n + 1) then bsn f (n + 1) else (nI (n + 1), f (n + 1)) := by
  show (bif (decide ((bsn f (n + 1)).1 < 0) || !decide ((bsn f (n + 1)).2 ≤ f (n + 1))) then (nI (n + 1), f (n + 1)) else bsn f (n + 1)) = _
  rw [decide_eq_false (bsn_nn n h), Bool.false_or]
  by_cases c : (bsn f (n + 1)).2 ≤ f (n + 1)
  · rw [if_pos c, decide_eq_true c, Bool.not_true, cond_false]
  · rw [if_neg c, decide_eq_false c, Bool.not_false, cond_true]
theorem bsm_bsn {f : Nat → Int32} : ∀ n, n < 1000 → ¬ 2147483647 ≤ f 0 → bsm f (fun n => nI n) (0, 2147483647) (n + 1) = bsn f (n + 1)
  | 0, _, h => by
    rw [bsn_1]
    exact bsm_no h
  | n + 1, hn, h => by
    rw [bsn_2 (by omega), ← bsm_bsn n (by omega) h]
    rfl
theorem sumF_b {f : Nat → Int32} {c : Nat} (hc : c ≤ 1000) {b : Int32} (hb0 : 0 ≤ b.toInt) (hb1 : b.toInt ≤ 100000) : ∀ n : Nat, n ≤ 100 → (∀ i, i < n → 0 ≤ (f i).toInt ∧ (f i).toInt ≤ c) → b.toInt ≤ (sumF b f n).toInt ∧ (sumF b f n).toInt ≤ b.toInt + ((n * c : Nat) : Int)
  | 0, _, _ => by
    show b.toInt ≤ b.toInt ∧ b.toInt ≤ b.toInt + ((0 * c : Nat) : Int)
    rw [Nat.zero_mul]; omega
  | n + 1, hn, h => by
    have ih := sumF_b (f := f) hc hb0 hb1 n (by omega) (fun i hi => h i (by omega))
    have hf := h n (by omega)
    have hm : n * c ≤ 100 * 1000 := Nat.mul_le_mul (by omega) hc
    show b.toInt ≤ (sumF b f n + f n).toInt ∧ (sumF b f n + f n).toInt ≤ b.toInt + (((n + 1) * c : Nat) : Int)
    rw [Nat.succ_mul, add_int (by omega) (by omega) (by omega) (by omega)]
    omega
theorem ta_b (mi wi ki pl ed : Int32) : 0 ≤ (taC mi wi ki pl ed).toInt ∧ (taC mi wi ki pl ed).toInt ≤ 6 := by
  unfold taC
  generalize rg mi ki = r
  cases tk ed wi pl <;> cases r <;> simp only [cond_true, cond_false] <;> (repeat' split) <;> decide
theorem ld_b {mi fo wi sp : Int32} {P : Nat} {no ki pl : Nat → Int32} (hP : P ≤ 8) (hn : ∀ g, g < 30 → 0 ≤ (no g).toInt ∧ (no g).toInt ≤ 20) : 0 ≤ (ldC mi fo wi sp P no ki pl).toInt ∧ (ldC mi fo wi sp P no ki pl).toInt ≤ 700 := by
  unfold ldC
  have h1 := sumF_b (f := fun g => bif tk (edC mi fo wi sp) wi (nI g) then 0 else no g) (c := 20) (b := 0) (by decide) (by decide) (by decide) 30 (by decide) (fun i hi => by
    show 0 ≤ (bif tk (edC mi fo wi sp) wi (nI i) then 0 else no i).toInt ∧ (bif tk (edC mi fo wi sp) wi (nI i) then 0 else no i).toInt ≤ ((20 : Nat) : Int)
    cases tk (edC mi fo wi sp) wi (nI i)
    · exact hn i hi
    · exact ⟨show 0 ≤ (0 : Int32).toInt by decide, show (0 : Int32).toInt ≤ ((20 : Nat) : Int) by decide⟩)
  have z : (0 : Int32).toInt = 0 := by decide
  rw [z] at h1
  have h2 := sumF_b (f := fun j => taC mi wi (ki j) (pl j) (edC mi fo wi sp)) (c := 6) (b := sumF 0 (fun g => bif tk (edC mi fo wi sp) wi (nI g) then 0 else no g) 30) (by decide) (by omega) (by omega) P (by omega) (fun i _ => ta_b _ _ _ _ _)
  omega
theorem Rel.no_b (h : Rel B mi fo wi sp P wa no ki pl qu ca m) : ∀ g, g < 30 → 0 ≤ (no g).toInt ∧ (no g).toInt ≤ 20 := fun g hg => (h.2.2.2.2.1 g hg).2
theorem rel_four (h : Rel 99999 mi fo wi sp P wa no ki pl qu ca m) (a1 : Int32) : cn_four mi fo wi sp P wa no ki pl qu ca fd a1 = mn_four P m fd a1 := by
  unfold cn_four mn_four
  by_cases c : inR a1 0 100 = true
  · rw [if_pos c, if_pos c]
    obtain ⟨hy, hn⟩ := ix_of 100 c (by decide) (by decide)
    rw [bsm_bsn (f := fun n => ldC (itT (nI n) wi sp P ki (ix a1) (mi, wa, pl, qu, ca)).1 (nI n) wi sp P no ki (itT (nI n) wi sp P ki (ix a1) (mi, wa, pl, qu, ca)).2.2.1) 99 (by decide) (fun q => by
      have hb := ld_b (mi := (itT (nI 0) wi sp P ki (ix a1) (mi, wa, pl, qu, ca)).1) (fo := nI 0) (wi := wi) (sp := sp) (ki := ki) (pl := (itT (nI 0) wi sp P ki (ix a1) (mi, wa, pl, qu, ca)).2.2.1) h.2.1 h.no_b
      rw [i32_le] at q
      have e : (2147483647 : Int32).toInt = 2147483647 := by decide
      rw [e] at q
      omega)]
    have e : bsn (fun n => ldC (itT (nI n) wi sp P ki (ix a1) (mi, wa, pl, qu, ca)).1 (nI n) wi sp P no ki (itT (nI n) wi sp P ki (ix a1) (mi, wa, pl, qu, ca)).2.2.1) (99 + 1) = bsn (fun n => hdM (itM P (upd m 1 (nI n)) (ix a1)) P) (99 + 1) := bsn_congr 100 (fun i hi => by
      have hv : (nI i).toInt = i := nI_toInt (by omega)
      exact ((h.four (v := nI i) (by omega) (by omega)).go (n := ix a1) (by omega)).loud)
    exact congrArg (fun q : Int32 × Int32 => (q.1, fd)) e
  · rw [if_neg c, if_neg c]
theorem sumF_base (f : Nat → Int32) (b d : Int32) : ∀ n, sumF (b - d) f n = sumF b f n - d
  | 0 => rfl
  | n + 1 => by
    show sumF (b - d) f n + f n = sumF b f n + f n - d
    rw [sumF_base f b d n, Int32.sub_eq_add_neg, Int32.sub_eq_add_neg, Int32.add_assoc, Int32.add_comm (-d) (f n), Int32.add_assoc]
theorem sumF_del (f : Nat → Int32) {i : Nat} : ∀ n, i < n → sumF 0 (upd f i 0) n = sumF 0 f n - f i
  | 0, h => absurd h (Nat.not_lt_zero i)
  | n + 1, h => by
    show sumF 0 (upd f i 0) n + upd f i 0 n = sumF 0 f n + f n - f i
    by_cases e : i = n
    · subst e
      rw [upd_at, Int32.add_zero, sumF_congr (g := f) (fun j hj => upd_ne (by omega)), Int32.add_sub_cancel]
    · rw [upd_ne (fun z => e z.symm), sumF_del f n (by omega), Int32.sub_eq_add_neg, Int32.sub_eq_add_neg, Int32.add_assoc, Int32.add_comm (-f i) (f n), Int32.add_assoc]
theorem ld_del {mi fo wi sp : Int32} {no ki pl : Nat → Int32} {i : Nat} (hi : i < 30) : ldC mi fo wi sp P (upd no i 0) ki pl = ldC mi fo wi sp P no ki pl - (bif tk (edC mi fo wi sp) wi (nI i) then 0 else no i) := by
  unfold ldC
  have e : (fun g => bif tk (edC mi fo wi sp) wi (nI g) then 0 else upd no i 0 g) = upd (fun g => bif tk (edC mi fo wi sp) wi (nI g) then 0 else no g) i 0 := funext fun g => by
    by_cases z : g = i
    · subst z
      rw [upd_at, upd_at]
      cases tk (edC mi fo wi sp) wi (nI g) <;> rfl
    · rw [upd_ne z, upd_ne z]
  rw [e, sumF_del _ 30 hi, sumF_base]
theorem sub_le {T x y : Int32} (hT : 0 ≤ T.toInt ∧ T.toInt ≤ 700) (hx : 0 ≤ x.toInt ∧ x.toInt ≤ 20) (hy : 0 ≤ y.toInt ∧ y.toInt ≤ 20) : (T - x ≤ T - y) ↔ (y ≤ x) := by
  rw [i32_le, i32_le, sub_int (by omega) (by omega) (by omega) (by omega), sub_int (by omega) (by omega) (by omega) (by omega)]
  omega
theorem stl {G : Nat → Int32} {T : Int32} (hT : 0 ≤ T.toInt ∧ T.toInt ≤ 700) (hG : ∀ i, i < 30 → 0 ≤ (G i).toInt ∧ (G i).toInt ≤ 20) : ∀ n, n < 30 → bsn (fun i => T - G i) (n + 1) = ((bst G (fun n => nI n) (0, -1) (n + 1)).1, T - (bst G (fun n => nI n) (0, -1) (n + 1)).2) ∧ 0 ≤ (bst G (fun n => nI n) (0, -1) (n + 1)).2.toInt ∧ (bst G (fun n => nI n) (0, -1) (n + 1)).2.toInt ≤ 20
  | 0, _ => by
    have h0 := hG 0 (by decide)
    have e : bst G (fun n => nI n) (0, -1) 1 = (nI 0, G 0) := bst_no (f := G) (lab := fun n => nI n) (ini := (0, -1)) (n := 0) (fun q => by
      have q : G 0 ≤ -1 := q
      rw [i32_le] at q
      have z : (-1 : Int32).toInt = -1 := by decide
      omega)
    rw [bsn_1, e]
    exact ⟨rfl, h0⟩
  | n + 1, hn => by
    obtain ⟨h1, h2, h3⟩ := stl hT hG n (by omega)
    have hg := hG (n + 1) hn
    rw [bsn_2 (by omega), h1]
    by_cases c : G (n + 1) ≤ (bst G (fun n => nI n) (0, -1) (n + 1)).2
    · rw [bst_yes (f := G) (lab := fun n => nI n) (ini := (0, -1)) (n := n + 1) c]
      exact ⟨if_pos ((sub_le hT ⟨h2, h3⟩ hg).mpr c), h2, h3⟩
    · rw [bst_no (f := G) (lab := fun n => nI n) (ini := (0, -1)) (n := n + 1) c]
      exact ⟨if_neg (fun q => c ((sub_le hT ⟨h2, h3⟩ hg).mp q)), hg⟩
theorem stl2 {G : Nat → Int32} {T : Int32} (hT : 0 ≤ T.toInt ∧ T.toInt ≤ 700) (hG : ∀ i, i < 30 → 0 ≤ (G i).toInt ∧ (G i).toInt ≤ 20) {k : Nat} (hk : 0 < k) (hk2 : k ≤ 30) : (bsn (fun i => T - G i) k).1 = (bst G (fun n => nI n) (0, -1) k).1 := by
  obtain ⟨n, rfl⟩ : ∃ n, k = n + 1 := ⟨k - 1, by omega⟩
  rw [(stl hT hG n (by omega)).1]
theorem rel_still (h : Rel 99999 mi fo wi sp P wa no ki pl qu ca m) (a1 : Int32) : cn_still mi fo wi sp P wa no ki pl qu ca fd a1 = mn_still P m fd a1 := by
  unfold cn_still mn_still
  by_cases c : inR a1 0 100 = true
  · rw [if_pos c, if_pos c]
    obtain ⟨hy, hn⟩ := ix_of 100 c (by decide) (by decide)
    have em : (itT fo wi sp P ki (ix a1) (mi, wa, pl, qu, ca)).1 = miN mi (ix a1) := itT_mi fo wi sp P ki (ix a1) _
    have hz : 0 ≤ (0 : Int32).toInt ∧ (0 : Int32).toInt ≤ 20 := by decide
    have e1 : bsn (fun n => hdM (itM P (upd m (5 + n) 0) (ix a1)) P) 30 = bsn (fun i => ldC (itT fo wi sp P ki (ix a1) (mi, wa, pl, qu, ca)).1 fo wi sp P no ki (itT fo wi sp P ki (ix a1) (mi, wa, pl, qu, ca)).2.2.1 - (bif tk (edC (miN mi (ix a1)) fo wi sp) wi (nI i) then 0 else no i)) 30 := bsn_congr 30 (fun i hi => by
      have hl := ((h.noise (g := i) (v := 0) hi hz.1 hz.2).go (n := ix a1) (by omega)).loud
      show hdM (itM P (upd m (5 + i) 0) (ix a1)) P = _
      rw [← hl, ld_del hi, em])
    have hT := ld_b (mi := (itT fo wi sp P ki (ix a1) (mi, wa, pl, qu, ca)).1) (fo := fo) (wi := wi) (sp := sp) (ki := ki) (pl := (itT fo wi sp P ki (ix a1) (mi, wa, pl, qu, ca)).2.2.1) h.2.1 h.no_b
    have hS := stl2 (k := 30) (G := fun i => bif tk (edC (miN mi (ix a1)) fo wi sp) wi (nI i) then 0 else no i) hT (fun i hi => by
      show 0 ≤ (bif tk (edC (miN mi (ix a1)) fo wi sp) wi (nI i) then 0 else no i).toInt ∧ (bif tk (edC (miN mi (ix a1)) fo wi sp) wi (nI i) then 0 else no i).toInt ≤ 20
      cases tk (edC (miN mi (ix a1)) fo wi sp) wi (nI i)
      · exact h.no_b i hi
      · exact hz) (by decide) (by decide)
    rw [e1, hS]
  · rw [if_neg c, if_neg c]
theorem qtb_congr {f g : Nat → Int32} : ∀ n, (∀ i, i ≤ n → f i = g i) → qtb f n = qtb g n
  | 0, _ => rfl
  | n + 1, h => by
    have ih := qtb_congr n (fun i hi => h i (by omega))
    have hl := qtb_le g n
    show (if f (n + 1) ≤ f (qtb f n) then qtb f n else n + 1) = (if g (n + 1) ≤ g (qtb g n) then qtb g n else n + 1)
    rw [ih, h (n + 1) (Nat.le_refl _), h (qtb g n) (by omega)]
theorem rel_quietest (h : Rel 99999 mi fo wi sp P wa no ki pl qu ca m) (a1 : Int32) : cn_quietest mi fo wi sp P wa no ki pl qu ca fd a1 = mn_quietest P m fd a1 := by
  unfold cn_quietest mn_quietest
  by_cases c : inR a1 0 400 = true
  · rw [if_pos c, if_pos c]
    obtain ⟨hy, hn⟩ := ix_of 400 c (by decide) (by decide)
    have hg := h.go (n := ix a1) (by omega)
    have hP := h.2.1
    by_cases z : P = 0
    · rw [if_pos z]
      have e : qtm (fun j => pf (itM P m (ix a1)) j 2) P = -1 := by rw [z]; rfl
      rw [e, if_neg (by decide), if_neg (by decide)]
    · rw [if_neg z]
      have e : qtm (fun j => pf (itM P m (ix a1)) j 2) P = nI (qtb (itT fo wi sp P ki (ix a1) (mi, wa, pl, qu, ca)).2.2.2.1 (P - 1)) := by
        have e0 : qtm (fun j => pf (itM P m (ix a1)) j 2) P = nI (qtb (fun j => pf (itM P m (ix a1)) j 2) (P - 1)) := by
          obtain ⟨k, hk⟩ : ∃ k, P = k + 1 := ⟨P - 1, by omega⟩
          generalize (fun j => pf (itM P m (ix a1)) j 2) = F
          rw [hk]; rfl
        rw [e0, qtb_congr (f := fun j => pf (itM P m (ix a1)) j 2) (g := (itT fo wi sp P ki (ix a1) (mi, wa, pl, qu, ca)).2.2.2.1) (P - 1) (fun i hi => (hg.at (by omega)).2.2.1)]
      have hq := qtb_le (itT fo wi sp P ki (ix a1) (mi, wa, pl, qu, ca)).2.2.2.1 (P - 1)
      have hp : 0 ≤ nI (qtb (itT fo wi sp P ki (ix a1) (mi, wa, pl, qu, ca)).2.2.2.1 (P - 1)) := nI_pos' (by omega)
      rw [e, if_pos hp, if_pos hp]
  · rw [if_neg c, if_neg c]
end REL3
