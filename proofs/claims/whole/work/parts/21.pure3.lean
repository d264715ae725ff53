/-! the reference's minutes, person by person -/
def atM (m : Nat → Int32) (j : Nat) : PV := (m 0, pf m j 4, pf m j 1, pf m j 2, pf m j 3)
/-- what of a person can be -/
def PI (t : PV) : Prop := 0 ≤ t.2.2.1.toInt ∧ t.2.2.1.toInt ≤ 29 ∧ 0 ≤ t.2.2.2.1.toInt ∧ t.2.2.2.1.toInt ≤ 9999 ∧ 0 ≤ t.2.2.2.2.toInt ∧ t.2.2.2.2.toInt ≤ 9999 ∧ (t.2.1 = 0 ∨ t.2.1 = 1)
theorem hs1_own {X m : Nat → Int32} {j : Nat} (hg : ∀ n, n < 35 → X n = m n) (hp : ∀ k, k < 5 → pf X j k = pf m j k) {k : Nat} (hk : k < 5) : pf (hs1 X j) j k = pf (hs1 m j) j k := by
  have e1 : isInM X j = isInM m j := by
    unfold isInM
    rw [hg 0 (by decide), hg 1 (by decide), hg 2 (by decide), hg 3 (by decide), hp 1 (by decide)]
  have e2 : cauM X j = cauM m j := by
    unfold cauM
    rw [e1, hp 4 (by decide), hp 0 (by decide), hp 3 (by decide)]
  unfold hs1
  rw [e1, e2, hp 2 (by decide), hp 3 (by decide)]
  rcases (show k = 0 ∨ k = 1 ∨ k = 2 ∨ k = 3 ∨ k = 4 by omega) with rfl | rfl | rfl | rfl | rfl
  · rw [pf_pu_k (by decide), pf_pu_k (by decide), pf_pu_k (by decide), pf_pu_k (by decide), pf_pu_k (by decide), pf_pu_k (by decide), hp 0 (by decide)]
  · rw [pf_pu_k (by decide), pf_pu_k (by decide), pf_pu_k (by decide), pf_pu_k (by decide), pf_pu_k (by decide), pf_pu_k (by decide), hp 1 (by decide)]
  · rw [pf_pu_k (by decide), pf_pu_k (by decide), pf_pu_s, pf_pu_k (by decide), pf_pu_k (by decide), pf_pu_s]
  · rw [pf_pu_k (by decide), pf_pu_s, pf_pu_k (by decide), pf_pu_s]
  · rw [pf_pu_s, pf_pu_s]
theorem hs1_oth {m : Nat → Int32} {i j k : Nat} (h : j ≠ i) (hk : k < 5) : pf (hs1 m i) j k = pf m j k := by
  unfold hs1
  rw [pf_pu_j h (by decide) hk, pf_pu_j h (by decide) hk, pf_pu_j h (by decide) hk]
theorem hsM_pf (m : Nat → Int32) : ∀ (n j k : Nat), k < 5 → pf (hsM m n) j k = if j < n then pf (hs1 m j) j k else pf m j k
  | 0, j, k, _ => rfl
  | n + 1, j, k, hk => by
    show pf (hs1 (hsM m n) n) j k = _
    by_cases e : j = n
    · subst e
      rw [if_pos (Nat.lt_succ_self j)]
      exact hs1_own (fun i hi => hsM_lo m hi j) (fun k hk => by rw [hsM_pf m j j k hk, if_neg (Nat.lt_irrefl j)]) hk
    · rw [hs1_oth e hk, hsM_pf m n j k hk]
      by_cases q : j < n
      · rw [if_pos q, if_pos (by omega)]
      · rw [if_neg q, if_neg (by omega)]
theorem mv1_own {X m : Nat → Int32} {j : Nat} (hg : ∀ n, n < 35 → X n = m n) (hp : ∀ k, k < 5 → pf X j k = pf m j k) {k : Nat} (hk : k < 5) : pf (mv1 X j) j k = pf (mv1 m j) j k := by
  unfold mv1
  rw [hg 0 (by decide), hg 1 (by decide), hg 2 (by decide), hg 3 (by decide), hp 1 (by decide), hp 0 (by decide)]
  by_cases e : k = 1
  · subst e; rw [pf_pu_s, pf_pu_s]
  · rw [pf_pu_k e, pf_pu_k e, hp k hk]
theorem mv1_oth {m : Nat → Int32} {i j k : Nat} (h : j ≠ i) (hk : k < 5) : pf (mv1 m i) j k = pf m j k := by
  unfold mv1
  rw [pf_pu_j h (by decide) hk]
theorem mvM_pf (m : Nat → Int32) : ∀ (n j k : Nat), k < 5 → pf (mvM m n) j k = if j < n then pf (mv1 m j) j k else pf m j k
  | 0, j, k, _ => rfl
  | n + 1, j, k, hk => by
    show pf (mv1 (mvM m n) n) j k = _
    by_cases e : j = n
    · subst e
      rw [if_pos (Nat.lt_succ_self j)]
      exact mv1_own (fun i hi => mvM_lo m hi j) (fun k hk => by rw [mvM_pf m j j k hk, if_neg (Nat.lt_irrefl j)]) hk
    · rw [mv1_oth e hk, mvM_pf m n j k hk]
      by_cases q : j < n
      · rw [if_pos q, if_pos (by omega)]
      · rw [if_neg q, if_neg (by omega)]
theorem goM_pf (P : Nat) (m : Nat → Int32) {j k : Nat} (hj : j < P) (hk : k < 5) : pf (goM P m) j k = if k = 1 then heldM (pf m j 1 + gqM (m 0) (m 1) (m 2) (m 3) (pf m j 0) (pf m j 1)) 0 29 else pf (hs1 m j) j k := by
  have e0 : pf (goM P m) j k = pf (mvM (hsM m P) P) j k := if_neg (by omega)
  have hh : ∀ k, k < 5 → pf (hsM m P) j k = pf (hs1 m j) j k := fun k hk => by rw [hsM_pf m P j k hk, if_pos hj]
  have h1 : pf (hs1 m j) j 1 = pf m j 1 := by
    unfold hs1
    rw [pf_pu_k (by decide), pf_pu_k (by decide), pf_pu_k (by decide)]
  have h0 : pf (hs1 m j) j 0 = pf m j 0 := by
    unfold hs1
    rw [pf_pu_k (by decide), pf_pu_k (by decide), pf_pu_k (by decide)]
  rw [e0, mvM_pf _ P j k hk, if_pos hj]
  unfold mv1
  rw [hsM_lo m (by decide), hsM_lo m (by decide), hsM_lo m (by decide), hsM_lo m (by decide), hh 1 (by decide), hh 0 (by decide), h1, h0]
  by_cases e : k = 1
  · subst e; rw [pf_pu_s, if_pos rfl]
  · rw [pf_pu_k e, if_neg e, hh k hk]
theorem goM_0 (P : Nat) (m : Nat → Int32) : goM P m 0 = m 0 + 1 := by
  show upd (mvM (hsM m P) P) 0 (mvM (hsM m P) P 0 + 1) 0 = _
  rw [upd_at, mvM_lo _ (by decide), hsM_lo _ (by decide)]
theorem held_bi {q : Int32} (h0 : 0 ≤ q.toInt) (h1 : q.toInt ≤ 9999) (b : Bool) : heldM (q + bi b) 0 9999 = bif b then iMin 9999 (q + 1) else q := by
  cases b
  · show heldM (q + 0) 0 9999 = q
    rw [Int32.add_zero]
    unfold heldM
    rw [if_pos (by rw [i32_le]; exact h0), if_pos (by rw [i32_le]; exact h1)]
  · show heldM (q + 1) 0 9999 = iMin 9999 (q + 1)
    rw [← held_eq (by decide)]
    have e : (q + 1).toInt = q.toInt + 1 := add_int (by omega) (by omega) (by decide) (by decide)
    have e9 : (9999 : Int32).toInt = 9999 := by decide
    unfold iMax iMin
    by_cases c : q + 1 < 9999
    · rw [if_pos c, if_pos (by rw [i32_lt, e]; show (0 : Int) < _; omega)]
    · rw [if_neg c]; rfl
theorem goM_at {P : Nat} {m : Nat → Int32} {j : Nat} (hB : Bs (m 0) (m 1) (m 2) (m 3)) (hj : j < P) (hI : PI (atM m j)) : atM (goM P m) j = st1 (m 1) (m 2) (m 3) (pf m j 0) (atM m j) := by
  obtain ⟨-, -, q1, q2, q3, q4, -⟩ := hI
  have q1 : 0 ≤ (pf m j 2).toInt := q1
  have q2 : (pf m j 2).toInt ≤ 9999 := q2
  have q3 : 0 ≤ (pf m j 3).toInt := q3
  have q4 : (pf m j 3).toInt ≤ 9999 := q4
  have ei : isInM m j = tk (edC (m 0) (m 1) (m 2) (m 3)) (m 2) (pf m j 1) := (tk_eq hB _).symm
  have s2 : pf (hs1 m j) j 2 = heldM (pf m j 2 + bi (isInM m j)) 0 9999 := by
    unfold hs1; rw [pf_pu_k (by decide), pf_pu_k (by decide), pf_pu_s]
  have s3 : pf (hs1 m j) j 3 = heldM (pf m j 3 + bi (cauM m j)) 0 9999 := by
    unfold hs1; rw [pf_pu_k (by decide), pf_pu_s]
  have s4 : pf (hs1 m j) j 4 = bi (isInM m j) := by
    unfold hs1; rw [pf_pu_s]
  unfold atM st1
  rw [goM_0, goM_pf P m hj (by decide), goM_pf P m hj (by decide), goM_pf P m hj (by decide), goM_pf P m hj (by decide), if_pos rfl, if_neg (by decide), if_neg (by decide), if_neg (by decide), s2, s3, s4]
  rw [held_bi q1 q2, held_bi q3 q4, ← held_eq (a := 0) (b := 29) (by decide), ← gq_eq hB]
  unfold cauM
  rw [ei]
  cases tk (edC (m 0) (m 1) (m 2) (m 3)) (m 2) (pf m j 1) <;> rfl
theorem iMin_r {v : Int32} (h0 : 0 ≤ v.toInt) : 0 ≤ (iMin 9999 v).toInt ∧ (iMin 9999 v).toInt ≤ 9999 := by
  have e9 : (9999 : Int32).toInt = 9999 := by decide
  unfold iMin
  by_cases c : v < 9999
  · rw [if_pos c]; rw [i32_lt, e9] at c; exact ⟨h0, by omega⟩
  · rw [if_neg c, e9]; exact ⟨by decide, by decide⟩
theorem iMM_r (v : Int32) : 0 ≤ (iMax 0 (iMin 29 v)).toInt ∧ (iMax 0 (iMin 29 v)).toInt ≤ 29 := by
  have e9 : (29 : Int32).toInt = 29 := by decide
  have e0 : (0 : Int32).toInt = 0 := by decide
  unfold iMax iMin
  by_cases c : v < 29
  · rw [if_pos c]
    by_cases d : 0 < v
    · rw [if_pos d]; rw [i32_lt, e9] at c; rw [i32_lt, e0] at d; omega
    · rw [if_neg d, e0]; omega
  · rw [if_neg c]; decide
theorem st1_PI {fo wi sp k : Int32} {t : PV} (h : PI t) : PI (st1 fo wi sp k t) := by
  obtain ⟨h1, h2, h3, h4, h5, h6, h7⟩ := h
  have a1 := iMM_r (t.2.2.1 + gqC t.1 wi sp k t.2.2.1 (edC t.1 fo wi sp))
  have e1 : (t.2.2.2.1 + 1).toInt = t.2.2.2.1.toInt + 1 := add_int (by omega) (by omega) (by decide) (by decide)
  have e2 : (t.2.2.2.2 + 1).toInt = t.2.2.2.2.toInt + 1 := add_int (by omega) (by omega) (by decide) (by decide)
  have a2 := iMin_r (v := t.2.2.2.1 + 1) (by omega)
  have a3 := iMin_r (v := t.2.2.2.2 + 1) (by omega)
  unfold PI st1
  dsimp only
  cases tk (edC t.1 fo wi sp) wi t.2.2.1
  · exact ⟨a1.1, a1.2, h3, h4, h5, h6, Or.inl rfl⟩
  · cases (decide (t.2.1 = 0) && !soC k t.2.2.2.2)
    · exact ⟨a1.1, a1.2, a2.1, a2.2, h5, h6, Or.inr rfl⟩
    · exact ⟨a1.1, a1.2, a2.1, a2.2, a3.1, a3.2, Or.inr rfl⟩
theorem it1_PI {fo wi sp k : Int32} {t : PV} (h : PI t) : ∀ n, PI (it1 fo wi sp k n t)
  | 0 => h
  | n + 1 => st1_PI (it1_PI h n)
theorem miN_int {x : Int32} (h0 : 0 ≤ x.toInt) : ∀ n : Nat, x.toInt + n < 1000000 → (miN x n).toInt = x.toInt + n
  | 0, _ => by show x.toInt = x.toInt + (0 : Nat); omega
  | n + 1, h => by
    have ih := miN_int h0 n (by omega)
    show (miN x n + 1).toInt = _
    rw [add_int (by omega) (by omega) (by decide) (by decide), ih]
    show _ + (1 : Int) = _
    omega
theorem itM_0 (P : Nat) (m : Nat → Int32) : ∀ n, itM P m n 0 = miN (m 0) n
  | 0 => rfl
  | n + 1 => by
    show goM P (itM P m n) 0 = miN (m 0) n + 1
    rw [goM_0, itM_0 P m n]
theorem itM_k0 (P : Nat) (m : Nat → Int32) {j : Nat} (hj : j < P) : ∀ n, pf (itM P m n) j 0 = pf m j 0
  | 0 => rfl
  | n + 1 => by
    show pf (goM P (itM P m n)) j 0 = _
    rw [goM_pf P _ hj (by decide), if_neg (by decide)]
    unfold hs1
    rw [pf_pu_k (by decide), pf_pu_k (by decide), pf_pu_k (by decide), itM_k0 P m hj n]
theorem itM_Bs {P : Nat} {m : Nat → Int32} (hB : Bs (m 0) (m 1) (m 2) (m 3)) {n : Nat} (hn : (m 0).toInt + n < 1000000) : Bs (itM P m n 0) (itM P m n 1) (itM P m n 2) (itM P m n 3) := by
  rw [itM_0, itM_lo P m (by decide) (by decide), itM_lo P m (by decide) (by decide), itM_lo P m (by decide) (by decide)]
  obtain ⟨h1, h2, h3⟩ := hB
  have e := miN_int h1 n hn
  exact ⟨by omega, by omega, h3⟩
theorem itM_at {P : Nat} {m : Nat → Int32} {j : Nat} (hB : Bs (m 0) (m 1) (m 2) (m 3)) (hj : j < P) (hI : PI (atM m j)) : ∀ n : Nat, (m 0).toInt + n < 1000000 → atM (itM P m n) j = it1 (m 1) (m 2) (m 3) (pf m j 0) n (atM m j)
  | 0, _ => rfl
  | n + 1, hn => by
    have ih := itM_at hB hj hI n (by omega)
    have hB2 := itM_Bs (P := P) hB (n := n) (by omega)
    show atM (goM P (itM P m n)) j = st1 (m 1) (m 2) (m 3) (pf m j 0) (it1 (m 1) (m 2) (m 3) (pf m j 0) n (atM m j))
    rw [goM_at hB2 hj (by rw [ih]; exact it1_PI hI n), ih, itM_lo P m (by decide) (by decide), itM_lo P m (by decide) (by decide), itM_lo P m (by decide) (by decide), itM_k0 P m hj n]
