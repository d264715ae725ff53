section REL2
variable {mi fo wi sp wa : Int32} {B P : Nat} {no ki pl qu ca m fd : Nat → Int32}
theorem Rel.add (h : Rel B mi fo wi sp P wa no ki pl qu ca m) {k g : Int32} (hP : P < 8) (h0 : 0 ≤ g.toInt) (h1 : g.toInt ≤ 29) : Rel B mi fo wi sp (P + 1) (wa &&& ((1 <<< (nI P &&& 31)) ^^^ (-1))) no (upd ki P k) (upd pl P g) (upd qu P 0) (upd ca P 0) (pu (pu (pu (pu (pu (upd m 4 (nI (P + 1))) P 0 k) P 1 g) P 2 0) P 3 0) P 4 0) := by
  obtain ⟨M, hM⟩ : ∃ M, M = pu (pu (pu (pu (pu (upd m 4 (nI (P + 1))) P 0 k) P 1 g) P 2 0) P 3 0) P 4 0 := ⟨_, rfl⟩
  have lo : ∀ n, n < 35 → n ≠ 4 → M n = m n := fun n q1 q2 => by rw [hM, pu_lo q1, pu_lo q1, pu_lo q1, pu_lo q1, pu_lo q1, upd_ne q2]
  have l4 : M 4 = nI (P + 1) := by rw [hM, pu_lo (by decide), pu_lo (by decide), pu_lo (by decide), pu_lo (by decide), pu_lo (by decide), upd_at]
  have po : ∀ j i, j ≠ P → i < 5 → pf M j i = pf m j i := fun j i q1 q2 => by
    rw [hM, pf_pu_j q1 (by decide) q2, pf_pu_j q1 (by decide) q2, pf_pu_j q1 (by decide) q2, pf_pu_j q1 (by decide) q2, pf_pu_j q1 (by decide) q2, pf_upd_lo (by decide)]
  have p0 : pf M P 0 = k := by rw [hM, pf_pu_k (by decide), pf_pu_k (by decide), pf_pu_k (by decide), pf_pu_k (by decide), pf_pu_s]
  have p1 : pf M P 1 = g := by rw [hM, pf_pu_k (by decide), pf_pu_k (by decide), pf_pu_k (by decide), pf_pu_s]
  have p2 : pf M P 2 = 0 := by rw [hM, pf_pu_k (by decide), pf_pu_k (by decide), pf_pu_s]
  have p3 : pf M P 3 = 0 := by rw [hM, pf_pu_k (by decide), pf_pu_s]
  have p4 : pf M P 4 = 0 := by rw [hM, pf_pu_s]
  rw [← hM]
  clear hM
  obtain ⟨⟨a0, a1, a2, a3, a4⟩, b, c, d, e, f⟩ := h
  refine ⟨⟨(lo 0 (by decide) (by decide)).trans a0, (lo 1 (by decide) (by decide)).trans a1, (lo 2 (by decide) (by decide)).trans a2, (lo 3 (by decide) (by decide)).trans a3, l4⟩, by omega, c, d, fun q hq => ?_, fun j hj => ?_⟩
  · rw [lo _ (by omega) (by omega)]; exact e q hq
  · by_cases z : j = P
    · subst z
      have ea : atM M j = (mi, 0, g, 0, 0) := by unfold atM; rw [p4, p1, p2, p3, lo 0 (by decide) (by decide), a0]
      rw [ea, upd_at]
      have d0 : 0 ≤ (0 : Int32).toInt := by decide
      have d9 : (0 : Int32).toInt ≤ 9999 := by decide
      refine ⟨p0, ?_, h0, h1, d0, d9, d0, d9, Or.inl rfl⟩
      show _ = (mi, bitOf (wa &&& ((1 <<< (nI j &&& 31)) ^^^ (-1))) j, upd pl j g j, upd qu j 0 j, upd ca j 0 j)
      rw [bit_clr wa (by omega) (by omega), if_pos rfl, upd_at, upd_at, upd_at]
    · have ea : atM M j = atM m j := by
        unfold atM
        rw [po j 4 z (by decide), po j 1 z (by decide), po j 2 z (by decide), po j 3 z (by decide), lo 0 (by decide) (by decide)]
      obtain ⟨f1, f2, f3⟩ := f j (by omega)
      rw [ea, po j 0 z (by decide), upd_ne z]
      refine ⟨f1, ?_, f3⟩
      rw [f2]
      show (mi, bitOf wa j, pl j, qu j, ca j) = (mi, bitOf (wa &&& ((1 <<< (nI P &&& 31)) ^^^ (-1))) j, upd pl P g j, upd qu P 0 j, upd ca P 0 j)
      rw [bit_clr wa (by omega) (by omega), if_neg z, upd_ne z, upd_ne z, upd_ne z]
theorem rel_person (h : Rel B mi fo wi sp P wa no ki pl qu ca m) (a1 a2 : Int32) : (cn_person P wa ki pl qu ca fd a1 a2).1 = (mn_person P m fd a1 a2).1 ∧ (cn_person P wa ki pl qu ca fd a1 a2).2.2.2.2.2.2.2 = (mn_person P m fd a1 a2).2.2 ∧ Rel B mi fo wi sp (cn_person P wa ki pl qu ca fd a1 a2).2.1 (cn_person P wa ki pl qu ca fd a1 a2).2.2.1 no (cn_person P wa ki pl qu ca fd a1 a2).2.2.2.1 (cn_person P wa ki pl qu ca fd a1 a2).2.2.2.2.1 (cn_person P wa ki pl qu ca fd a1 a2).2.2.2.2.2.1 (cn_person P wa ki pl qu ca fd a1 a2).2.2.2.2.2.2.1 (mn_person P m fd a1 a2).2.1 := by
  unfold cn_person mn_person
  by_cases c : inR a1 0 5 = true ∧ inR a2 0 29 = true
  · rw [if_pos c, if_pos c]
    by_cases d : P < 8
    · rw [if_pos d, if_pos d]
      have hv := inR_b c.2
      exact ⟨rfl, rfl, h.add d hv.1 hv.2⟩
    · rw [if_neg d, if_neg d]; exact ⟨rfl, rfl, h⟩
  · rw [if_neg c, if_neg c]; exact ⟨rfl, rfl, h⟩
theorem a2_cases {a : Int32} (n : Nat) {b : Int32} (h : inR a 0 b = true) (hb : b.toInt = n) : a = nI (ix a) ∧ ix a ≤ n := ix_of n h (by decide) hb
theorem rel_of (h : Rel B mi fo wi sp P wa no ki pl qu ca m) (a1 a2 : Int32) : cn_of mi fo wi sp P wa ki pl qu ca fd a1 a2 = mn_of P m fd a1 a2 := by
  obtain ⟨⟨e0, e1, e2, e3, e4⟩, hP, hB, -⟩ := id h
  unfold cn_of mn_of
  by_cases c : inR a1 0 (nI P - 1) = true
  · rw [if_pos c]
    obtain ⟨hx, hj⟩ := ix_person c hP
    obtain ⟨g0, g1, g2, g3, g4⟩ := h.at hj
    have hc : ∀ X Y : Int32 × (Nat → Int32), (if inR a1 0 (nI P - 1) = true ∧ inR a2 0 7 = true then X else Y) = if inR a2 0 7 = true then X else Y := fun X Y => by
      by_cases d : inR a2 0 7 = true
      · rw [if_pos d, if_pos (And.intro c d)]
      · rw [if_neg d, if_neg (show ¬ (inR a1 0 (nI P - 1) = true ∧ inR a2 0 7 = true) from fun q => d q.2)]
    rw [hc, e0, e1, e2, e3, g0, g1, g3, g4, ← gq_eq hB, ← ta_eq hB]
    by_cases d : inR a2 0 7 = true
    · rw [if_pos d]
      obtain ⟨q1, q2⟩ := a2_cases 7 d (by decide)
      have L0 : ix 0 = 0 := by decide
      have L1 : ix 1 = 1 := by decide
      have L2 : ix 2 = 2 := by decide
      have L3 : ix 3 = 3 := by decide
      rcases (show ix a2 = 0 ∨ ix a2 = 1 ∨ ix a2 = 2 ∨ ix a2 = 3 ∨ ix a2 = 4 ∨ ix a2 = 5 ∨ ix a2 = 6 ∨ ix a2 = 7 by omega) with e | e | e | e | e | e | e | e
      · have ha : a2 = 0 := q1.trans (by rw [e]; rfl)
        subst ha; simp [L0, g0]
      · have ha : a2 = 1 := q1.trans (by rw [e]; rfl)
        subst ha; simp [L1, g1]
      · have ha : a2 = 2 := q1.trans (by rw [e]; rfl)
        subst ha; simp [L2, g2]
      · have ha : a2 = 3 := q1.trans (by rw [e]; rfl)
        subst ha; simp [L3, g3]
      · have ha : a2 = 4 := q1.trans (by rw [e]; rfl)
        subst ha; simp
      · have ha : a2 = 5 := q1.trans (by rw [e]; rfl)
        subst ha; simp
      · have ha : a2 = 6 := q1.trans (by rw [e]; rfl)
        subst ha; simp
      · have ha : a2 = 7 := q1.trans (by rw [e]; rfl)
        subst ha; simp
    · rw [if_neg d]
      have hn : ∀ k : Nat, k ≤ 7 → ¬ a2 = nI k := fun k hk e => d (by rw [e]; exact inR_nI (n := 7) hk (by decide))
      rw [if_neg (show ¬ a2 = 0 from hn 0 (by decide)), if_neg (show ¬ a2 = 1 from hn 1 (by decide)), if_neg (show ¬ a2 = 2 from hn 2 (by decide)), if_neg (show ¬ a2 = 3 from hn 3 (by decide)), if_neg (show ¬ a2 = 4 from hn 4 (by decide)), if_neg (show ¬ a2 = 5 from hn 5 (by decide)), if_neg (show ¬ a2 = 6 from hn 6 (by decide)), if_neg (show ¬ a2 = 7 from hn 7 (by decide))]
  · rw [if_neg c, if_neg (fun q => c q.1)]
theorem Rel.pl1 (h : Rel B mi fo wi sp P wa no ki pl qu ca m) {j : Nat} (hj : j < P) {v : Int32} (h0 : 0 ≤ v.toInt) (h1 : v.toInt ≤ 29) : Rel B mi fo wi sp P wa no ki (upd pl j v) qu ca (pu m j 1 v) := by
  obtain ⟨r1, r2, r3⟩ := h.PI1 hj
  have := h.put1 hj (k := 1) (v := v) (k2 := ki j) (p2 := v) (q2 := qu j) (c2 := ca j) (by decide) ⟨h0, h1, r3⟩ rfl rfl rfl rfl
  rw [upd_self, upd_self, upd_self] at this
  exact this
theorem Rel.qu1 (h : Rel B mi fo wi sp P wa no ki pl qu ca m) {j : Nat} (hj : j < P) {v : Int32} (h0 : 0 ≤ v.toInt) (h1 : v.toInt ≤ 9999) : Rel B mi fo wi sp P wa no ki pl (upd qu j v) ca (pu m j 2 v) := by
  obtain ⟨r1, r2, r3, r4, r5⟩ := h.PI1 hj
  have := h.put1 hj (k := 2) (v := v) (k2 := ki j) (p2 := pl j) (q2 := v) (c2 := ca j) (by decide) ⟨r1, r2, h0, h1, r5⟩ rfl rfl rfl rfl
  rw [upd_self, upd_self, upd_self] at this
  exact this
theorem Rel.ca1 (h : Rel B mi fo wi sp P wa no ki pl qu ca m) {j : Nat} (hj : j < P) {v : Int32} (h0 : 0 ≤ v.toInt) (h1 : v.toInt ≤ 9999) : Rel B mi fo wi sp P wa no ki pl qu (upd ca j v) (pu m j 3 v) := by
  obtain ⟨r1, r2, r3, r4, r5, r6, r7⟩ := h.PI1 hj
  have := h.put1 hj (k := 3) (v := v) (k2 := ki j) (p2 := pl j) (q2 := qu j) (c2 := v) (by decide) ⟨r1, r2, r3, r4, h0, h1, r7⟩ rfl rfl rfl rfl
  rw [upd_self, upd_self, upd_self] at this
  exact this
theorem rel_set (h : Rel B mi fo wi sp P wa no ki pl qu ca m) (a1 a2 a3 : Int32) : (cn_set P pl qu ca fd a1 a2 a3).1 = (mn_set P m fd a1 a2 a3).1 ∧ (cn_set P pl qu ca fd a1 a2 a3).2.2.2.2 = (mn_set P m fd a1 a2 a3).2.2 ∧ Rel B mi fo wi sp P wa no ki (cn_set P pl qu ca fd a1 a2 a3).2.1 (cn_set P pl qu ca fd a1 a2 a3).2.2.1 (cn_set P pl qu ca fd a1 a2 a3).2.2.2.1 (mn_set P m fd a1 a2 a3).2.1 := by
  unfold cn_set mn_set
  by_cases c : inR a1 0 (nI P - 1) = true
  · rw [if_pos c, c, Bool.true_and]
    obtain ⟨hx, hj⟩ := ix_person c h.2.1
    obtain ⟨g0, g1, g2, g3, g4⟩ := h.at hj
    by_cases z1 : a2 = 1
    · subst z1
      rw [show inR 1 1 3 = true from by decide, if_pos rfl, Bool.true_and, show ix 1 = 1 from by decide]
      by_cases d : inR a3 0 29 = true
      · have hv := inR_b d
        rw [if_pos ⟨rfl, d⟩, if_pos d]; exact ⟨g1.symm, rfl, h.pl1 hj hv.1 hv.2⟩
      · rw [if_neg (fun q => d q.2), if_neg (fun q => absurd q.1 (by decide)), if_neg (fun q => absurd q.1 (by decide)), if_neg d]; exact ⟨rfl, rfl, h⟩
    · by_cases z2 : a2 = 2
      · subst z2
        rw [show inR 2 1 3 = true from by decide, if_neg (show ¬ (2 : Int32) = 1 by decide), Bool.true_and, show ix 2 = 2 from by decide, if_neg (fun q => z1 q.1)]
        by_cases d : inR a3 0 9999 = true
        · have hv := inR_b d
          rw [if_pos ⟨rfl, d⟩, if_pos d]; exact ⟨g2.symm, rfl, h.qu1 hj hv.1 hv.2⟩
        · rw [if_neg (fun q => d q.2), if_neg (fun q => absurd q.1 (by decide)), if_neg d]; exact ⟨rfl, rfl, h⟩
      · by_cases z3 : a2 = 3
        · subst z3
          rw [show inR 3 1 3 = true from by decide, if_neg (show ¬ (3 : Int32) = 1 by decide), Bool.true_and, show ix 3 = 3 from by decide, if_neg (fun q => z1 q.1), if_neg (fun q => z2 q.1)]
          by_cases d : inR a3 0 9999 = true
          · have hv := inR_b d
            rw [if_pos ⟨rfl, d⟩, if_pos d]; exact ⟨g3.symm, rfl, h.ca1 hj hv.1 hv.2⟩
          · rw [if_neg (fun q => d q.2), if_neg d]; exact ⟨rfl, rfl, h⟩
        · rw [if_neg (fun q => z1 q.1), if_neg (fun q => z2 q.1), if_neg (fun q => z3 q.1), if_neg ?_]
          · exact ⟨rfl, rfl, h⟩
          · intro q
            have q1 := ((Bool.and_eq_true _ _).mp q).1
            obtain ⟨q2, q3⟩ := ix_of 3 q1 (by decide) (by decide)
            have q4 := ix_pos q1
            rcases (show ix a2 = 1 ∨ ix a2 = 2 ∨ ix a2 = 3 by omega) with e | e | e
            · exact z1 (q2.trans (by rw [e]; rfl))
            · exact z2 (q2.trans (by rw [e]; rfl))
            · exact z3 (q2.trans (by rw [e]; rfl))
  · rw [if_neg c, if_neg (fun q => c ((Bool.and_eq_true _ _).mp q).1)]; exact ⟨rfl, rfl, h⟩
theorem rel_turn (h : Rel B mi fo wi sp P wa no ki pl qu ca m) (a1 a2 : Int32) : (cn_turn P ki fd a1 a2).1 = (mn_turn P m fd a1 a2).1 ∧ (cn_turn P ki fd a1 a2).2.2 = (mn_turn P m fd a1 a2).2.2 ∧ Rel B mi fo wi sp P wa no (cn_turn P ki fd a1 a2).2.1 pl qu ca (mn_turn P m fd a1 a2).2.1 := by
  unfold cn_turn mn_turn
  by_cases c : inR a1 0 (nI P - 1) = true ∧ inR a2 0 5 = true
  · rw [if_pos c, if_pos c]
    obtain ⟨hx, hj⟩ := ix_person c.1 h.2.1
    exact ⟨(h.at hj).1.symm, rfl, h.kind1 hj a2⟩
  · rw [if_neg c, if_neg c]; exact ⟨rfl, rfl, h⟩
theorem ofK_eq (k a : Int32) : ofK k a = (decide (a = 0) || (decide (a = k) || (decide (a = 1) && decide (k = 4) || decide (a = 2) && decide (k = 5)))) := by
  unfold ofK
  by_cases c4 : k = 4
  · subst c4
    rw [if_pos rfl, decide_eq_true (rfl : (4 : Int32) = 4), decide_eq_false (show ¬ (4 : Int32) = 5 by decide)]
    cases decide (a = 0) <;> cases decide (a = 4) <;> cases decide (a = 1) <;> cases decide (a = 2) <;> rfl
  · rw [if_neg c4]
    by_cases c5 : k = 5
    · subst c5
      rw [if_pos rfl, decide_eq_true (rfl : (5 : Int32) = 5), decide_eq_false (show ¬ (5 : Int32) = 4 by decide)]
      cases decide (a = 0) <;> cases decide (a = 5) <;> cases decide (a = 1) <;> cases decide (a = 2) <;> rfl
    · rw [if_neg c5, decide_eq_false c4, decide_eq_false c5]
      cases decide (a = 0) <;> cases decide (a = k) <;> cases decide (a = 1) <;> cases decide (a = 2) <;> rfl
theorem rel_as (h : Rel B mi fo wi sp P wa no ki pl qu ca m) (a1 a2 : Int32) : cn_as P ki qu fd a1 a2 = mn_as P m fd a1 a2 := by
  unfold cn_as mn_as
  by_cases c : inR a1 0 (nI P - 1) = true ∧ inR a2 0 5 = true
  · rw [if_pos c, if_pos c]
    obtain ⟨hx, hj⟩ := ix_person c.1 h.2.1
    obtain ⟨g0, g1, g2, g3, g4⟩ := h.at hj
    rw [g0, g2, ofK_eq]
  · rw [if_neg c, if_neg c]
theorem Rel.tight (h : Rel B mi fo wi sp P wa no ki pl qu ca m) {C : Nat} (hC : mi.toInt ≤ C) : Rel C mi fo wi sp P wa no ki pl qu ca m := ⟨h.1, h.2.1, h.2.2.1, hC, h.2.2.2.2⟩
theorem rel_minutes (h : Rel 99999 mi fo wi sp P wa no ki pl qu ca m) (a1 : Int32) : (cn_minutes fo wi sp P ki (mi, wa, pl, qu, ca) fd a1).1 = (mn_minutes P m fd a1).1 ∧ (cn_minutes fo wi sp P ki (mi, wa, pl, qu, ca) fd a1).2.2.2.2.2.2 = (mn_minutes P m fd a1).2.2 ∧ Rel 99999 (cn_minutes fo wi sp P ki (mi, wa, pl, qu, ca) fd a1).2.1 fo wi sp P (cn_minutes fo wi sp P ki (mi, wa, pl, qu, ca) fd a1).2.2.1 no ki (cn_minutes fo wi sp P ki (mi, wa, pl, qu, ca) fd a1).2.2.2.1 (cn_minutes fo wi sp P ki (mi, wa, pl, qu, ca) fd a1).2.2.2.2.1 (cn_minutes fo wi sp P ki (mi, wa, pl, qu, ca) fd a1).2.2.2.2.2.1 (mn_minutes P m fd a1).2.1 := by
  unfold cn_minutes mn_minutes
  rw [h.1.1]
  by_cases c : inR a1 1 200 = true
  · rw [if_pos c, if_pos c]
    by_cases d : mi + a1 ≤ 99999
    · rw [if_pos d, if_pos d]
      obtain ⟨hx, hn⟩ := ix_of 200 c (by decide) (by decide)
      have hg := h.go (n := ix a1) (by omega)
      have hv := inR_b c
      have e1 : (1 : Int32).toInt = 1 := by decide
      have e2 : (200 : Int32).toInt = 200 := by decide
      rw [e1, e2] at hv
      have hi := ix_int (x := a1) (by omega)
      have hm := h.2.2.1.1
      have hM := h.2.2.2.1
      rw [i32_le, add_int (by omega) (by omega) (by omega) (by omega)] at d
      have e9 : (99999 : Int32).toInt = 99999 := by decide
      rw [e9] at d
      have em : (itT fo wi sp P ki (ix a1) (mi, wa, pl, qu, ca)).1 = miN mi (ix a1) := itT_mi fo wi sp P ki (ix a1) _
      have ei := miN_int hm (ix a1) (by omega)
      exact ⟨hg.who, rfl, hg.tight (by rw [em, ei]; omega)⟩
    · rw [if_neg d, if_neg d]; exact ⟨rfl, rfl, h⟩
  · rw [if_neg c, if_neg c]; exact ⟨rfl, rfl, h⟩
theorem Rel.it1 (h : Rel B mi fo wi sp P wa no ki pl qu ca m) {j n : Nat} (hj : j < P) (hn : B + n < 1000000) : atM (itM P m n) j = it1 fo wi sp (ki j) n (mi, bitOf wa j, pl j, qu j, ca j) := by
  obtain ⟨⟨a0, a1, a2, a3, a4⟩, b, c, d, e, f⟩ := h
  have hB : Bs (m 0) (m 1) (m 2) (m 3) := by rw [a0, a1, a2, a3]; exact c
  obtain ⟨f1, f2, f3⟩ := f j hj
  rw [itM_at hB hj f3 n (by rw [a0]; omega), f1, f2, a1, a2, a3]; rfl
theorem rel_on (h : Rel 99999 mi fo wi sp P wa no ki pl qu ca m) (a1 a2 a3 : Int32) : cn_on mi fo wi sp P wa no ki pl qu ca fd a1 a2 a3 = mn_on P m fd a1 a2 a3 := by
  unfold cn_on mn_on
  by_cases c : inR a1 0 (nI P - 1) = true ∧ inR a2 0 400 = true ∧ inR a3 0 2 = true
  · rw [if_pos c, if_pos c]
    obtain ⟨hx, hj⟩ := ix_person c.1 h.2.1
    obtain ⟨hy, hn⟩ := ix_of 400 c.2.1 (by decide) (by decide)
    obtain ⟨hz, h2⟩ := ix_of 2 c.2.2 (by decide) (by decide)
    have e := h.it1 (n := ix a2) hj (by omega)
    rw [← e]
    rcases (show ix a3 = 0 ∨ ix a3 = 1 ∨ ix a3 = 2 by omega) with q | q | q
    · have hz : a3 = 0 := hz.trans (by rw [q]; rfl)
      rw [q, hz, if_pos rfl]; rfl
    · have hz : a3 = 1 := hz.trans (by rw [q]; rfl)
      rw [q, hz, if_neg (by decide), if_pos rfl]; rfl
    · have hz : a3 = 2 := hz.trans (by rw [q]; rfl)
      rw [q, hz, if_neg (by decide), if_neg (by decide)]; rfl
  · rw [if_neg c, if_neg c]
theorem rel_heard (h : Rel 99999 mi fo wi sp P wa no ki pl qu ca m) (a1 : Int32) : cn_heard mi fo wi sp P wa no ki pl qu ca fd a1 = mn_heard P m fd a1 := by
  unfold cn_heard mn_heard
  by_cases c : inR a1 0 400 = true
  · rw [if_pos c, if_pos c]
    obtain ⟨hy, hn⟩ := ix_of 400 c (by decide) (by decide)
    rw [(h.go (n := ix a1) (by omega)).loud]
  · rw [if_neg c, if_neg c]
theorem fs1_congr {p q : Nat → Bool} : ∀ (n i : Nat), (∀ k, i ≤ k → k < i + n → p k = q k) → fs1 p n i = fs1 q n i
  | 0, _, _ => rfl
  | n + 1, i, h => by
    show (bif p i then some i else fs1 p n (i + 1)) = (bif q i then some i else fs1 q n (i + 1))
    rw [h i (Nat.le_refl i) (by omega), fs1_congr n (i + 1) (fun k h1 h2 => h k (by omega) (by omega))]
theorem Rel.mins (h : Rel B mi fo wi sp P wa no ki pl qu ca m) {n : Nat} (hn : B + n < 1000000) : itM P m n 0 = miN mi n ∧ itM P m n 1 = fo ∧ itM P m n 2 = wi ∧ itM P m n 3 = sp ∧ Bs (miN mi n) fo wi sp := by
  obtain ⟨⟨a0, a1, a2, a3, a4⟩, b, c, d, -⟩ := h
  have ei := miN_int c.1 n (by omega)
  have c1 := c.1
  exact ⟨by rw [itM_0, a0], (itM_lo P m (by decide) (by decide) n).trans a1, (itM_lo P m (by decide) (by decide) n).trans a2, (itM_lo P m (by decide) (by decide) n).trans a3, by omega, by omega, c.2.2⟩
theorem rel_reaches (h : Rel 99999 mi fo wi sp P wa no ki pl qu ca m) (a1 : Int32) : cn_reaches mi fo wi sp P wa no ki pl qu ca fd a1 = mn_reaches P m fd a1 := by
  unfold cn_reaches mn_reaches
  rw [fs1_congr (p := fun n => tk (edC (miN mi n) fo wi sp) wi a1) (q := fun n => tkM (itM P m n 0) (itM P m n 1) (itM P m n 2) (itM P m n 3) a1) 401 0 (fun k _ hk => by
    obtain ⟨e0, e1, e2, e3, hB⟩ := h.mins (n := k) (by omega)
    show tk (edC (miN mi k) fo wi sp) wi a1 = tkM (itM P m k 0) (itM P m k 1) (itM P m k 2) (itM P m k 3) a1
    rw [e0, e1, e2, e3, tk_eq hB])]
  generalize fs1 (fun n => tkM (itM P m n 0) (itM P m n 1) (itM P m n 2) (itM P m n 3) a1) 401 0 = o
  cases o <;> rfl
theorem edC_no {mi fo wi sp : Int32} (hB : Bs mi fo wi sp) : decide (edC mi fo wi sp = -1) = !huM mi fo wi sp := by
  rw [← hu_eq hB]
  unfold edC
  cases hh : hu mi fo wi sp
  · rw [cond_false, decide_eq_true rfl]; rfl
  · rw [cond_true, decide_eq_false (hu_pos hB hh).2]; rfl
theorem rel_out (h : Rel 99999 mi fo wi sp P wa no ki pl qu ca m) : cn_out mi fo wi sp P wa no ki pl qu ca fd = mn_out P m fd := by
  unfold cn_out mn_out
  rw [fs1_congr (p := fun n => decide (edC (miN mi n) fo wi sp = -1)) (q := fun n => !huM (itM P m n 0) (itM P m n 1) (itM P m n 2) (itM P m n 3)) 401 0 (fun k _ hk => by
    obtain ⟨e0, e1, e2, e3, hB⟩ := h.mins (n := k) (by omega)
    show decide (edC (miN mi k) fo wi sp = -1) = !huM (itM P m k 0) (itM P m k 1) (itM P m k 2) (itM P m k 3)
    rw [e0, e1, e2, e3, edC_no hB])]
  generalize fs1 (fun n => !huM (itM P m n 0) (itM P m n 1) (itM P m n 2) (itM P m n 3)) 401 0 = o
  cases o <;> rfl
theorem rel_catches (h : Rel 99999 mi fo wi sp P wa no ki pl qu ca m) (a1 : Int32) : cn_catches mi fo wi sp P wa no ki pl qu ca fd a1 = mn_catches P m fd a1 := by
  unfold cn_catches mn_catches
  by_cases c : inR a1 0 (nI P - 1) = true
  · rw [if_pos c, if_pos c]
    obtain ⟨hx, hj⟩ := ix_person c h.2.1
    rw [fs1_congr (p := fun n => tk (edC (it1 fo wi sp (ki (ix a1)) n (mi, bitOf wa (ix a1), pl (ix a1), qu (ix a1), ca (ix a1))).1 fo wi sp) wi (it1 fo wi sp (ki (ix a1)) n (mi, bitOf wa (ix a1), pl (ix a1), qu (ix a1), ca (ix a1))).2.2.1) (q := fun n => isInM (itM P m n) (ix a1)) 401 0 (fun k _ hk => by
      obtain ⟨e0, e1, e2, e3, hB⟩ := h.mins (n := k) (by omega)
      show tk (edC (it1 fo wi sp (ki (ix a1)) k (mi, bitOf wa (ix a1), pl (ix a1), qu (ix a1), ca (ix a1))).1 fo wi sp) wi (it1 fo wi sp (ki (ix a1)) k (mi, bitOf wa (ix a1), pl (ix a1), qu (ix a1), ca (ix a1))).2.2.1 = tkM (itM P m k 0) (itM P m k 1) (itM P m k 2) (itM P m k 3) (pf (itM P m k) (ix a1) 1)
      rw [← h.it1 (n := k) hj (by omega)]
      show tk (edC (itM P m k 0) fo wi sp) wi (pf (itM P m k) (ix a1) 1) = _
      rw [e0, e1, e2, e3, tk_eq hB])]
    generalize fs1 (fun n => isInM (itM P m n) (ix a1)) 401 0 = o
    cases o <;> rfl
  · rw [if_neg c, if_neg c]
end REL2
