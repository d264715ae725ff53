section TW
variable {by1 : Nat → Int32} {L : Nat}
theorem apM_4 {m : Nat → Int32} {P : Nat} {it : IT} (hm4 : m 4 = nI P) (hP : P ≤ 8) (h : okIt P it) : apM m it 4 = nI (P + (if it.1 ≤ 5 then 1 else 0)) ∧ P + (if it.1 ≤ 5 then 1 else 0) ≤ 8 := by
  obtain ⟨t, x, y⟩ := it
  rcases h with h | h | h | h | h
  · rw [apM_p h.2.1 hm4 hP, if_pos h.2.1, pu_lo (by decide), pu_lo (by decide), pu_lo (by decide), pu_lo (by decide), pu_lo (by decide)]
    have := h.2.2.2
    exact ⟨if_pos rfl, by omega⟩
  · obtain ⟨h1, h2, h3⟩ := h
    have h1 : t = 7 := h1
    subst h1
    rw [apM_7, if_neg (show ¬ (7 : Int32) ≤ 5 by decide)]
    exact ⟨(if_neg (by omega)).trans hm4, hP⟩
  · obtain ⟨h1, h2⟩ := h
    have h1 : t = 8 := h1
    subst h1
    rw [apM_8, if_neg (show ¬ (8 : Int32) ≤ 5 by decide)]
    exact ⟨(if_neg (by decide)).trans hm4, hP⟩
  · obtain ⟨h1, h2⟩ := h
    have h1 : t = 9 := h1
    subst h1
    rw [apM_9, if_neg (show ¬ (9 : Int32) ≤ 5 by decide)]
    exact ⟨(if_neg (by decide)).trans hm4, hP⟩
  · obtain ⟨h1, h2⟩ := h
    have h1 : t = 10 := h1
    subst h1
    rw [apM_10, if_neg (show ¬ (10 : Int32) ≤ 5 by decide)]
    exact ⟨(if_neg (by decide)).trans hm4, hP⟩
theorem itm_le {p P : Nat} (hp : p ≤ L) : (itm by1 L p P).2.1 ≤ L := by
  cases e : (itm by1 L p P).1
  · have n1 := nxt_rng (by1 := by1) hp
    have n2 := nxt_rng (by1 := by1) n1.2.1
    unfold itm at e ⊢
    by_cases c5 : tm by1 L p ≤ 5
    · rw [if_pos c5] at e ⊢
      unfold pim at e ⊢
      by_cases c8 : P = 8
      · rw [if_pos c8]; exact hp
      · rw [if_neg c8] at e ⊢
        cases e1 : decide (tm by1 L (nxt by1 L p) = 6)
        · rw [e1] at e; cases e
        · rw [e1] at e
          cases e2 : nm by1 L (nxt by1 L (nxt by1 L p)) 0 29
          · exact n2.2.1
          · rw [e2] at e; cases e
    · rw [if_neg c5] at e ⊢
      have hh : ∀ t a b, (him1 by1 L p t a b).1 = false → (him1 by1 L p t a b).2.1 ≤ L := by
        intro t a b
        unfold him1
        cases nm by1 L (nxt by1 L p) a b
        · intro _; exact n1.2.1
        · intro q; cases q
      cases e7 : decide (tm by1 L p = 7)
      · rw [e7] at e
        have e : (him by1 L p).1 = false := e
        show (him by1 L p).2.1 ≤ L
        unfold him at e ⊢
        cases e8 : decide (tm by1 L p = 8)
        · rw [e8] at e
          cases e9 : decide (tm by1 L p = 9)
          · rw [e9] at e
            cases e10 : decide (tm by1 L p = 10)
            · exact hp
            · rw [e10] at e; exact hh _ _ _ e
          · rw [e9] at e; exact hh _ _ _ e
        · rw [e8] at e; exact hh _ _ _ e
      · rw [e7] at e
        have e : (nim by1 L p).1 = false := e
        show (nim by1 L p).2.1 ≤ L
        unfold nim at e ⊢
        cases e1 : nm by1 L (nxt by1 L p) 0 29
        · exact n1.2.1
        · rw [e1] at e
          cases e2 : nm by1 L (nxt by1 L (nxt by1 L p)) 0 20
          · exact n2.2.1
          · rw [e2] at e; cases e
  · exact (itm_rng hp e).2
/-- where one is behind an item: R is the whole text's, n items may still come -/
def pst (by1 : Nat → Int32) (L : Nat) (R : Bool × Nat × Nat × (Nat → Int32)) (n c : Nat) (z : Nat × Bool × Nat × (Nat → Int32)) : Prop :=
  (z.2.1 = false → R = (bif decide (tm by1 L z.1 = 21) then psr by1 L apM n (tq by1 L z.1) z.2.2.1 c z.2.2.2 else (decide (tm by1 L z.1 = 22), z.1, c, z.2.2.2)) ∧ z.2.2.2 4 = nI z.2.2.1 ∧ z.2.2.1 ≤ 8 ∧ c ≤ z.1) ∧ (z.2.1 = true → R.1 = false ∧ R.2.1 = z.1) ∧ z.1 ≤ L
theorem pst_go {R : Bool × Nat × Nat × (Nat → Int32)} {m n b P c : Nat} {s u : Nat → Int32} (hR : R = psr by1 L apM m b P c s) (hm : m = n + 1) (hb : b ≤ L) (hc : c ≤ b) (h4 : s 4 = nI P) (h8 : P ≤ 8) :
    pst by1 L R n (c + 1) ((itm by1 L (skp by1 L b) P).2.1, !(itm by1 L (skp by1 L b) P).1, P + (if (itm by1 L (skp by1 L b) P).2.2.1 ≤ 5 then 1 else 0), bif (itm by1 L (skp by1 L b) P).1 then apM s (itm by1 L (skp by1 L b) P).2.2 else u) := by
  have hs := skp_rng (by1 := by1) hb
  cases e : (itm by1 L (skp by1 L b) P).1
  · refine ⟨(fun q => by cases q), fun _ => ?_, itm_le hs.2⟩
    rw [hR, psr_f hm e]; exact ⟨rfl, rfl⟩
  · have hr := itm_rng hs.2 e
    have ha := apM_4 h4 h8 (itm_ok e)
    refine ⟨fun _ => ⟨?_, ha.1, ha.2, by show c + 1 ≤ (itm by1 L (skp by1 L b) P).2.1; omega⟩, (fun q => by cases q), itm_le hs.2⟩
    rw [hR]
    show _ = (bif decide (tm by1 L (itm by1 L (skp by1 L b) P).2.1 = 21) then _ else _)
    cases e2 : decide (tm by1 L (itm by1 L (skp by1 L b) P).2.1 = 21)
    · rw [psr_e hm e (of_decide_eq_false e2)]; rfl
    · rw [psr_s hm e (of_decide_eq_true e2)]; rfl
theorem and_no {b c : Bool} (h : (!b && c) = true) : b = false ∧ c = true := by cases b <;> cases c <;> simp_all
theorem pst_s {R : Bool × Nat × Nat × (Nat → Int32)} {n c : Nat} {z : Nat × Bool × Nat × (Nat → Int32)} {u : Nat → Int32} (h : pst by1 L R (n + 1) c z) (hc : (!z.2.1 && decide (tm by1 L z.1 = 21)) = true) :
    pst by1 L R n (c + 1) ((itm by1 L (nxt by1 L z.1) z.2.2.1).2.1, !(itm by1 L (nxt by1 L z.1) z.2.2.1).1, z.2.2.1 + (if (itm by1 L (nxt by1 L z.1) z.2.2.1).2.2.1 ≤ 5 then 1 else 0), bif (itm by1 L (nxt by1 L z.1) z.2.2.1).1 then apM z.2.2.2 (itm by1 L (nxt by1 L z.1) z.2.2.1).2.2 else u) := by
  obtain ⟨h1, h2⟩ := and_no hc
  obtain ⟨g1, g2, g3, g4⟩ := h.1 h1
  rw [h2, cond_true] at g1
  have ht := tq_rng (by1 := by1) h.2.2
  exact pst_go g1 rfl ht.2.1 (by omega) g2 g3
theorem pst_n {R : Bool × Nat × Nat × (Nat → Int32)} {n c : Nat} {z : Nat × Bool × Nat × (Nat → Int32)} (h : pst by1 L R n c z) (hc : (!z.2.1 && decide (tm by1 L z.1 = 21)) = true) : c ≤ L ∧ z.2.1 = false ∧ z.2.2.2 4 = nI z.2.2.1 ∧ z.2.2.1 ≤ 8 := by
  obtain ⟨h1, h2⟩ := and_no hc
  obtain ⟨g1, g2, g3, g4⟩ := h.1 h1
  exact ⟨Nat.le_trans g4 h.2.2, h1, g2, g3⟩
theorem pst_ok {R : Bool × Nat × Nat × (Nat → Int32)} {n c : Nat} {z : Nat × Bool × Nat × (Nat → Int32)} (h : pst by1 L R n c z) (hc : (!z.2.1 && decide (tm by1 L z.1 = 21)) = false) (hb : (z.2.1 || !decide (tm by1 L z.1 = 22)) = false) : R = (true, z.1, c, z.2.2.2) := by
  rw [Bool.or_eq_false_iff] at hb
  have h22 : decide (tm by1 L z.1 = 22) = true := by
    have := hb.2
    cases q : decide (tm by1 L z.1 = 22)
    · rw [q] at this; cases this
    · rfl
  have h21 : decide (tm by1 L z.1 = 21) = false := decide_eq_false (by rw [of_decide_eq_true h22]; decide)
  obtain ⟨g1, -⟩ := h.1 hb.1
  rw [g1, h21, h22]; rfl
theorem pst_bad {R : Bool × Nat × Nat × (Nat → Int32)} {n c : Nat} {z : Nat × Bool × Nat × (Nat → Int32)} (h : pst by1 L R n c z) (hc : (!z.2.1 && decide (tm by1 L z.1 = 21)) = false) (hb : (z.2.1 || !decide (tm by1 L z.1 = 22)) = true) : R.1 = false ∧ R.2.1 = z.1 := by
  cases e : z.2.1
  · rw [e] at hb hc
    have h22 : decide (tm by1 L z.1 = 22) = false := by
      cases q : decide (tm by1 L z.1 = 22)
      · rfl
      · rw [q] at hb; cases hb
    have h21 : decide (tm by1 L z.1 = 21) = false := hc
    obtain ⟨g1, -⟩ := h.1 e
    rw [g1, h21, h22]; exact ⟨rfl, rfl⟩
  · exact h.2.1 e
end TW
