section PSR
variable {by1 : Nat → Int32} {L : Nat}
theorem itm_rng {p P : Nat} (hp : p ≤ L) (h : (itm by1 L p P).1 = true) : p < (itm by1 L p P).2.1 ∧ (itm by1 L p P).2.1 ≤ L := by
  have n1 := nxt_rng (by1 := by1) hp
  have n2 := nxt_rng (by1 := by1) n1.2.1
  have n3 := nxt_rng (by1 := by1) n2.2.1
  have hpL : p < L := by
    by_cases c : p < L
    · exact c
    · have e : tm by1 L p = 22 := if_neg c
      have z : itm by1 L p P = (false, p, 0, 0, 0) := itm_n0 (by rw [(tok3 c).2.1]; decide)
      rw [z] at h; cases h
  have h1 := n1.2.2 hpL
  unfold itm at h ⊢
  by_cases c5 : tm by1 L p ≤ 5
  · rw [if_pos c5] at h ⊢
    unfold pim at h ⊢
    by_cases c8 : P = 8
    · rw [if_pos c8] at h; cases h
    · rw [if_neg c8] at h ⊢
      cases e1 : decide (tm by1 L (nxt by1 L p) = 6)
      · exact ⟨h1, n1.2.1⟩
      · rw [e1] at h
        cases e2 : nm by1 L (nxt by1 L (nxt by1 L p)) 0 29
        · rw [e2] at h; cases h
        · exact ⟨by show p < nxt by1 L (nxt by1 L (nxt by1 L p)); omega, n3.2.1⟩
  · rw [if_neg c5] at h ⊢
    cases e7 : decide (tm by1 L p = 7)
    · rw [e7] at h
      have hh : ∀ t a b, (him1 by1 L p t a b).1 = true → p < (him1 by1 L p t a b).2.1 ∧ (him1 by1 L p t a b).2.1 ≤ L := by
        intro t a b
        unfold him1
        cases nm by1 L (nxt by1 L p) a b
        · intro q; cases q
        · intro _; exact ⟨by show p < nxt by1 L (nxt by1 L p); omega, n2.2.1⟩
      have h : (him by1 L p).1 = true := h
      show p < (him by1 L p).2.1 ∧ (him by1 L p).2.1 ≤ L
      unfold him at h ⊢
      cases e8 : decide (tm by1 L p = 8)
      · rw [e8] at h
        cases e9 : decide (tm by1 L p = 9)
        · rw [e9] at h
          cases e10 : decide (tm by1 L p = 10)
          · rw [e10] at h; cases h
          · rw [e10] at h; exact hh _ _ _ h
        · rw [e9] at h; exact hh _ _ _ h
      · rw [e8] at h; exact hh _ _ _ h
    · rw [e7] at h
      have h : (nim by1 L p).1 = true := h
      show p < (nim by1 L p).2.1 ∧ (nim by1 L p).2.1 ≤ L
      unfold nim at h ⊢
      cases e1 : nm by1 L (nxt by1 L p) 0 29
      · rw [e1] at h; cases h
      · rw [e1] at h
        cases e2 : nm by1 L (nxt by1 L (nxt by1 L p)) 0 20
        · rw [e2] at h; cases h
        · exact ⟨by show p < nxt by1 L (nxt by1 L (nxt by1 L p)); omega, n3.2.1⟩
/-- what an item says, if it is one -/
def okIt (P : Nat) (it : IT) : Prop := (0 ≤ it.1.toInt ∧ it.1 ≤ 5 ∧ inR it.2.1 0 29 = true ∧ P ≠ 8) ∨ (it.1 = 7 ∧ inR it.2.1 0 29 = true ∧ inR it.2.2 0 20 = true) ∨ (it.1 = 8 ∧ inR it.2.1 0 99 = true) ∨ (it.1 = 9 ∧ inR it.2.1 0 10 = true) ∨ (it.1 = 10 ∧ inR it.2.1 1 5 = true)
theorem tm_ge0 (p : Nat) : 0 ≤ (tm by1 L p).toInt := by
  have hk : ∀ k : Nat, k < 11 → 0 ≤ (nI k).toInt := fun k hk => by rw [nI_toInt (by omega)]; omega
  by_cases c : ts by1 L p = 0
  · obtain ⟨h1, h2⟩ := ts_0 c
    have h3 : tm by1 L p = tmW by1 p (tq by1 L p - p) := by unfold tm; rw [if_pos h1, h2]; rfl
    rw [h3]
    rcases tmW_cases by1 p (tq by1 L p - p) with ⟨k, hk2, e⟩ | e
    · rw [e]; exact hk k hk2
    · rw [e]; decide
  · rcases ts_n0 c with e | e | e | e <;> rw [e] <;> decide
theorem itm_ok {p P : Nat} (h : (itm by1 L p P).1 = true) : okIt P (itm by1 L p P).2.2 := by
  unfold itm at h ⊢
  by_cases c5 : tm by1 L p ≤ 5
  · rw [if_pos c5] at h ⊢
    unfold pim at h ⊢
    by_cases c8 : P = 8
    · rw [if_pos c8] at h; cases h
    · rw [if_neg c8] at h ⊢
      cases e1 : decide (tm by1 L (nxt by1 L p) = 6)
      · exact Or.inl ⟨tm_ge0 p, c5, by show inR 0 0 29 = true; decide, c8⟩
      · rw [e1] at h
        cases e2 : nm by1 L (nxt by1 L (nxt by1 L p)) 0 29
        · rw [e2] at h; cases h
        · exact Or.inl ⟨tm_ge0 p, c5, nmr1 e2, c8⟩
  · rw [if_neg c5] at h ⊢
    cases e7 : decide (tm by1 L p = 7)
    · rw [e7] at h
      have hh : ∀ t a b, (him1 by1 L p t a b).1 = true → (him1 by1 L p t a b).2.2.1 = t ∧ inR (him1 by1 L p t a b).2.2.2.1 a b = true := by
        intro t a b
        unfold him1
        cases e : nm by1 L (nxt by1 L p) a b
        · intro q; cases q
        · intro _; exact ⟨rfl, nmr1 e⟩
      have h : (him by1 L p).1 = true := h
      show okIt P (him by1 L p).2.2
      unfold him at h ⊢
      cases e8 : decide (tm by1 L p = 8)
      · rw [e8] at h
        cases e9 : decide (tm by1 L p = 9)
        · rw [e9] at h
          cases e10 : decide (tm by1 L p = 10)
          · rw [e10] at h; cases h
          · rw [e10] at h; exact Or.inr (Or.inr (Or.inr (Or.inr (hh _ _ _ h))))
        · rw [e9] at h; exact Or.inr (Or.inr (Or.inr (Or.inl (hh _ _ _ h))))
      · rw [e8] at h; exact Or.inr (Or.inr (Or.inl (hh _ _ _ h)))
    · rw [e7] at h
      have h : (nim by1 L p).1 = true := h
      show okIt P (nim by1 L p).2.2
      unfold nim at h ⊢
      cases e1 : nm by1 L (nxt by1 L p) 0 29
      · rw [e1] at h; cases h
      · rw [e1] at h
        cases e2 : nm by1 L (nxt by1 L (nxt by1 L p)) 0 20
        · rw [e2] at h; cases h
        · exact Or.inr (Or.inl ⟨rfl, nmr1 e1, nmr1 e2⟩)
theorem psr_f {σ : Type} {ap : σ → IT → σ} {m n b P c : Nat} {s : σ} (hm : m = n + 1) (h : (itm by1 L (skp by1 L b) P).1 = false) : psr by1 L ap m b P c s = (false, (itm by1 L (skp by1 L b) P).2.1, c, s) := by
  subst hm
  show (bif (itm by1 L (skp by1 L b) P).1 then _ else _) = _
  rw [h]; rfl
theorem psr_e {σ : Type} {ap : σ → IT → σ} {m n b P c : Nat} {s : σ} (hm : m = n + 1) (h : (itm by1 L (skp by1 L b) P).1 = true) (h2 : ¬ tm by1 L (itm by1 L (skp by1 L b) P).2.1 = 21) : psr by1 L ap m b P c s = (decide (tm by1 L (itm by1 L (skp by1 L b) P).2.1 = 22), (itm by1 L (skp by1 L b) P).2.1, c + 1, ap s (itm by1 L (skp by1 L b) P).2.2) := by
  subst hm
  show (bif (itm by1 L (skp by1 L b) P).1 then (bif decide (tm by1 L (itm by1 L (skp by1 L b) P).2.1 = 21) then _ else _) else _) = _
  rw [h, decide_eq_false h2]; rfl
theorem psr_s {σ : Type} {ap : σ → IT → σ} {m n b P c : Nat} {s : σ} (hm : m = n + 1) (h : (itm by1 L (skp by1 L b) P).1 = true) (h2 : tm by1 L (itm by1 L (skp by1 L b) P).2.1 = 21) : psr by1 L ap m b P c s = psr by1 L ap n (tq by1 L (itm by1 L (skp by1 L b) P).2.1) (P + (if (itm by1 L (skp by1 L b) P).2.2.1 ≤ 5 then 1 else 0)) (c + 1) (ap s (itm by1 L (skp by1 L b) P).2.2) := by
  subst hm
  show (bif (itm by1 L (skp by1 L b) P).1 then (bif decide (tm by1 L (itm by1 L (skp by1 L b) P).2.1 = 21) then _ else _) else _) = _
  rw [h, decide_eq_true h2]; rfl
theorem apC_P (s : TS) (it : IT) : (apC s it).2.2.2.1 = s.2.2.2.1 + (if it.1 ≤ 5 then 1 else 0) := by
  unfold apC
  by_cases c : it.1 ≤ 5
  · rw [if_pos c, if_pos c]
  · rw [if_neg c, if_neg c]
    by_cases c7 : it.1 = 7
    · rw [if_pos c7]; rfl
    · rw [if_neg c7]
      by_cases c8 : it.1 = 8
      · rw [if_pos c8]; rfl
      · rw [if_neg c8]
        by_cases c9 : it.1 = 9
        · rw [if_pos c9]; rfl
        · rw [if_neg c9]; rfl
theorem psC_s {m n b c : Nat} {s : TS} (hm : m = n + 1) (h : (itm by1 L (skp by1 L b) s.2.2.2.1).1 = true) (h2 : tm by1 L (itm by1 L (skp by1 L b) s.2.2.2.1).2.1 = 21) : psr by1 L apC m b s.2.2.2.1 c s = psr by1 L apC n (tq by1 L (itm by1 L (skp by1 L b) s.2.2.2.1).2.1) (stC s (itm by1 L (skp by1 L b) s.2.2.2.1)).2.2.2.1 (c + 1) (stC s (itm by1 L (skp by1 L b) s.2.2.2.1)) := by
  rw [psr_s hm h h2, stC_eq h, apC_P]
theorem stC_8 {s : TS} {p : Nat} (hP : s.2.2.2.1 ≤ 8) : (stC s (itm by1 L p s.2.2.2.1)).2.2.2.1 ≤ 8 := by
  cases e : (itm by1 L p s.2.2.2.1).1
  · unfold stC; rw [e]; exact hP
  · rw [stC_eq e, apC_P]
    rcases itm_ok e with h | h | h | h | h
    · have := h.2.2.2
      rw [if_pos h.2.1]; omega
    · rw [h.1, if_neg (by decide)]; omega
    · rw [h.1, if_neg (by decide)]; omega
    · rw [h.1, if_neg (by decide)]; omega
    · rw [h.1, if_neg (by decide)]; omega
end PSR
