/-! the class's tape: items, a text -/
/-- of a Town: four, wide, pace, people, who was in it, noises, kinds, places, quiets, catchings -/
abbrev TS : Type := Int32 × Int32 × Int32 × Nat × Int32 × (Nat → Int32) × (Nat → Int32) × (Nat → Int32) × (Nat → Int32) × (Nat → Int32)
def apC (s : TS) (it : IT) : TS :=
  if it.1 ≤ 5 then (s.1, s.2.1, s.2.2.1, s.2.2.2.1 + 1, s.2.2.2.2.1 &&& ((1 <<< (nI s.2.2.2.1 &&& 31)) ^^^ (-1)), s.2.2.2.2.2.1, upd s.2.2.2.2.2.2.1 s.2.2.2.1 it.1, upd s.2.2.2.2.2.2.2.1 s.2.2.2.1 it.2.1, upd s.2.2.2.2.2.2.2.2.1 s.2.2.2.1 0, upd s.2.2.2.2.2.2.2.2.2 s.2.2.2.1 0)
  else if it.1 = 7 then (s.1, s.2.1, s.2.2.1, s.2.2.2.1, s.2.2.2.2.1, upd s.2.2.2.2.2.1 (ix it.2.1) it.2.2, s.2.2.2.2.2.2)
  else if it.1 = 8 then (it.2.1, s.2) else if it.1 = 9 then (s.1, it.2.1, s.2.2) else (s.1, s.2.1, it.2.1, s.2.2.2)
def stC (s : TS) (r : Bool × Nat × IT) : TS := bif r.1 then apC s r.2.2 else s
theorem stC_t (s : TS) (q : Nat) (it : IT) : stC s (true, q, it) = apC s it := rfl
theorem stC_f (s : TS) (q : Nat) (it : IT) : stC s (false, q, it) = s := rfl
theorem stC_eq {s : TS} {r : Bool × Nat × IT} (h : r.1 = true) : stC s r = apC s r.2.2 := by unfold stC; rw [h]; rfl
theorem apC_p {fo wi sp wa : Int32} {P : Nat} {no ki pl qu ca : Nat → Int32} {t x y : Int32} (h : t ≤ 5) : apC (fo, wi, sp, P, wa, no, ki, pl, qu, ca) (t, x, y) = (fo, wi, sp, P + 1, wa &&& ((1 <<< (nI P &&& 31)) ^^^ (-1)), no, upd ki P t, upd pl P x, upd qu P 0, upd ca P 0) := if_pos h
theorem apC_7 {fo wi sp wa : Int32} {P : Nat} {no ki pl qu ca : Nat → Int32} {x y : Int32} : apC (fo, wi, sp, P, wa, no, ki, pl, qu, ca) (7, x, y) = (fo, wi, sp, P, wa, upd no (ix x) y, ki, pl, qu, ca) := (if_neg (show ¬ (7 : Int32) ≤ 5 by decide)).trans (if_pos rfl)
theorem apC_8 {fo wi sp wa : Int32} {P : Nat} {no ki pl qu ca : Nat → Int32} {x y : Int32} : apC (fo, wi, sp, P, wa, no, ki, pl, qu, ca) (8, x, y) = (x, wi, sp, P, wa, no, ki, pl, qu, ca) := (if_neg (show ¬ (8 : Int32) ≤ 5 by decide)).trans ((if_neg (show ¬ (8 : Int32) = 7 by decide)).trans (if_pos rfl))
theorem apC_9 {fo wi sp wa : Int32} {P : Nat} {no ki pl qu ca : Nat → Int32} {x y : Int32} : apC (fo, wi, sp, P, wa, no, ki, pl, qu, ca) (9, x, y) = (fo, x, sp, P, wa, no, ki, pl, qu, ca) := (if_neg (show ¬ (9 : Int32) ≤ 5 by decide)).trans ((if_neg (show ¬ (9 : Int32) = 7 by decide)).trans ((if_neg (show ¬ (9 : Int32) = 8 by decide)).trans (if_pos rfl)))
theorem apC_10 {fo wi sp wa : Int32} {P : Nat} {no ki pl qu ca : Nat → Int32} {x y : Int32} : apC (fo, wi, sp, P, wa, no, ki, pl, qu, ca) (10, x, y) = (fo, wi, x, P, wa, no, ki, pl, qu, ca) := (if_neg (show ¬ (10 : Int32) ≤ 5 by decide)).trans ((if_neg (show ¬ (10 : Int32) = 7 by decide)).trans ((if_neg (show ¬ (10 : Int32) = 8 by decide)).trans (if_neg (show ¬ (10 : Int32) = 9 by decide))))
section ITEMS
variable {by1 : Nat → Int32} {L p P : Nat} {t a b : Int32}
theorem pim_full (h : ¬ P < 8) (hP : P ≤ 8) : pim by1 L p P t = (false, p, 0, 0, 0) := if_pos (by omega)
theorem pim_no (hP : P < 8) (h : decide (tm by1 L (nxt by1 L p) = 6) = false) : pim by1 L p P t = (true, nxt by1 L p, t, 0, 0) := by
  unfold pim; rw [if_neg (by omega), h]; rfl
theorem pim_bad (hP : P < 8) (h : decide (tm by1 L (nxt by1 L p) = 6) = true) (h2 : nm by1 L (nxt by1 L (nxt by1 L p)) 0 29 = false) : pim by1 L p P t = (false, nxt by1 L (nxt by1 L p), 0, 0, 0) := by
  unfold pim; rw [if_neg (by omega), h, h2]; rfl
theorem pim_ok (hP : P < 8) (h : decide (tm by1 L (nxt by1 L p) = 6) = true) (h2 : nm by1 L (nxt by1 L (nxt by1 L p)) 0 29 = true) : pim by1 L p P t = (true, nxt by1 L (nxt by1 L (nxt by1 L p)), t, vm by1 L (nxt by1 L (nxt by1 L p)), 0) := by
  unfold pim; rw [if_neg (by omega), h, h2]; rfl
theorem nim_b1 (h : nm by1 L (nxt by1 L p) 0 29 = false) : nim by1 L p = (false, nxt by1 L p, 0, 0, 0) := by
  unfold nim; rw [h]; rfl
theorem nim_b2 (h : nm by1 L (nxt by1 L p) 0 29 = true) (h2 : nm by1 L (nxt by1 L (nxt by1 L p)) 0 20 = false) : nim by1 L p = (false, nxt by1 L (nxt by1 L p), 0, 0, 0) := by
  unfold nim; rw [h, h2]; rfl
theorem nim_ok (h : nm by1 L (nxt by1 L p) 0 29 = true) (h2 : nm by1 L (nxt by1 L (nxt by1 L p)) 0 20 = true) : nim by1 L p = (true, nxt by1 L (nxt by1 L (nxt by1 L p)), 7, vm by1 L (nxt by1 L p), vm by1 L (nxt by1 L (nxt by1 L p))) := by
  unfold nim; rw [h, h2]; rfl
theorem him_8 (h : decide (tm by1 L p = 8) = true) : him by1 L p = him1 by1 L p 8 0 99 := by unfold him; rw [h]; rfl
theorem him_9 (h : decide (tm by1 L p = 8) = false) (h1 : decide (tm by1 L p = 9) = true) : him by1 L p = him1 by1 L p 9 0 10 := by unfold him; rw [h, h1]; rfl
theorem him_10 (h : decide (tm by1 L p = 8) = false) (h1 : decide (tm by1 L p = 9) = false) (h2 : decide (tm by1 L p = 10) = true) : him by1 L p = him1 by1 L p 10 1 5 := by unfold him; rw [h, h1, h2]; rfl
theorem him_no (h : decide (tm by1 L p = 8) = false) (h1 : decide (tm by1 L p = 9) = false) (h2 : decide (tm by1 L p = 10) = false) : him by1 L p = (false, p, 0, 0, 0) := by unfold him; rw [h, h1, h2]; rfl
theorem him1_b (h : nm by1 L (nxt by1 L p) a b = false) : him1 by1 L p t a b = (false, nxt by1 L p, 0, 0, 0) := by unfold him1; rw [h]; rfl
theorem him1_ok (h : nm by1 L (nxt by1 L p) a b = true) : him1 by1 L p t a b = (true, nxt by1 L (nxt by1 L p), t, vm by1 L (nxt by1 L p), 0) := by unfold him1; rw [h]; rfl
theorem itm_big (h : ¬ tm by1 L p ≤ 5) (h7 : ¬ tm by1 L p = 7) : itm by1 L p P = him by1 L p := by
  unfold itm; rw [if_neg h, decide_eq_false h7]; rfl
theorem itm_n0 (h : ¬ ts by1 L p = 0) : itm by1 L p P = (false, p, 0, 0, 0) := by
  have hc : ¬ tm by1 L p ≤ 5 ∧ ¬ tm by1 L p = 7 ∧ ¬ tm by1 L p = 8 ∧ ¬ tm by1 L p = 9 ∧ ¬ tm by1 L p = 10 := by
    rcases ts_n0 h with e | e | e | e <;> rw [e] <;> decide
  rw [itm_big hc.1 hc.2.1]
  exact him_no (decide_eq_false hc.2.2.1) (decide_eq_false hc.2.2.2.1) (decide_eq_false hc.2.2.2.2)
theorem itm_p {i : Nat} (hi : i < 6) (h : decide (tm by1 L p = nI i) = true) : itm by1 L p P = pim by1 L p P (nI i) := by
  have e := of_decide_eq_true h
  unfold itm
  rw [e, if_pos (show nI i ≤ 5 from nI_le (show i ≤ 5 by omega) (by decide))]
theorem tm_gt5 (hno : ∀ k, k < 6 → ¬ tm by1 L p = nI k) : ¬ tm by1 L p ≤ 5 := by
  intro h
  have h0 : ∀ k : Nat, k < 11 → tm by1 L p = nI k → False := fun k hk e => by
    rw [e] at h
    have : k ≤ 5 := (nI_leI (by omega) (by decide)).mp (show nI k ≤ nI 5 from h)
    exact hno k (by omega) e
  by_cases c : ts by1 L p = 0
  · obtain ⟨h1, h2⟩ := ts_0 c
    have h3 : tm by1 L p = tmW by1 p (tq by1 L p - p) := by unfold tm; rw [if_pos h1, h2]; rfl
    rcases tmW_cases by1 p (tq by1 L p - p) with ⟨k, hk, e⟩ | e
    · exact h0 k hk (h3.trans e)
    · rw [h3, e] at h; exact absurd h (by decide)
  · rcases ts_n0 c with e | e | e | e <;> rw [e] at h <;> exact absurd h (by decide)
theorem itm_7 (hno : ∀ k, k < 6 → ¬ tm by1 L p = nI k) (h : decide (tm by1 L p = 7) = true) : itm by1 L p P = nim by1 L p := by
  unfold itm; rw [if_neg (tm_gt5 hno), h]; rfl
theorem itm_h (hno : ∀ k, k < 6 → ¬ tm by1 L p = nI k) (h : decide (tm by1 L p = 7) = false) : itm by1 L p P = him by1 L p := itm_big (tm_gt5 hno) (of_decide_eq_false h)
end ITEMS
theorem c_X1_step_t (l : Launch) (E : gE) (tp : Nat) (qb : Nat) (L : Nat) (it1_ : Int32) (va1 : Int32) (by1 : Nat → Int32) (p : Nat) (hL : L ≤ 120) (hpL : p ≤ L) : gV l yX1_step wsX1_step ({ frames := 2, cells := 0, slots := 0, locals := 47 }) E [(tp, .inr (1, [.ref qb, .int (nI L), .int it1_, .int (nI p), .int (nI (tq by1 L p)), .int (ts by1 L p), .int va1])), (qb, .inl (eI E, 120, .inl by1))] (fun _ : Unit => [(tp, .inr (1, [.ref qb, .int (nI L), .int it1_, .int (nI (nxt by1 L p)), .int (nI (tq by1 L (nxt by1 L p))), .int (ts by1 L (nxt by1 L p)), .int (vn by1 L (nxt by1 L p) va1)])), (qb, .inl (eI E, 120, .inl by1))]) [.ref tp] (fun (_ : Unit) => True) :=
  c_X1_step l E tp qb L it1_ (nI p) (ts by1 L p) va1 by1 (tq by1 L p) hL (tq_rng hpL).2.1
