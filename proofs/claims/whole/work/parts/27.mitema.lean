/-! the reference's tape: items, a text -/
section MI
variable {by1 : Nat → Int32} {L p P : Nat} {bd : Bool} {w a b t : Int32}
def ps (by1 : Nat → Int32) (L p : Nat) (bd : Bool) (w : Int32) : Nat := bif (!bd && decide (tm by1 L p = w)) then nxt by1 L p else p
theorem ps_t (h : (!bd && decide (tm by1 L p = w)) = true) : ps by1 L p bd w = nxt by1 L p := by unfold ps; rw [h]; rfl
theorem ps_f (h : (!bd && decide (tm by1 L p = w)) = false) : ps by1 L p bd w = p := by unfold ps; rw [h]; rfl
def nmB (by1 : Nat → Int32) (L p : Nat) (bd : Bool) (a b : Int32) : Bool := bd || !nm by1 L p a b
def pn (by1 : Nat → Int32) (L p : Nat) (bd : Bool) (a b : Int32) : Nat := bif nmB by1 L p bd a b then p else nxt by1 L p
theorem pn_t (h : nmB by1 L p bd a b = true) : pn by1 L p bd a b = p := by unfold pn; rw [h]; rfl
theorem pn_f (h : nmB by1 L p bd a b = false) : pn by1 L p bd a b = nxt by1 L p := by unfold pn; rw [h]; rfl
theorem pn_le (h : p ≤ L) : pn by1 L p bd a b ≤ L := by
  have := nxt_rng (by1 := by1) h
  unfold pn; cases nmB by1 L p bd a b
  · exact this.2.1
  · exact h
theorem nb_t (e : nm by1 L p a b = false) : nmB by1 L p false a b = true := by unfold nmB; rw [e]; rfl
theorem nb_f (e : nm by1 L p a b = true) : nmB by1 L p false a b = false := by unfold nmB; rw [e]; rfl
theorem pimM_b (hP : P < 8) (h : (decide (tm by1 L (nxt by1 L p) = 6) && nmB by1 L (nxt by1 L (nxt by1 L p)) false 0 29) = true) : pim by1 L p P t = (false, (bif decide (tm by1 L (nxt by1 L p) = 6) then pn by1 L (nxt by1 L (nxt by1 L p)) false 0 29 else nxt by1 L p), 0, 0, 0) := by
  rw [Bool.and_eq_true] at h
  have e : nm by1 L (nxt by1 L (nxt by1 L p)) 0 29 = false := by
    cases q : nm by1 L (nxt by1 L (nxt by1 L p)) 0 29
    · rfl
    · rw [nb_f q] at h; exact absurd h.2 (by decide)
  rw [pim_bad hP h.1 e, h.1, cond_true, pn_t h.2]
theorem pimM_o (hP : P < 8) (h : (decide (tm by1 L (nxt by1 L p) = 6) && nmB by1 L (nxt by1 L (nxt by1 L p)) false 0 29) = false) : pim by1 L p P t = (true, (bif decide (tm by1 L (nxt by1 L p) = 6) then pn by1 L (nxt by1 L (nxt by1 L p)) false 0 29 else nxt by1 L p), t, (bif decide (tm by1 L (nxt by1 L p) = 6) then vm by1 L (nxt by1 L (nxt by1 L p)) else 0), 0) := by
  cases e6 : decide (tm by1 L (nxt by1 L p) = 6)
  · rw [pim_no hP e6]; rfl
  · rw [e6, Bool.true_and] at h
    have e : nm by1 L (nxt by1 L (nxt by1 L p)) 0 29 = true := by
      cases q : nm by1 L (nxt by1 L (nxt by1 L p)) 0 29
      · rw [nb_t q] at h; cases h
      · rfl
    rw [pim_ok hP e6 e, pn_f h]; rfl
def nimQ (by1 : Nat → Int32) (L q : Nat) : Bool × Nat × IT := bif nm by1 L q 0 29 then (bif nm by1 L (nxt by1 L q) 0 20 then (true, nxt by1 L (nxt by1 L q), 7, vm by1 L q, vm by1 L (nxt by1 L q)) else (false, nxt by1 L q, 0, 0, 0)) else (false, q, 0, 0, 0)
theorem hI_o (h : nmB by1 L (pn by1 L p false 0 29) (nmB by1 L p false 0 29) 0 20 = false) : nm by1 L p 0 29 = true ∧ pn by1 L p false 0 29 = nxt by1 L p ∧ nm by1 L (nxt by1 L p) 0 20 = true := by
  unfold nmB at h
  rw [Bool.or_eq_false_iff, Bool.or_eq_false_iff] at h
  have h1 : nm by1 L p 0 29 = true := by
    have := h.1.2
    cases q : nm by1 L p 0 29
    · rw [q] at this; cases this
    · rfl
  have h2 : pn by1 L p false 0 29 = nxt by1 L p := pn_f (nb_f h1)
  refine ⟨h1, h2, ?_⟩
  have h3 : (!nm by1 L (pn by1 L p false 0 29) 0 20) = false := h.2
  rw [h2] at h3
  cases q : nm by1 L (nxt by1 L p) 0 20
  · rw [q] at h3; cases h3
  · rfl
theorem hI_k (h : nmB by1 L (pn by1 L p false 0 29) (nmB by1 L p false 0 29) 0 20 = false) : nimQ by1 L p = (true, pn by1 L (pn by1 L p false 0 29) (nmB by1 L p false 0 29) 0 20, 7, vm by1 L p, vm by1 L (pn by1 L p false 0 29)) := by
  obtain ⟨h1, h2, h3⟩ := hI_o h
  rw [pn_f h, h2]
  unfold nimQ; rw [h1, h3]; rfl
theorem hI_b (h : nmB by1 L (pn by1 L p false 0 29) (nmB by1 L p false 0 29) 0 20 = true) : nimQ by1 L p = (false, pn by1 L (pn by1 L p false 0 29) (nmB by1 L p false 0 29) 0 20, 0, 0, 0) := by
  rw [pn_t h]
  cases e : nm by1 L p 0 29
  · rw [pn_t (nb_t e)]; unfold nimQ; rw [e]; rfl
  · rw [nb_f e, pn_f (nb_f e)] at h
    have e2 : nm by1 L (nxt by1 L p) 0 20 = false := by
      cases q : nm by1 L (nxt by1 L p) 0 20
      · rfl
      · rw [nb_f q] at h; cases h
    rw [pn_f (nb_f e)]; unfold nimQ; rw [e, e2]; rfl
theorem itm_pp (h : ¬ 5 < tm by1 L p) : itm by1 L p P = pim by1 L p P (tm by1 L p) := if_pos (by rw [i32_lt] at h; rw [i32_le]; omega)
theorem gt_nle {x : Int32} (h : 5 < x) : ¬ x ≤ 5 := by rw [i32_lt] at h; rw [i32_le]; omega
theorem itm_M7 (h : 5 < tm by1 L p) (h7 : (!false && decide (tm by1 L p = 7)) = true) : itm by1 L p P = nimQ by1 L (nxt by1 L p) := by
  have h7 : decide (tm by1 L p = 7) = true := h7
  unfold itm; rw [if_neg (gt_nle h), h7]; rfl
theorem itm_Mh (h : 5 < tm by1 L p) (h7 : (!false && decide (tm by1 L p = 7)) = false) : itm by1 L p P = him by1 L p := itm_big (gt_nle h) (of_decide_eq_false h7)
end MI
def apM (m : Nat → Int32) (it : IT) : Nat → Int32 :=
  if it.1 ≤ 5 then pu (pu (pu (pu (pu (upd m 4 (nI (ix (m 4) + 1))) (ix (m 4)) 0 it.1) (ix (m 4)) 1 it.2.1) (ix (m 4)) 2 0) (ix (m 4)) 3 0) (ix (m 4)) 4 0
  else if it.1 = 7 then upd m (5 + ix it.2.1) it.2.2 else if it.1 = 8 then upd m 1 it.2.1 else if it.1 = 9 then upd m 2 it.2.1 else upd m 3 it.2.1
theorem ix_nI {n : Nat} (h : n < 2 ^ 31) : ix (nI n) = n := nI_clamp h
theorem apM_p {m : Nat → Int32} {P : Nat} {t x y : Int32} (h : t ≤ 5) (hm4 : m 4 = nI P) (hP : P ≤ 8) : apM m (t, x, y) = pu (pu (pu (pu (pu (upd m 4 (nI (P + 1))) P 0 t) P 1 x) P 2 0) P 3 0) P 4 0 := by
  have e : ix (m 4) = P := by rw [hm4]; exact ix_nI (by omega)
  refine (if_pos h).trans ?_
  rw [e]
theorem apM_7 {m : Nat → Int32} {x y : Int32} : apM m (7, x, y) = upd m (5 + ix x) y := (if_neg (show ¬ (7 : Int32) ≤ 5 by decide)).trans (if_pos rfl)
theorem apM_8 {m : Nat → Int32} {x y : Int32} : apM m (8, x, y) = upd m 1 x := (if_neg (show ¬ (8 : Int32) ≤ 5 by decide)).trans ((if_neg (show ¬ (8 : Int32) = 7 by decide)).trans (if_pos rfl))
theorem apM_9 {m : Nat → Int32} {x y : Int32} : apM m (9, x, y) = upd m 2 x := (if_neg (show ¬ (9 : Int32) ≤ 5 by decide)).trans ((if_neg (show ¬ (9 : Int32) = 7 by decide)).trans ((if_neg (show ¬ (9 : Int32) = 8 by decide)).trans (if_pos rfl)))
theorem apM_10 {m : Nat → Int32} {x y : Int32} : apM m (10, x, y) = upd m 3 x := (if_neg (show ¬ (10 : Int32) ≤ 5 by decide)).trans ((if_neg (show ¬ (10 : Int32) = 7 by decide)).trans ((if_neg (show ¬ (10 : Int32) = 8 by decide)).trans (if_neg (show ¬ (10 : Int32) = 9 by decide))))
theorem c_X4_reads_t (l : Launch) (E : gE) (h : Nat) (qm : Nat) (qk : Nat) (qw : Nat) (kp : Bool) (qf : Nat) (qt : Nat) (L : Nat) (qbi : Nat) (qsi : Nat) (qce : Nat) (by1 : Nat → Int32) (p : Nat) (bd : Bool) (hL : L ≤ 120) (hpL : p ≤ L) : gV l yX4_reads wsX4_reads ({ frames := 2, cells := 0, slots := 0, locals := 46 }) E [(h, .inr (4, [.ref qm, .ref qk, .ref qw, .int (bi kp), .ref qf, .ref qt, .int (nI L), .int (tm by1 L p), .int (nI p), .int (nI (tq by1 L p)), .int (vm by1 L p), .int (bi bd), .ref qbi, .ref qsi, .ref qce])), (qt, .inl (eI E, 120, .inl by1))] (fun _ : Unit => [(h, .inr (4, [.ref qm, .ref qk, .ref qw, .int (bi kp), .ref qf, .ref qt, .int (nI L), .int (tm by1 L (nxt by1 L p)), .int (nI (nxt by1 L p)), .int (nI (tq by1 L (nxt by1 L p))), .int (vm by1 L (nxt by1 L p)), .int (bi bd), .ref qbi, .ref qsi, .ref qce])), (qt, .inl (eI E, 120, .inl by1))]) [.ref h] (fun (_ : Unit) => True) :=
  c_X4_reads l E h qm qk qw kp qf qt L qbi qsi qce (tm by1 L p) (nI p) (vm by1 L p) (bi bd) by1 (tq by1 L p) hL (tq_rng hpL).2.1
