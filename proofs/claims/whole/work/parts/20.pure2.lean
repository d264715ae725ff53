/-! class and reference reckon the same: scalars (rows fb_ out of kit/laws/COUNTS.to-paste) -/
theorem fb_rng (x : Int32) : -2147483648 ≤ x.toInt ∧ x.toInt < 2147483648 := by
  have h1 := Int32.le_toInt x
  have h2 := Int32.toInt_lt x
  omega
theorem fb_bmod {z : Int} (h1 : -2147483648 ≤ z) (h2 : z < 2147483648) : z.bmod (2 ^ 32) = z := by
  rw [Int.bmod_eq_of_le (by omega) (by omega)]
theorem fb_addI {x y : Int32} (h1 : -2147483648 ≤ x.toInt + y.toInt) (h2 : x.toInt + y.toInt < 2147483648) : (x + y).toInt = x.toInt + y.toInt := by
  rw [Int32.toInt_add, fb_bmod h1 h2]
theorem fb_subI {x y : Int32} (h1 : -2147483648 ≤ x.toInt - y.toInt) (h2 : x.toInt - y.toInt < 2147483648) : (x - y).toInt = x.toInt - y.toInt := by
  rw [Int32.toInt_sub, fb_bmod h1 h2]
theorem fb_mulI {x y : Int32} (h1 : -2147483648 ≤ x.toInt * y.toInt) (h2 : x.toInt * y.toInt < 2147483648) : (x * y).toInt = x.toInt * y.toInt := by
  rw [Int32.toInt_mul, fb_bmod h1 h2]
/-- numbers of a street as they can be -/
def Bs (mi fo wi sp : Int32) : Prop := 0 ≤ mi.toInt ∧ mi.toInt < 1000000 ∧ 0 ≤ fo.toInt ∧ fo.toInt ≤ 99 ∧ 0 ≤ wi.toInt ∧ wi.toInt ≤ 10 ∧ 1 ≤ sp.toInt ∧ sp.toInt ≤ 5
theorem i32_lt {a b : Int32} : a < b ↔ a.toInt < b.toInt := Int32.lt_iff_toInt_lt
theorem i32_le {a b : Int32} : a ≤ b ↔ a.toInt ≤ b.toInt := Int32.le_iff_toInt_le
theorem i32_eq {a b : Int32} : a = b ↔ a.toInt = b.toInt := Int32.toInt_inj.symm
theorem day_int {x : Int32} (h : 0 ≤ x.toInt) : (day x).toInt = x.toInt % 100 := by
  have e := nI_ix h
  have e2 := ix_int h
  have hr := (fb_rng x).2
  have h3 : day x = nI (ix x % 100) := by
    have h4 : day (nI (ix x)) = nI (ix x % 100) := pk_rem (a := ix x) (d := 100) (by omega) (by decide) (by decide)
    rw [← e] at h4
    exact h4
  rw [h3, nI_toInt (by omega)]
  omega
theorem sub_int {a b : Int32} (ha : -1000000 ≤ a.toInt) (ha2 : a.toInt ≤ 1000000) (hb : -1000000 ≤ b.toInt) (hb2 : b.toInt ≤ 1000000) : (a - b).toInt = a.toInt - b.toInt := fb_subI (by omega) (by omega)
theorem add_int {a b : Int32} (ha : -1000000 ≤ a.toInt) (ha2 : a.toInt ≤ 1000000) (hb : -1000000 ≤ b.toInt) (hb2 : b.toInt ≤ 1000000) : (a + b).toInt = a.toInt + b.toInt := fb_addI (by omega) (by omega)
theorem eg_int {mi fo wi sp : Int32} (h : Bs mi fo wi sp) : (eg mi fo sp).toInt = sp.toInt * (mi.toInt % 100 - fo.toInt) ∧ (day mi - fo).toInt = mi.toInt % 100 - fo.toInt ∧ -495 ≤ (eg mi fo sp).toInt ∧ (eg mi fo sp).toInt ≤ 495 ∧ (0 ≤ mi.toInt % 100 - fo.toInt → 0 ≤ (eg mi fo sp).toInt) := by
  obtain ⟨h1, h2, h3, h4, h5, h6, h7, h8⟩ := h
  have hd := day_int h1
  have h9 : (day mi - fo).toInt = mi.toInt % 100 - fo.toInt := by
    rw [sub_int (by omega) (by omega) (by omega) (by omega), hd]
  have hb : -495 ≤ sp.toInt * (mi.toInt % 100 - fo.toInt) ∧ sp.toInt * (mi.toInt % 100 - fo.toInt) ≤ 495 ∧ (0 ≤ mi.toInt % 100 - fo.toInt → 0 ≤ sp.toInt * (mi.toInt % 100 - fo.toInt)) := by
    have hz : -99 ≤ mi.toInt % 100 - fo.toInt ∧ mi.toInt % 100 - fo.toInt ≤ 99 := by omega
    generalize mi.toInt % 100 - fo.toInt = z at hz ⊢
    rcases (show sp.toInt = 1 ∨ sp.toInt = 2 ∨ sp.toInt = 3 ∨ sp.toInt = 4 ∨ sp.toInt = 5 by omega) with e | e | e | e | e <;> rw [e] <;> omega
  have h10 : (eg mi fo sp).toInt = sp.toInt * (mi.toInt % 100 - fo.toInt) := by
    unfold eg
    rw [fb_mulI (by rw [h9]; omega) (by rw [h9]; omega), h9]
  rw [h10]
  exact ⟨rfl, h9, hb.1, hb.2.1, hb.2.2⟩
theorem hu_eq {mi fo wi sp : Int32} (h : Bs mi fo wi sp) : hu mi fo wi sp = huM mi fo wi sp := by
  obtain ⟨e1, e2, e3, e4, -⟩ := eg_int h
  obtain ⟨h1, h2, h3, h4, h5, h6, h7, h8⟩ := h
  have hd := day_int h1
  have e5 : (eg mi fo sp - wi).toInt = (eg mi fo sp).toInt - wi.toInt := sub_int (by omega) (by omega) (by omega) (by omega)
  have e6 : (eg mi fo sp - wi + 1).toInt = (eg mi fo sp).toInt - wi.toInt + 1 := by
    rw [add_int (by omega) (by omega) (by decide) (by decide), e5]; rfl
  have q1 : (day mi - fo < 0) ↔ (day mi < fo) := by
    rw [i32_lt, i32_lt, e2, hd]; show _ < (0 : Int) ↔ _; omega
  have q2 : ((29 : Int32) ≤ eg mi fo sp - wi) ↔ ((29 : Int32) < eg mi fo sp - wi + 1) := by
    rw [i32_le, i32_lt, e5, e6]; show (29 : Int) ≤ _ ↔ (29 : Int) < _; omega
  unfold hu huM
  rw [decide_eq_decide.mpr q1, decide_eq_decide.mpr q2]
theorem hu_pos {mi fo wi sp : Int32} (h : Bs mi fo wi sp) (hh : hu mi fo wi sp = true) : 0 ≤ (eg mi fo sp).toInt ∧ ¬ eg mi fo sp = -1 := by
  obtain ⟨e1, e2, e3, e4, e5⟩ := eg_int h
  unfold hu at hh
  simp only [Bool.and_eq_true, Bool.not_eq_true', decide_eq_false_iff_not] at hh
  have h0 : ¬ (day mi - fo).toInt < 0 := fun q => hh.1 (i32_lt.mpr q)
  have h1 := e5 (by omega)
  refine ⟨h1, fun q => ?_⟩
  rw [q] at h1
  exact absurd h1 (by decide)
theorem tk_no (wi g : Int32) : tk (-1) wi g = false := by
  unfold tk
  rw [decide_eq_true (rfl : (-1 : Int32) = -1), Bool.not_true, Bool.false_and]
theorem tk_eq {mi fo wi sp : Int32} (h : Bs mi fo wi sp) (g : Int32) : tk (edC mi fo wi sp) wi g = tkM mi fo wi sp g := by
  unfold tkM edC
  rw [← hu_eq h]
  cases hh : hu mi fo wi sp
  · rw [cond_false, tk_no, Bool.false_and]
  · have := (hu_pos h hh).2
    rw [cond_true, Bool.true_and]
    unfold tk
    rw [decide_eq_false this, Bool.not_false, Bool.true_and]
theorem held_eq {a b : Int32} (hab : a ≤ b) (v : Int32) : iMax a (iMin b v) = heldM v a b := by
  unfold iMax iMin heldM
  rw [i32_le] at hab
  by_cases h1 : v < b
  · rw [if_pos h1]
    by_cases h2 : a ≤ v
    · rw [if_pos h2, if_pos (show v ≤ b by rw [i32_le]; rw [i32_lt] at h1; omega)]
      by_cases h3 : a < v
      · rw [if_pos h3]
      · rw [if_neg h3]
        rw [i32_le] at h2; rw [i32_lt] at h3
        exact i32_eq.mpr (by omega)
    · rw [if_neg h2, if_neg (show ¬ a < v by rw [i32_le] at h2; rw [i32_lt]; omega)]
  · rw [if_neg h1]
    rw [i32_lt] at h1
    rw [if_pos (show a ≤ v by rw [i32_le]; omega)]
    have e1 : (if a < b then b else a) = b := by
      by_cases h3 : a < b
      · rw [if_pos h3]
      · rw [if_neg h3]; rw [i32_lt] at h3; exact i32_eq.mpr (by omega)
    rw [e1]
    by_cases h2 : v ≤ b
    · rw [if_pos h2]; rw [i32_le] at h2; exact i32_eq.mpr (by omega)
    · rw [if_neg h2]
theorem gq_eq {mi fo wi sp : Int32} (h : Bs mi fo wi sp) (ki pl : Int32) : gqC mi wi sp ki pl (edC mi fo wi sp) = gqM mi fo wi sp ki pl := by
  have ht := tk_eq h pl
  unfold gqC gqM pgM pg
  rw [ht, ← hu_eq h]
  cases hh : hu mi fo wi sp
  · have e : edC mi fo wi sp = -1 := by unfold edC; rw [hh]; rfl
    rw [e, if_pos rfl]; rfl
  · have e : edC mi fo wi sp = eg mi fo sp := by unfold edC; rw [hh]; rfl
    rw [e, if_neg (hu_pos h hh).2, held_eq (by decide)]
    show _ = (if ki = 1 then _ else _)
    congr 1
    congr 1
    congr 1
    congr 1
    congr 1
    split
    · rfl
    · exact Int32.add_zero _
theorem ta_eq {mi fo wi sp : Int32} (h : Bs mi fo wi sp) (ki pl : Int32) : taC mi wi ki pl (edC mi fo wi sp) = taM mi fo wi sp ki pl := by
  unfold taC taM taB
  rw [tk_eq h]
  cases tkM mi fo wi sp pl
  · show (if ki = 1 then _ else _) = (if ki = 1 then _ else _)
    by_cases h1 : ki = 1
    · rw [if_pos h1, if_pos h1]
      have : rg mi ki = false := by unfold rg; rw [h1]; rfl
      rw [this]; rfl
    · rw [if_neg h1, if_neg h1]
      congr 1
      congr 1
      congr 1
      cases rg mi ki <;> rfl
  · rfl
