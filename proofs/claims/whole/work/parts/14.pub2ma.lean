/-! the reference: what is tried out -/
def bsn (f : Nat → Int32) : Nat → Int32 × Int32
  | 0 => (-1, 0)
  | n + 1 => bif (decide ((bsn f n).1 < 0) || !decide ((bsn f n).2 ≤ f n)) then (nI n, f n) else bsn f n
theorem bsn_t {f : Nat → Int32} {n : Nat} (h : (decide ((bsn f n).1 < 0) || !decide ((bsn f n).2 ≤ f n)) = true) : bsn f (n + 1) = (nI n, f n) := by
  show (bif (decide ((bsn f n).1 < 0) || !decide ((bsn f n).2 ≤ f n)) then (nI n, f n) else bsn f n) = _
  rw [h]; rfl
theorem bsn_f {f : Nat → Int32} {n : Nat} (h : (decide ((bsn f n).1 < 0) || !decide ((bsn f n).2 ≤ f n)) = false) : bsn f (n + 1) = bsn f n := by
  show (bif (decide ((bsn f n).1 < 0) || !decide ((bsn f n).2 ≤ f n)) then (nI n, f n) else bsn f n) = _
  rw [h]; rfl
def qtm (f : Nat → Int32) : Nat → Int32
  | 0 => -1
  | n + 1 => nI (qtb f n)
theorem qtm_lt {f : Nat → Int32} : ∀ {i : Nat}, i ≤ 8 → qtm f i < 0 → nI i = qtm f (i + 1)
  | 0, _, _ => rfl
  | n + 1, h8, h => absurd h (nI_pos (Nat.lt_of_le_of_lt (qtb_le f n) (by omega)))
theorem qtm_ge {f : Nat → Int32} : ∀ {i : Nat}, ¬ qtm f i < 0 → qtm f i = nI (qtb f (i - 1)) ∧ 0 < i
  | 0, h => absurd (show (-1 : Int32) < 0 by decide) h
  | n + 1, _ => ⟨rfl, Nat.succ_pos n⟩
theorem qtm_y {f : Nat → Int32} {i : Nat} (h0 : 0 < i) (h : f i ≤ f (qtb f (i - 1))) : nI (qtb f (i - 1)) = qtm f (i + 1) := by
  obtain ⟨n, rfl⟩ : ∃ n, i = n + 1 := ⟨i - 1, by omega⟩
  exact (congrArg nI (qtb_yes h)).symm
theorem qtm_n {f : Nat → Int32} {i : Nat} (h0 : 0 < i) (h : ¬ f i ≤ f (qtb f (i - 1))) : nI i = qtm f (i + 1) := by
  obtain ⟨n, rfl⟩ : ∃ n, i = n + 1 := ⟨i - 1, by omega⟩
  exact (congrArg nI (qtb_no h)).symm
theorem wdv_ge {n : Nat} (h : n < 11) : 0 ≤ wdv n := by
  rw [Int32.le_iff_toInt_le]
  have e : (wdv n).toInt = (10 : Int) - n := pk_sub_toInt (a := 10) (by decide) (by omega)
  rw [e]
  show (0 : Int) ≤ 10 - n
  omega
theorem fs1_lt {p : Nat → Bool} {k : Nat} : ∀ (n i : Nat), fs1 p n i = some k → k < i + n
  | 0, i, h => by cases h
  | n + 1, i, h => by
    have h2 : (bif p i then some i else fs1 p n (i + 1)) = some k := h
    cases e : p i
    · rw [e] at h2
      have := fs1_lt n (i + 1) h2
      omega
    · rw [e] at h2
      cases h2
      omega
