def okM (a2 a4 a5 : Int32) (Z Z2 : Nat) : Bool := !decide (a5 < 0) && (!decide (a2 < 0) && (!decide (a4 < 0) && (!decide (nI Z - a2 < a5) && !decide (nI Z2 - a4 < a5))))
def ncM (a1 b a2 : Int32) (Z : Nat) (a3 b2 a4 : Int32) (Z2 : Nat) (a5 : Int32) : Int32 := if inR a1 0 3 = true ∧ inR a3 0 3 = true then (if b = 0 ∨ b2 = 0 then -1000000006 else if b = b2 then (if okM a2 a4 a5 Z Z2 = true then 0 else -1000000001) else -1000000003) else -1000000001
def ncK (a1 b a3 b2 : Int32) : Nat := if inR a1 0 3 = true ∧ inR a3 0 3 = true then (if b = 0 ∨ b2 = 0 then 5 else if b = b2 then 0 else 2) else 0
theorem nc_k {a1 b a2 a3 b2 a4 a5 : Int32} {Z Z2 : Nat} (h : ¬ ncM a1 b a2 Z a3 b2 a4 Z2 a5 = 0) : (-1000000001) - ncM a1 b a2 Z a3 b2 a4 Z2 a5 = nI (ncK a1 b a3 b2) ∧ ncK a1 b a3 b2 < 7 := by
  unfold ncM ncK at *
  by_cases h1 : inR a1 0 3 = true ∧ inR a3 0 3 = true
  · rw [if_pos h1] at h ⊢
    rw [if_pos h1]
    by_cases h2 : b = 0 ∨ b2 = 0
    · rw [if_pos h2, if_pos h2]; decide +kernel
    · rw [if_neg h2] at h ⊢
      rw [if_neg h2]
      by_cases h3 : b = b2
      · rw [if_pos h3] at h ⊢
        rw [if_pos h3]
        by_cases h4 : okM a2 a4 a5 Z Z2 = true
        · rw [if_pos h4] at h; exact absurd rfl h
        · rw [if_neg h4]; decide +kernel
      · rw [if_neg h3, if_neg h3]; decide +kernel
  · rw [if_neg h1, if_neg h1]; decide +kernel
theorem nc_0 {a1 b a2 a3 b2 a4 a5 : Int32} {Z Z2 : Nat} (h : ncM a1 b a2 Z a3 b2 a4 Z2 a5 = 0) : inR a1 0 3 = true ∧ inR a3 0 3 = true ∧ ¬ b = 0 ∧ b = b2 ∧ okM a2 a4 a5 Z Z2 = true := by
  unfold ncM at h
  by_cases h1 : inR a1 0 3 = true ∧ inR a3 0 3 = true
  · rw [if_pos h1] at h
    by_cases h2 : b = 0 ∨ b2 = 0
    · rw [if_pos h2] at h; exact absurd h (by decide +kernel)
    · rw [if_neg h2] at h
      by_cases h3 : b = b2
      · rw [if_pos h3] at h
        by_cases h4 : okM a2 a4 a5 Z Z2 = true
        · exact ⟨h1.1, h1.2, fun q => h2 (Or.inl q), h3, h4⟩
        · rw [if_neg h4] at h; exact absurd h (by decide +kernel)
      · rw [if_neg h3] at h; exact absurd h (by decide +kernel)
  · rw [if_neg h1] at h; exact absurd h (by decide +kernel)
theorem sub_ge {Z : Nat} {f n : Int32} (hZ : Z ≤ 40) (hf : 0 ≤ f.toInt) : (nI Z - f).toInt = (Z : Int) - f.toInt := by
  have hz : (nI Z).toInt = Z := nI_toInt (by omega)
  have h2 := Int32.toInt_lt f
  rw [Int32.toInt_sub, hz]
  exact Int.bmod_eq_of_le (by omega) (by omega)
theorem okM_of {a2 a4 a5 : Int32} {Z Z2 : Nat} (h : okM a2 a4 a5 Z Z2 = true) (hZ : Z ≤ 40) (hZ2 : Z2 ≤ 40) : a2 = nI (ix a2) ∧ a4 = nI (ix a4) ∧ a5 = nI (ix a5) ∧ ix a2 + ix a5 ≤ Z ∧ ix a4 + ix a5 ≤ Z2 := by
  unfold okM at h
  simp only [Bool.and_eq_true, Bool.not_eq_true', decide_eq_false_iff_not, Int32.lt_iff_toInt_lt, Int.not_lt] at h
  obtain ⟨h1, h2, h3, h4, h5⟩ := h
  have z0 : (0 : Int32).toInt = 0 := by decide
  rw [z0] at h1 h2 h3
  rw [sub_ge (n := 0) hZ h2] at h4
  rw [sub_ge (n := 0) hZ2 h3] at h5
  have i1 := ix_int h1
  have i2 := ix_int h2
  have i3 := ix_int h3
  exact ⟨nI_ix h2, nI_ix h3, nI_ix h1, by omega, by omega⟩
def cpI (f t n i : Nat) : Nat := if f < t then n - 1 - i else i
theorem cpI_b {f t n i : Nat} (h : i < n) : cpI f t n i < n := by unfold cpI; split <;> omega
theorem cpI_ge {f t n i : Nat} (h : nI t ≤ nI f) (hf : f ≤ 40) (ht : t ≤ 40) : nI i = nI (cpI f t n i) := by
  unfold cpI
  rw [if_neg (Nat.not_lt.mpr ((nI_leI (by omega) (by omega)).mp h))]
theorem cpI_lt {f t n i : Nat} (h : ¬ nI t ≤ nI f) (hf : f ≤ 40) (ht : t ≤ 40) (hi : i < n) (hn : n ≤ 40) : nI n - 1 - nI i = nI (cpI f t n i) := by
  unfold cpI
  rw [if_pos (Nat.lt_of_not_le (fun q => h (nI_le q (by omega))))]
  obtain ⟨k, rfl⟩ : ∃ k, n = k + 1 := ⟨n - 1, by omega⟩
  rw [nI_pred]
  refine Int32.toInt_inj.mp ?_
  rw [pk_sub_toInt (by omega) (by omega), nI_toInt (by omega)]
  omega
theorem i402 (s f i : Nat) : (40 : Int32) * nI s + nI f + nI i = nI (40 * s + f + i) := by rw [i40, nI_add]
def cpM (ce : Nat → Int64) (f t src dst n i : Nat) : Nat → Int64 := fun q => if (if f < t then dst + (n - i) ≤ q ∧ q < dst + n else dst ≤ q ∧ q < dst + i) then ce (src + (q - dst)) else ce q
theorem cpM_0 (ce : Nat → Int64) (f t src dst n : Nat) : ce = cpM ce f t src dst n 0 := funext fun q => by
  unfold cpM
  rw [if_neg (by split <;> omega)]
theorem cpM_s (ce : Nat → Int64) {f t s u n i : Nat} (hi : i < n) (hf : f + n ≤ 40) (ht : t + n ≤ 40) :
    vp_updL (cpM ce f t (40 * s + f) (40 * u + t) n i) (40 * u + t + cpI f t n i) (cpM ce f t (40 * s + f) (40 * u + t) n i (40 * s + f + cpI f t n i)) = cpM ce f t (40 * s + f) (40 * u + t) n (i + 1) := funext fun q => by
  have hr : cpM ce f t (40 * s + f) (40 * u + t) n i (40 * s + f + cpI f t n i) = ce (40 * s + f + cpI f t n i) := by
    unfold cpM cpI
    by_cases c : f < t
    · rw [if_pos c]
      exact if_neg (by rw [if_pos c]; omega)
    · rw [if_neg c]
      exact if_neg (by rw [if_neg c]; omega)
  rw [hr]
  unfold vp_updL
  by_cases e : q = 40 * u + t + cpI f t n i
  · rw [if_pos e]
    have hb := cpI_b (f := f) (t := t) hi
    unfold cpM
    rw [if_pos ?_, show q - (40 * u + t) = cpI f t n i by omega]
    unfold cpI at *
    by_cases c : f < t
    · rw [if_pos c] at *; omega
    · rw [if_neg c] at *; omega
  · rw [if_neg e]
    unfold cpM cpI at *
    by_cases c : f < t
    · rw [if_pos c] at *
      by_cases d : 40 * u + t + (n - i) ≤ q ∧ q < 40 * u + t + n
      · rw [if_pos (by rw [if_pos c]; exact d), if_pos (by rw [if_pos c]; omega)]
      · rw [if_neg (by rw [if_pos c]; exact d), if_neg (by rw [if_pos c]; omega)]
    · rw [if_neg c] at *
      by_cases d : 40 * u + t ≤ q ∧ q < 40 * u + t + i
      · rw [if_pos (by rw [if_neg c]; exact d), if_pos (by rw [if_neg c]; omega)]
      · rw [if_neg (by rw [if_neg c]; exact d), if_neg (by rw [if_neg c]; omega)]
theorem cpM_n (ce : Nat → Int64) (f t src dst n : Nat) : cpM ce f t src dst n n = va_cpy ce ce src dst n := funext fun q => by
  unfold cpM va_cpy
  by_cases c : f < t
  · rw [if_pos c, Nat.sub_self, Nat.add_zero]
  · rw [if_neg c]
def mn_copy (b : Int32) (Z : Nat) (b2 : Int32) (Z2 : Nat) (ce : Nat → Int64) (fd : Nat → Int32) (a1 a2 a3 a4 a5 : Int32) : Int32 × (Nat → Int64) × (Nat → Int32) := if ncM a1 b a2 Z a3 b2 a4 Z2 a5 = 0 then (a5, va_cpy ce ce (40 * ix a1 + ix a2) (40 * ix a3 + ix a4) (ix a5), fd) else (ncM a1 b a2 Z a3 b2 a4 Z2 a5, ce, fn fd (ncK a1 b a3 b2))
