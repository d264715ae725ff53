def okM (a2 a4 a5 : Int32) (Z Z2 : Nat) : Bool := !decide (a5 < 0) && (!decide (a2 < 0) && (!decide (a4 < 0) && (!decide (nI Z - a2 < a5) && !decide (nI Z2 - a4 < a5))))
def ncM (a1 b a2 : Int32) (Z : Nat) (a3 b2 a4 : Int32) (Z2 : Nat) (a5 : Int32) : Int32 := if inR a1 0 3 = true ∧ inR a3 0 3 = true then (if b = 0 ∨ b2 = 0 then -1000000006 else if b = b2 then (if okM a2 a4 a5 Z Z2 = true then 0 else -1000000001) else -1000000003) else -1000000001
def ncK (a1 b a3 b2 : Int32) : Nat := if inR a1 0 3 = true ∧ inR a3 0 3 = true then (if b = 0 ∨ b2 = 0 then 5 else if b = b2 then 0 else 2) else 0
theorem nc_k {a1 b a2 a3 b2 a4 a5 : Int32} {Z Z2 : Nat} (h : ¬ ncM a1 b a2 Z a3 b2 a4 Z2 a5 = 0) : (-1000000001) - ncM a1 b a2 Z a3 b2 a4 Z2 a5 = nI (ncK a1 b a3 b2) ∧ ncK a1 b a3 b2 < 7 := by
  unfold ncM ncK at *
  by_cases h1 : inR a1 0 3 = true ∧ inR a3 0 3 = true
  · rw [if_pos h1] at h ⊢
    rw [if_pos h1]
    by_cases h2 : b = 0 ∨ b2 = 0
    · rw [if_pos h2, if_pos h2]; decide +kernel
    · rw [if_neg h2] at h ⊢
      rw [if_neg h2]
      by_cases h3 : b = b2
      · rw [if_pos h3] at h ⊢
        rw [if_pos h3]
        by_cases h4 : okM a2 a4 a5 Z Z2 = true
        · rw [if_pos h4] at h; exact absurd rfl h
        · rw [if_neg h4]; decide +kernel
      · rw [if_neg h3, if_neg h3]; decide +kernel
  · rw [if_neg h1, if_neg h1]; decide +kernel
theorem nc_0 {a1 b a2 a3 b2 a4 a5 : Int32} {Z Z2 : Nat} (h : ncM a1 b a2 Z a3 b2 a4 Z2 a5 = 0) : inR a1 0 3 = true ∧ inR a3 0 3 = true ∧ ¬ b = 0 ∧ b = b2 ∧ okM a2 a4 a5 Z Z2 = true := by
  unfold ncM at h
  by_cases h1 : inR a1 0 3 = true ∧ inR a3 0 3 = true
  · rw [if_pos h1] at h
    by_cases h2 : b = 0 ∨ b2 = 0
    · rw [if_pos h2] at h; exact absurd h (by decide +kernel)
    · rw [if_neg h2] at h
      by_cases h3 : b = b2
      · rw [if_pos h3] at h
        by_cases h4 : okM a2 a4 a5 Z Z2 = true
        · exact ⟨h1.1, h1.2, fun q => h2 (Or.inl q), h3, h4⟩
        · rw [if_neg h4] at h; exact absurd h (by decide +kernel)
      · rw [if_neg h3] at h; exact absurd h (by decide +kernel)
  · rw [if_neg h1] at h; exact absurd h (by decide +kernel)
theorem sub_ge {Z : Nat} {f n : Int32} (hZ : Z ≤ 40) (hf : 0 ≤ f.toInt) : (nI Z - f).toInt = (Z : Int) - f.toInt := by
  have hz : (nI Z).toInt = Z := nI_toInt (by omega)
  have h2 := Int32.toInt_lt f
  rw [Int32.toInt_sub, hz]
  exact Int.bmod_eq_of_le (by omega) (by omega)
theorem okM_of {a2 a4 a5 : Int32} {Z Z2 : Nat} (h : okM a2 a4 a5 Z Z2 = true) (hZ : Z ≤ 40) (hZ2 : Z2 ≤ 40) : a2 = nI (ix a2) ∧ a4 = nI (ix a4) ∧ a5 = nI (ix a5) ∧ ix a2 + ix a5 ≤ Z ∧ ix a4 + ix a5 ≤ Z2 := by
  unfold okM at h
  simp only [Bool.and_eq_true, Bool.not_eq_true', decide_eq_false_iff_not, Int32.lt_iff_toInt_lt, Int.not_lt] at h
  obtain ⟨h1, h2, h3, h4, h5⟩ := h
  have z0 : (0 : Int32).toInt = 0 := by decide
  rw [z0] at h1 h2 h3
  rw [sub_ge (n := 0) hZ h2] at h4
  rw [sub_ge (n := 0) hZ2 h3] at h5
  have i1 := ix_int h1
  have i2 := ix_int h2
  have i3 := ix_int h3
  exact ⟨nI_ix h2, nI_ix h3, nI_ix h1, by omega, by omega⟩
def cpI (f t n i : Nat) : Nat := bif decide (f < t) then n - 1 - i else i
theorem cpI_y {f t n i : Nat} (c : f < t) : cpI f t n i = n - 1 - i := by unfold cpI; rw [decide_eq_true c]; rfl
theorem cpI_z {f t n i : Nat} (c : ¬ f < t) : cpI f t n i = i := by unfold cpI; rw [decide_eq_false c]; rfl
theorem cpI_b {f t n i : Nat} (h : i < n) : cpI f t n i < n := by
  by_cases c : f < t
  · rw [cpI_y c]; omega
  · rw [cpI_z c]; exact h
theorem cpI_ge {f t n i : Nat} (h : nI t ≤ nI f) (hf : f ≤ 40) (ht : t ≤ 40) : nI i = nI (cpI f t n i) := by
  rw [cpI_z (Nat.not_lt.mpr ((nI_leI (by omega) (by omega)).mp h))]
theorem cpI_lt {f t n i : Nat} (h : ¬ nI t ≤ nI f) (hf : f ≤ 40) (ht : t ≤ 40) (hi : i < n) (hn : n ≤ 40) : nI n - 1 - nI i = nI (cpI f t n i) := by
  rw [cpI_y (Nat.lt_of_not_le (fun q => h (nI_le q (by omega))))]
  obtain ⟨k, rfl⟩ : ∃ k, n = k + 1 := ⟨n - 1, by omega⟩
  rw [nI_pred]
  refine Int32.toInt_inj.mp ?_
  rw [pk_sub_toInt (by omega) (by omega), nI_toInt (by omega)]
  omega
theorem i402 (s f i : Nat) : (40 : Int32) * nI s + nI f + nI i = nI (40 * s + f + i) := by rw [i40, nI_add]
def cpR (ce : Nat → Int64) (src dst lo up : Nat) : Nat → Int64 := fun q => if lo ≤ q ∧ q < up then ce (src + (q - dst)) else ce q
theorem cpR_u {ce : Nat → Int64} {src dst lo up lo2 up2 j : Nat} {x : Int64} (h : ∀ q, (lo2 ≤ q ∧ q < up2) ↔ (q = dst + j ∨ (lo ≤ q ∧ q < up))) (hx : x = ce (src + j)) : vp_updL (cpR ce src dst lo up) (dst + j) x = cpR ce src dst lo2 up2 := funext fun q => by
  unfold vp_updL cpR
  by_cases e : q = dst + j
  · rw [if_pos e, if_pos ((h q).mpr (Or.inl e)), hx, show q - dst = j by omega]
  · rw [if_neg e]
    by_cases d : lo ≤ q ∧ q < up
    · rw [if_pos d, if_pos ((h q).mpr (Or.inr d))]
    · rw [if_neg d, if_neg (fun z => ((h q).mp z).elim e d)]
theorem cpR_e {ce : Nat → Int64} {src dst lo up : Nat} (h : up ≤ lo) : cpR ce src dst lo up = ce := funext fun q => if_neg (by omega)
def cpM (ce : Nat → Int64) (f t src dst n i : Nat) : Nat → Int64 := bif decide (f < t) then cpR ce src dst (dst + (n - i)) (dst + n) else cpR ce src dst dst (dst + i)
theorem cpM_y {ce : Nat → Int64} {f t src dst n i : Nat} (c : f < t) : cpM ce f t src dst n i = cpR ce src dst (dst + (n - i)) (dst + n) := by unfold cpM; rw [decide_eq_true c]; rfl
theorem cpM_z {ce : Nat → Int64} {f t src dst n i : Nat} (c : ¬ f < t) : cpM ce f t src dst n i = cpR ce src dst dst (dst + i) := by unfold cpM; rw [decide_eq_false c]; rfl
theorem cpM_0 (ce : Nat → Int64) (f t src dst n : Nat) : ce = cpM ce f t src dst n 0 := by
  by_cases c : f < t
  · rw [cpM_y c, cpR_e (by omega)]
  · rw [cpM_z c, cpR_e (by omega)]
theorem cpM_s (ce : Nat → Int64) {f t s u n i : Nat} (hi : i < n) (hf : f + n ≤ 40) (ht : t + n ≤ 40) :
    vp_updL (cpM ce f t (40 * s + f) (40 * u + t) n i) (40 * u + t + cpI f t n i) (cpM ce f t (40 * s + f) (40 * u + t) n i (40 * s + f + cpI f t n i)) = cpM ce f t (40 * s + f) (40 * u + t) n (i + 1) := by
  by_cases c : f < t
  · rw [cpM_y c, cpM_y c, cpI_y c]
    exact cpR_u (fun q => by omega) (if_neg (by omega))
  · rw [cpM_z c, cpM_z c, cpI_z c]
    exact cpR_u (fun q => by omega) (if_neg (by omega))
theorem cpM_n (ce : Nat → Int64) (f t src dst n : Nat) : cpM ce f t src dst n n = va_cpy ce ce src dst n := by
  by_cases c : f < t
  · rw [cpM_y c, Nat.sub_self, Nat.add_zero]; rfl
  · rw [cpM_z c]; rfl
def mn_copy (b : Int32) (Z : Nat) (b2 : Int32) (Z2 : Nat) (ce : Nat → Int64) (fd : Nat → Int32) (a1 a2 a3 a4 a5 : Int32) : Int32 × (Nat → Int64) × (Nat → Int32) := if ncM a1 b a2 Z a3 b2 a4 Z2 a5 = 0 then (a5, va_cpy ce ce (40 * ix a1 + ix a2) (40 * ix a3 + ix a4) (ix a5), fd) else (ncM a1 b a2 Z a3 b2 a4 Z2 a5, ce, fn fd (ncK a1 b a3 b2))
