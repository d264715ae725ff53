/-! the tape: tokens, items, a text, as one reckons them -/
section TAPE
variable {by1 : Nat → Int32} {L : Nat}
def er (by1 : Nat → Int32) (a b : Int32) : Nat → Nat → Nat
  | 0, i => i
  | n + 1, i => bif inR (by1 i) a b then er by1 a b n (i + 1) else i
theorem er_yes {a b : Int32} {i : Nat} (h : inR (by1 i) a b = true) (hi : i < L) : er by1 a b (L - i) i = er by1 a b (L - (i + 1)) (i + 1) := by
  obtain ⟨k, hk⟩ : ∃ k, L - i = k + 1 := ⟨L - i - 1, by omega⟩
  rw [hk, show L - (i + 1) = k by omega]
  show (bif inR (by1 i) a b then er by1 a b k (i + 1) else i) = _
  rw [h]; rfl
theorem er_no {a b : Int32} {i n : Nat} (h : inR (by1 i) a b = false) : er by1 a b n i = i := by
  cases n with
  | zero => rfl
  | succ n =>
    show (bif inR (by1 i) a b then er by1 a b n (i + 1) else i) = _
    rw [h]; rfl
theorem er_end {a b : Int32} {i : Nat} : er by1 a b (i - i) i = i := by rw [Nat.sub_self]; rfl
theorem er_rng (a b : Int32) : ∀ n i, i ≤ er by1 a b n i ∧ er by1 a b n i ≤ i + n ∧ ∀ k, i ≤ k → k < er by1 a b n i → inR (by1 k) a b = true
  | 0, i => ⟨Nat.le_refl i, Nat.le_refl i, fun k h1 h2 => absurd h2 (Nat.not_lt.mpr h1)⟩
  | n + 1, i => by
    obtain ⟨h1, h2, h3⟩ := er_rng a b n (i + 1)
    show i ≤ (bif inR (by1 i) a b then er by1 a b n (i + 1) else i) ∧ (bif inR (by1 i) a b then er by1 a b n (i + 1) else i) ≤ i + (n + 1) ∧ ∀ k, i ≤ k → k < (bif inR (by1 i) a b then er by1 a b n (i + 1) else i) → inR (by1 k) a b = true
    cases e : inR (by1 i) a b
    · exact ⟨Nat.le_refl i, by show i ≤ _; omega, fun k q1 q2 => absurd q2 (Nat.not_lt.mpr q1)⟩
    · refine ⟨by show i ≤ er by1 a b n (i + 1); omega, by show er by1 a b n (i + 1) ≤ _; omega, fun k q1 q2 => ?_⟩
      by_cases z : k = i
      · rw [z]; exact e
      · exact h3 k (by omega) q2
def skp (by1 : Nat → Int32) (L b : Nat) : Nat := er by1 32 32 (L - b) b
def tq (by1 : Nat → Int32) (L p : Nat) : Nat := if p < L then (bif inR (by1 p) 97 122 then er by1 97 122 (L - p) p else bif inR (by1 p) 48 57 then er by1 48 57 (L - p) p else p + 1) else p
def ts (by1 : Nat → Int32) (L p : Nat) : Int32 := if p < L then (bif inR (by1 p) 97 122 then 0 else bif inR (by1 p) 48 57 then 1 else bif inR (by1 p) 59 59 then 2 else 4) else 3
def nxt (by1 : Nat → Int32) (L p : Nat) : Nat := skp by1 L (tq by1 L p)
theorem skp_rng {b : Nat} (h : b ≤ L) : b ≤ skp by1 L b ∧ skp by1 L b ≤ L := by
  have h1 := er_rng (by1 := by1) 32 32 (L - b) b
  unfold skp
  omega
theorem tq_rng {p : Nat} (h : p ≤ L) : p ≤ tq by1 L p ∧ tq by1 L p ≤ L ∧ (p < L → p < tq by1 L p) := by
  unfold tq
  by_cases c : p < L
  · rw [if_pos c]
    cases e1 : inR (by1 p) 97 122
    · cases e2 : inR (by1 p) 48 57
      · show p ≤ p + 1 ∧ p + 1 ≤ L ∧ (p < L → p < p + 1)
        omega
      · have h1 := er_rng (by1 := by1) 48 57 (L - (p + 1)) (p + 1)
        show p ≤ er by1 48 57 (L - p) p ∧ er by1 48 57 (L - p) p ≤ L ∧ (p < L → p < er by1 48 57 (L - p) p)
        rw [er_yes e2 c]; omega
    · have h1 := er_rng (by1 := by1) 97 122 (L - (p + 1)) (p + 1)
      show p ≤ er by1 97 122 (L - p) p ∧ er by1 97 122 (L - p) p ≤ L ∧ (p < L → p < er by1 97 122 (L - p) p)
      rw [er_yes e1 c]; omega
  · rw [if_neg c]; omega
theorem nxt_rng {p : Nat} (h : p ≤ L) : p ≤ nxt by1 L p ∧ nxt by1 L p ≤ L ∧ (p < L → p < nxt by1 L p) := by
  have h1 := tq_rng (by1 := by1) h
  have h2 := skp_rng (by1 := by1) h1.2.1
  unfold nxt
  omega
def vl (by1 : Nat → Int32) (p : Nat) : Nat → Int32
  | 0 => 0
  | n + 1 => iMin 1000 (10 * vl by1 p n + by1 (p + n) - 48)
def vlM (by1 : Nat → Int32) (p : Nat) : Nat → Int32
  | 0 => 0
  | n + 1 => if vlM by1 p n ≤ 999 then 10 * vlM by1 p n + by1 (p + n) - 48 else vlM by1 p n
def wch (k i : Nat) : Int32 := (sByt.getD k []).getD i 0
def mtc (by1 : Nat → Int32) (p n k : Nat) : Bool := decide (n = sLen.getD k 0) && (fs1 (fun i => !decide (by1 (p + i) = wch k i)) n 0).isNone
def mtM (by1 : Nat → Int32) (p n k : Nat) : Bool := (decide (n ≤ 7) && (decide (n = 7) || decide (nmF (7 * k + n) = 0))) && (fs1 (fun i => !decide (nmF (7 * k + i) = by1 (p + i))) n 0).isNone
def tmW (by1 : Nat → Int32) (p n : Nat) : Int32 := match fs1 (mtM by1 p n) 11 0 with | some k => nI k | none => 23
def tm (by1 : Nat → Int32) (L p : Nat) : Int32 := if p < L then (bif inR (by1 p) 97 122 then tmW by1 p (tq by1 L p - p) else bif inR (by1 p) 48 57 then 20 else bif inR (by1 p) 59 59 then 21 else 23) else 22
def vm (by1 : Nat → Int32) (L p : Nat) : Int32 := if p < L then (bif inR (by1 p) 97 122 then 0 else bif inR (by1 p) 48 57 then vlM by1 p (tq by1 L p - p) else 0) else 0
theorem fs1_all (p : Nat → Bool) : ∀ n, (fs1 p n 0).isNone = true ↔ ∀ i, i < n → p i = false
  | 0 => ⟨fun _ i h => absurd h (Nat.not_lt_zero i), fun _ => rfl⟩
  | n + 1 => by
    rw [fs1_sn, Nat.zero_add, Bool.and_eq_true, fs1_all p n, Bool.not_eq_true']
    constructor
    · intro h i hi
      by_cases e : i = n
      · rw [e]; exact h.2
      · exact h.1 i (by omega)
    · intro h
      exact ⟨fun i hi => h i (by omega), h n (by omega)⟩
theorem fs1_some {p : Nat → Bool} : ∀ (n i k : Nat), fs1 p n i = some k → p k = true ∧ k < i + n
  | 0, i, k, h => by cases h
  | n + 1, i, k, h => by
    have h2 : (bif p i then some i else fs1 p n (i + 1)) = some k := h
    cases e : p i
    · rw [e] at h2
      have := fs1_some n (i + 1) k h2
      exact ⟨this.1, by omega⟩
    · rw [e] at h2
      cases h2
      exact ⟨e, by omega⟩
theorem fs1_has {p : Nat → Bool} : ∀ (n i k : Nat), i ≤ k → k < i + n → p k = true → ∃ q, fs1 p n i = some q
  | 0, i, k, h1, h2, _ => absurd h2 (by omega)
  | n + 1, i, k, h1, h2, h3 => by
    show ∃ q, (bif p i then some i else fs1 p n (i + 1)) = some q
    cases e : p i
    · have hne : k ≠ i := fun z => by rw [z, e] at h3; cases h3
      obtain ⟨q, hq⟩ := fs1_has n (i + 1) k (by omega) (by omega) h3
      exact ⟨q, hq⟩
    · exact ⟨i, rfl⟩
theorem sLen_6 : ∀ k, k < 11 → sLen.getD k 0 ≤ 6 := by decide
theorem nm_wch {k i : Nat} (hi : i < 7) : nmF (7 * k + i) = wch k i := by
  unfold nmF wch
  rw [show (7 * k + i) / 7 = k by omega, show (7 * k + i) % 7 = i by omega]
theorem wch_z : ∀ k, k < 11 → ∀ i, i < 7 → (wch k i = 0 ↔ sLen.getD k 0 ≤ i) := by decide +kernel
theorem wch_u : ∀ k, k < 11 → ∀ j, j < 11 → sLen.getD k 0 = sLen.getD j 0 → (∀ i, i < 6 → i < sLen.getD k 0 → wch k i = wch j i) → k = j := by decide +kernel
theorem wch_255 : ∀ k, k < 11 → ∀ i, i < 7 → wch k i &&& 255 = wch k i := by decide +kernel
theorem mtc_iff {p n k : Nat} : mtc by1 p n k = true ↔ n = sLen.getD k 0 ∧ ∀ i, i < n → by1 (p + i) = wch k i := by
  unfold mtc
  rw [Bool.and_eq_true, decide_eq_true_iff, fs1_all]
  simp only [Bool.not_eq_false', decide_eq_true_iff]
theorem mtM_iff {p n k : Nat} : mtM by1 p n k = true ↔ (n ≤ 7 ∧ (n = 7 ∨ nmF (7 * k + n) = 0)) ∧ ∀ i, i < n → nmF (7 * k + i) = by1 (p + i) := by
  unfold mtM
  rw [Bool.and_eq_true, Bool.and_eq_true, Bool.or_eq_true, decide_eq_true_iff, decide_eq_true_iff, decide_eq_true_iff, fs1_all]
  simp only [Bool.not_eq_false', decide_eq_true_iff]
theorem mt_eq {p n k : Nat} (hk : k < 11) (hb : ∀ i, i < n → ¬ by1 (p + i) = 0) : mtM by1 p n k = true ↔ mtc by1 p n k = true := by
  rw [mtM_iff, mtc_iff]
  have h6 := sLen_6 k hk
  constructor
  · intro ⟨⟨h1, h2⟩, h3⟩
    have h4 : n ≤ sLen.getD k 0 := by
      rcases Nat.lt_or_ge (sLen.getD k 0) n with q | q
      · have e := h3 _ q
        rw [nm_wch (by omega), (wch_z k hk _ (by omega)).mpr (Nat.le_refl _)] at e
        exact absurd e.symm (hb _ q)
      · exact q
    have h5 : nmF (7 * k + n) = 0 := by
      rcases h2 with q | q
      · omega
      · exact q
    rw [nm_wch (by omega)] at h5
    have h7 := (wch_z k hk n (by omega)).mp h5
    exact ⟨by omega, fun i hi => by rw [← h3 i hi, nm_wch (by omega)]⟩
  · intro ⟨h1, h2⟩
    refine ⟨⟨by omega, Or.inr ?_⟩, fun i hi => ?_⟩
    · rw [nm_wch (by omega)]
      exact (wch_z k hk n (by omega)).mpr (by omega)
    · rw [nm_wch (by omega), h2 i hi]
theorem tmW_iff {p n k : Nat} (hk : k < 11) (hb : ∀ i, i < n → ¬ by1 (p + i) = 0) : tmW by1 p n = nI k ↔ mtc by1 p n k = true := by
  unfold tmW
  constructor
  · intro h
    cases e : fs1 (mtM by1 p n) 11 0 with
    | none =>
      rw [e] at h
      exact absurd ((nI_eq (a := 23) (b := k) (by decide) (by omega)).mp h) (by omega)
    | some q =>
      rw [e] at h
      obtain ⟨h1, h2⟩ := fs1_some _ _ _ e
      have h3 : q = k := (nI_eq (by omega) (by omega)).mp h
      rw [h3] at h1
      exact (mt_eq hk hb).mp h1
  · intro h
    obtain ⟨q, hq⟩ := fs1_has 11 0 k (Nat.zero_le k) (by omega) ((mt_eq hk hb).mpr h)
    obtain ⟨h1, h2⟩ := fs1_some _ _ _ hq
    have h3 := (mt_eq (by omega) hb).mp h1
    rw [mtc_iff] at h h3
    have h4 : q = k := wch_u q (by omega) k hk (by omega) (fun i _ hi => by rw [← h3.2 i (by omega), h.2 i (by omega)])
    rw [hq, h4]
theorem tmW_cases (by1 : Nat → Int32) (p n : Nat) : (∃ k, k < 11 ∧ tmW by1 p n = nI k) ∨ tmW by1 p n = 23 := by
  unfold tmW
  cases e : fs1 (mtM by1 p n) 11 0 with
  | none => exact Or.inr rfl
  | some q => exact Or.inl ⟨q, by have := (fs1_some _ _ _ e).2; omega, rfl⟩
theorem inR_nz {x a b : Int32} (h : inR x a b = true) (ha : 0 < a.toInt) : ¬ x = 0 := by
  intro e
  have := (inR_iff.mp h).1
  rw [e] at this
  have z : (0 : Int32).toInt = 0 := by decide
  omega
theorem let_nz {p : Nat} (hp : p < L) (h : inR (by1 p) 97 122 = true) : ∀ i, i < tq by1 L p - p → inR (by1 (p + i)) 97 122 = true := by
  intro i hi
  unfold tq at hi
  rw [if_pos hp, h] at hi
  exact (er_rng (by1 := by1) 97 122 (L - p) p).2.2 (p + i) (by omega) (by show p + i < er by1 97 122 (L - p) p; have : i < er by1 97 122 (L - p) p - p := hi; omega)
theorem dig_nz {p : Nat} (hp : p < L) (h0 : inR (by1 p) 97 122 = false) (h : inR (by1 p) 48 57 = true) : ∀ i, i < tq by1 L p - p → inR (by1 (p + i)) 48 57 = true := by
  intro i hi
  unfold tq at hi
  rw [if_pos hp, h0, h] at hi
  exact (er_rng (by1 := by1) 48 57 (L - p) p).2.2 (p + i) (by omega) (by show p + i < er by1 48 57 (L - p) p; have : i < er by1 48 57 (L - p) p - p := hi; omega)
theorem ts_0 {p : Nat} (h : ts by1 L p = 0) : p < L ∧ inR (by1 p) 97 122 = true := by
  unfold ts at h
  by_cases c : p < L
  · rw [if_pos c] at h
    cases e : inR (by1 p) 97 122
    · rw [e] at h
      cases e2 : inR (by1 p) 48 57
      · rw [e2] at h
        cases e3 : inR (by1 p) 59 59
        · rw [e3] at h; exact absurd h (by decide)
        · rw [e3] at h; exact absurd h (by decide)
      · rw [e2] at h
        have h : (1 : Int32) = 0 := h
        exact absurd h (by decide)
    · exact ⟨c, rfl⟩
  · rw [if_neg c] at h; exact absurd h (by decide)
theorem ts_n0 {p : Nat} (h : ¬ ts by1 L p = 0) : tm by1 L p = 20 ∨ tm by1 L p = 21 ∨ tm by1 L p = 22 ∨ tm by1 L p = 23 := by
  unfold ts at h
  unfold tm
  by_cases c : p < L
  · rw [if_pos c] at h ⊢
    cases e : inR (by1 p) 97 122
    · cases e2 : inR (by1 p) 48 57
      · cases e3 : inR (by1 p) 59 59
        · exact Or.inr (Or.inr (Or.inr rfl))
        · exact Or.inr (Or.inl rfl)
      · exact Or.inl rfl
    · rw [e] at h; exact absurd rfl h
  · rw [if_neg c]; exact Or.inr (Or.inr (Or.inl rfl))
theorem tm_word {p k : Nat} (hk : k < 11) (h : ts by1 L p = 0) : decide (tm by1 L p = nI k) = mtc by1 p (tq by1 L p - p) k := by
  obtain ⟨h1, h2⟩ := ts_0 h
  have h3 : tm by1 L p = tmW by1 p (tq by1 L p - p) := by unfold tm; rw [if_pos h1, h2]; rfl
  rw [h3]
  have h4 := tmW_iff (by1 := by1) (p := p) (n := tq by1 L p - p) hk (fun i hi => inR_nz (let_nz h1 h2 i hi) (by decide))
  cases e : mtc by1 p (tq by1 L p - p) k
  · exact decide_eq_false (fun q => by rw [h4.mp q] at e; cases e)
  · exact decide_eq_true (h4.mpr e)
theorem tm_nw {p k : Nat} (hk : k < 11) (h : ¬ ts by1 L p = 0) : decide (tm by1 L p = nI k) = false := by
  refine decide_eq_false (fun q => ?_)
  rcases ts_n0 h with e | e | e | e
  · rw [e] at q; exact absurd ((nI_eq (a := 20) (b := k) (by decide) (by omega)).mp q) (by omega)
  · rw [e] at q; exact absurd ((nI_eq (a := 21) (b := k) (by decide) (by omega)).mp q) (by omega)
  · rw [e] at q; exact absurd ((nI_eq (a := 22) (b := k) (by decide) (by omega)).mp q) (by omega)
  · rw [e] at q; exact absurd ((nI_eq (a := 23) (b := k) (by decide) (by omega)).mp q) (by omega)
theorem tm_s {p : Nat} : (ts by1 L p = 1 ↔ tm by1 L p = 20) ∧ (ts by1 L p = 2 ↔ tm by1 L p = 21) ∧ (ts by1 L p = 3 ↔ tm by1 L p = 22) := by
  unfold ts tm
  by_cases c : p < L
  · rw [if_pos c, if_pos c]
    cases e : inR (by1 p) 97 122
    · cases e2 : inR (by1 p) 48 57
      · cases e3 : inR (by1 p) 59 59
        · show ((4 : Int32) = 1 ↔ (23 : Int32) = 20) ∧ ((4 : Int32) = 2 ↔ (23 : Int32) = 21) ∧ ((4 : Int32) = 3 ↔ (23 : Int32) = 22)
          decide
        · show ((2 : Int32) = 1 ↔ (21 : Int32) = 20) ∧ ((2 : Int32) = 2 ↔ (21 : Int32) = 21) ∧ ((2 : Int32) = 3 ↔ (21 : Int32) = 22)
          decide
      · show ((1 : Int32) = 1 ↔ (20 : Int32) = 20) ∧ ((1 : Int32) = 2 ↔ (20 : Int32) = 21) ∧ ((1 : Int32) = 3 ↔ (20 : Int32) = 22)
        decide
    · show ((0 : Int32) = 1 ↔ tmW by1 p (tq by1 L p - p) = 20) ∧ ((0 : Int32) = 2 ↔ tmW by1 p (tq by1 L p - p) = 21) ∧ ((0 : Int32) = 3 ↔ tmW by1 p (tq by1 L p - p) = 22)
      rcases tmW_cases by1 p (tq by1 L p - p) with ⟨k, hk, e⟩ | e
      · rw [e]
        refine ⟨⟨fun q => absurd q (by decide), fun q => absurd ((nI_eq (a := k) (b := 20) (by omega) (by decide)).mp q) (by omega)⟩, ⟨fun q => absurd q (by decide), fun q => absurd ((nI_eq (a := k) (b := 21) (by omega) (by decide)).mp q) (by omega)⟩, ⟨fun q => absurd q (by decide), fun q => absurd ((nI_eq (a := k) (b := 22) (by omega) (by decide)).mp q) (by omega)⟩⟩
      · rw [e]; decide
  · rw [if_neg c, if_neg c]; decide
/-- numbers -/
theorem vl_rel {p : Nat} : ∀ n, (∀ i, i < n → inR (by1 (p + i)) 48 57 = true) → 0 ≤ (vlM by1 p n).toInt ∧ (vlM by1 p n).toInt ≤ 9999 ∧ ((vlM by1 p n).toInt ≤ 999 → vl by1 p n = vlM by1 p n) ∧ (999 < (vlM by1 p n).toInt → vl by1 p n = 1000)
  | 0, _ => ⟨show 0 ≤ (0 : Int32).toInt by decide, show (0 : Int32).toInt ≤ 9999 by decide, fun _ => rfl, fun h => absurd (show 999 < (0 : Int32).toInt from h) (by decide)⟩
  | n + 1, hb => by
    obtain ⟨h1, h2, h3, h4⟩ := vl_rel n (fun i hi => hb i (by omega))
    have hd := inR_iff.mp (hb n (by omega))
    have e48 : (48 : Int32).toInt = 48 := by decide
    have e57 : (57 : Int32).toInt = 57 := by decide
    have e10 : (10 : Int32).toInt = 10 := by decide
    have ek : (1000 : Int32).toInt = 1000 := by decide
    have e9 : (999 : Int32).toInt = 999 := by decide
    rw [e48, e57] at hd
    have hx : ∀ v : Int32, 0 ≤ v.toInt → v.toInt ≤ 9999 → (10 * v + by1 (p + n) - 48).toInt = 10 * v.toInt + (by1 (p + n)).toInt - 48 := by
      intro v q1 q2
      have m1 : (10 * v).toInt = 10 * v.toInt := by rw [fb_mulI (by rw [e10]; omega) (by rw [e10]; omega), e10]
      have m2 : (10 * v + by1 (p + n)).toInt = 10 * v.toInt + (by1 (p + n)).toInt := by rw [fb_addI (by rw [m1]; omega) (by rw [m1]; omega), m1]
      rw [fb_subI (by rw [m2, e48]; omega) (by rw [m2, e48]; omega), m2, e48]
    show 0 ≤ (if vlM by1 p n ≤ 999 then 10 * vlM by1 p n + by1 (p + n) - 48 else vlM by1 p n).toInt ∧ (if vlM by1 p n ≤ 999 then 10 * vlM by1 p n + by1 (p + n) - 48 else vlM by1 p n).toInt ≤ 9999 ∧ ((if vlM by1 p n ≤ 999 then 10 * vlM by1 p n + by1 (p + n) - 48 else vlM by1 p n).toInt ≤ 999 → iMin 1000 (10 * vl by1 p n + by1 (p + n) - 48) = (if vlM by1 p n ≤ 999 then 10 * vlM by1 p n + by1 (p + n) - 48 else vlM by1 p n)) ∧ (999 < (if vlM by1 p n ≤ 999 then 10 * vlM by1 p n + by1 (p + n) - 48 else vlM by1 p n).toInt → iMin 1000 (10 * vl by1 p n + by1 (p + n) - 48) = 1000)
    by_cases c : vlM by1 p n ≤ 999
    · rw [if_pos c]
      rw [i32_le, e9] at c
      have e := hx _ h1 h2
      rw [h3 c]
      unfold iMin
      refine ⟨by omega, by omega, fun q => ?_, fun q => ?_⟩
      · rw [if_pos (by rw [i32_lt, e, ek]; omega)]
      · by_cases z : (10 * vlM by1 p n + by1 (p + n) - 48) < 1000
        · rw [i32_lt, e, ek] at z; omega
        · rw [if_neg z]
    · rw [if_neg c]
      rw [i32_le, e9] at c
      rw [h4 (by omega)]
      have e := hx 1000 (by decide) (by decide)
      unfold iMin
      refine ⟨h1, h2, fun q => by omega, fun q => ?_⟩
      rw [if_neg (by rw [i32_lt, e, ek]; omega)]
def nm (by1 : Nat → Int32) (L p : Nat) (a b : Int32) : Bool := decide (tm by1 L p = 20) && inR (vm by1 L p) a b
/-- the class's value at a token: a number's, else what it was -/
def vn (by1 : Nat → Int32) (L p : Nat) (v : Int32) : Int32 := if p < L then (bif inR (by1 p) 97 122 then v else bif inR (by1 p) 48 57 then vl by1 p (tq by1 L p - p) else v) else v
theorem ts_1 {p : Nat} (h : ts by1 L p = 1) : p < L ∧ inR (by1 p) 97 122 = false ∧ inR (by1 p) 48 57 = true := by
  unfold ts at h
  by_cases c : p < L
  · rw [if_pos c] at h
    cases e : inR (by1 p) 97 122
    · rw [e] at h
      cases e2 : inR (by1 p) 48 57
      · rw [e2] at h
        cases e3 : inR (by1 p) 59 59
        · rw [e3] at h; exact absurd h (by decide)
        · rw [e3] at h; exact absurd h (by decide)
      · exact ⟨c, rfl, rfl⟩
    · rw [e] at h
      have h : (0 : Int32) = 1 := h
      exact absurd h (by decide)
  · rw [if_neg c] at h; exact absurd h (by decide)
theorem num_v {p : Nat} {v a b : Int32} (h : ts by1 L p = 1) (hb : b.toInt ≤ 99) : inR (vn by1 L p v) a b = inR (vm by1 L p) a b ∧ (inR (vm by1 L p) a b = true → vn by1 L p v = vm by1 L p) := by
  obtain ⟨h1, h2, h3⟩ := ts_1 h
  obtain ⟨r1, r2, r3, r4⟩ := vl_rel (by1 := by1) (p := p) (tq by1 L p - p) (dig_nz h1 h2 h3)
  have e1 : vn by1 L p v = vl by1 p (tq by1 L p - p) := by unfold vn; rw [if_pos h1, h2, h3]; rfl
  have e2 : vm by1 L p = vlM by1 p (tq by1 L p - p) := by unfold vm; rw [if_pos h1, h2, h3]; rfl
  rw [e1, e2]
  by_cases c : (vlM by1 p (tq by1 L p - p)).toInt ≤ 999
  · rw [r3 c]; exact ⟨rfl, fun _ => rfl⟩
  · rw [r4 (by omega)]
    have f1 : inR 1000 a b = false := by
      cases e : inR 1000 a b
      · rfl
      · have := (inR_iff.mp e).2
        have ek : (1000 : Int32).toInt = 1000 := by decide
        omega
    have f2 : inR (vlM by1 p (tq by1 L p - p)) a b = false := by
      cases e : inR (vlM by1 p (tq by1 L p - p)) a b
      · rfl
      · have := (inR_iff.mp e).2
        omega
    rw [f1, f2]
    exact ⟨rfl, fun q => by cases q⟩
theorem num_eq {p : Nat} {v a b : Int32} (hb : b.toInt ≤ 99) : (decide (ts by1 L p = 1) && inR (vn by1 L p v) a b) = nm by1 L p a b := by
  unfold nm
  by_cases c : ts by1 L p = 1
  · rw [decide_eq_true c, decide_eq_true (tm_s.1.mp c), (num_v c hb).1]
  · rw [decide_eq_false c, decide_eq_false (fun q => c (tm_s.1.mpr q)), Bool.false_and, Bool.false_and]
theorem nm_v {p : Nat} {v a b : Int32} (h : nm by1 L p a b = true) (hb : b.toInt ≤ 99) : vn by1 L p v = vm by1 L p := by
  unfold nm at h
  rw [Bool.and_eq_true, decide_eq_true_iff] at h
  exact (num_v (tm_s.1.mpr h.1) hb).2 h.2
theorem nmr1 {p : Nat} {a b : Int32} (h : nm by1 L p a b = true) : inR (vm by1 L p) a b = true := by
  unfold nm at h
  rw [Bool.and_eq_true] at h
  exact h.2
/-- items: whether it is one, where the next token (or the fault) is, and what it says -/
abbrev IT : Type := Int32 × Int32 × Int32
def pim (by1 : Nat → Int32) (L p P : Nat) (t : Int32) : Bool × Nat × IT := if P = 8 then (false, p, 0, 0, 0) else (bif decide (tm by1 L (nxt by1 L p) = 6) then (bif nm by1 L (nxt by1 L (nxt by1 L p)) 0 29 then (true, nxt by1 L (nxt by1 L (nxt by1 L p)), t, vm by1 L (nxt by1 L (nxt by1 L p)), 0) else (false, nxt by1 L (nxt by1 L p), 0, 0, 0)) else (true, nxt by1 L p, t, 0, 0))
def nim (by1 : Nat → Int32) (L p : Nat) : Bool × Nat × IT := bif nm by1 L (nxt by1 L p) 0 29 then (bif nm by1 L (nxt by1 L (nxt by1 L p)) 0 20 then (true, nxt by1 L (nxt by1 L (nxt by1 L p)), 7, vm by1 L (nxt by1 L p), vm by1 L (nxt by1 L (nxt by1 L p))) else (false, nxt by1 L (nxt by1 L p), 0, 0, 0)) else (false, nxt by1 L p, 0, 0, 0)
def him1 (by1 : Nat → Int32) (L p : Nat) (t a b : Int32) : Bool × Nat × IT := bif nm by1 L (nxt by1 L p) a b then (true, nxt by1 L (nxt by1 L p), t, vm by1 L (nxt by1 L p), 0) else (false, nxt by1 L p, 0, 0, 0)
def him (by1 : Nat → Int32) (L p : Nat) : Bool × Nat × IT := bif decide (tm by1 L p = 8) then him1 by1 L p 8 0 99 else bif decide (tm by1 L p = 9) then him1 by1 L p 9 0 10 else bif decide (tm by1 L p = 10) then him1 by1 L p 10 1 5 else (false, p, 0, 0, 0)
def itm (by1 : Nat → Int32) (L p P : Nat) : Bool × Nat × IT := if tm by1 L p ≤ 5 then pim by1 L p P (tm by1 L p) else bif decide (tm by1 L p = 7) then nim by1 L p else him by1 L p
/-- a text: whether it is one, the fault's place, how many items, and what came of the state -/
def psr {σ : Type} (by1 : Nat → Int32) (L : Nat) (ap : σ → IT → σ) : Nat → Nat → Nat → Nat → σ → Bool × Nat × Nat × σ
  | 0, b, _, c, s => (false, b, c, s)
  | n + 1, b, P, c, s =>
    bif (itm by1 L (skp by1 L b) P).1 then
      (bif decide (tm by1 L (itm by1 L (skp by1 L b) P).2.1 = 21) then psr by1 L ap n (tq by1 L (itm by1 L (skp by1 L b) P).2.1) (P + (if (itm by1 L (skp by1 L b) P).2.2.1 ≤ 5 then 1 else 0)) (c + 1) (ap s (itm by1 L (skp by1 L b) P).2.2)
       else (decide (tm by1 L (itm by1 L (skp by1 L b) P).2.1 = 22), (itm by1 L (skp by1 L b) P).2.1, c + 1, ap s (itm by1 L (skp by1 L b) P).2.2))
    else (false, (itm by1 L (skp by1 L b) P).2.1, c, s)
theorem tm_lt {p : Nat} (h : ¬ tm by1 L p = 22) : p < L := by
  unfold tm at h
  by_cases c : p < L
  · exact c
  · rw [if_neg c] at h; exact absurd rfl h
end TAPE
