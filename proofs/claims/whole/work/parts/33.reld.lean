section REL4
variable {mi fo wi sp wa : Int32} {B P : Nat} {no ki pl qu ca m fd : Nat → Int32}
variable {by1 : Nat → Int32} {L : Nat}
theorem psr_rel {σ τ : Type} {ap1 : σ → IT → σ} {ap2 : τ → IT → τ} (R : Nat → σ → τ → Prop) (hap : ∀ P s t it, R P s t → okIt P it → R (P + (if it.1 ≤ 5 then 1 else 0)) (ap1 s it) (ap2 t it)) :
    ∀ (n b P c : Nat) (s : σ) (t : τ), R P s t → (psr by1 L ap1 n b P c s).1 = (psr by1 L ap2 n b P c t).1 ∧ (psr by1 L ap1 n b P c s).2.1 = (psr by1 L ap2 n b P c t).2.1 ∧ (psr by1 L ap1 n b P c s).2.2.1 = (psr by1 L ap2 n b P c t).2.2.1 ∧ ∃ Q, R Q (psr by1 L ap1 n b P c s).2.2.2 (psr by1 L ap2 n b P c t).2.2.2
  | 0, b, P, c, s, t, h => ⟨rfl, rfl, rfl, P, h⟩
  | n + 1, b, P, c, s, t, h => by
    cases e : (itm by1 L (skp by1 L b) P).1
    · rw [psr_f rfl e, psr_f rfl e]; exact ⟨rfl, rfl, rfl, P, h⟩
    · have h2 := hap P s t _ h (itm_ok e)
      by_cases c2 : tm by1 L (itm by1 L (skp by1 L b) P).2.1 = 21
      · rw [psr_s rfl e c2, psr_s rfl e c2]
        exact psr_rel R hap n _ _ _ _ _ h2
      · rw [psr_e rfl e c2, psr_e rfl e c2]
        exact ⟨rfl, rfl, rfl, _, h2⟩
def RelS (B : Nat) (mi : Int32) (P : Nat) (S : TS) (m : Nat → Int32) : Prop := S.2.2.2.1 = P ∧ Rel B mi S.1 S.2.1 S.2.2.1 P S.2.2.2.2.1 S.2.2.2.2.2.1 S.2.2.2.2.2.2.1 S.2.2.2.2.2.2.2.1 S.2.2.2.2.2.2.2.2.1 S.2.2.2.2.2.2.2.2.2 m
theorem RelS.ap (P : Nat) (s : TS) (t : Nat → Int32) (it : IT) (h : RelS B mi P s t) (hk : okIt P it) : RelS B mi (P + (if it.1 ≤ 5 then 1 else 0)) (apC s it) (apM t it) := by
  obtain ⟨fo, wi, sp, P0, wa, no, ki, pl, qu, ca⟩ := s
  obtain ⟨k, x, y⟩ := it
  obtain ⟨hp, hr⟩ := h
  have hp : P0 = P := hp
  subst hp
  have hr : Rel B mi fo wi sp P0 wa no ki pl qu ca t := hr
  rcases hk with q | q | q | q | q
  · obtain ⟨q1, q2, q3, q4⟩ := q
    have q2 : k ≤ 5 := q2
    have hb := inR_b q3
    have hP := hr.2.1
    rw [apC_p q2, apM_p q2 hr.1.2.2.2.2 hr.2.1, if_pos q2]
    exact ⟨rfl, hr.add (by omega) hb.1 hb.2⟩
  · obtain ⟨q1, q2, q3⟩ := q
    have q1 : k = 7 := q1
    subst q1
    have hx := (ix_of 29 q2 (by decide) (by decide)).2
    have hb := inR_b q3
    rw [apC_7, apM_7, if_neg (show ¬ (7 : Int32) ≤ 5 by decide)]
    exact ⟨rfl, hr.noise (by show ix x < 30; have : ix x ≤ 29 := hx; omega) hb.1 hb.2⟩
  · obtain ⟨q1, q2⟩ := q
    have q1 : k = 8 := q1
    subst q1
    have hb := inR_b q2
    rw [apC_8, apM_8, if_neg (show ¬ (8 : Int32) ≤ 5 by decide)]
    exact ⟨rfl, hr.four hb.1 hb.2⟩
  · obtain ⟨q1, q2⟩ := q
    have q1 : k = 9 := q1
    subst q1
    have hb := inR_b q2
    rw [apC_9, apM_9, if_neg (show ¬ (9 : Int32) ≤ 5 by decide)]
    exact ⟨rfl, hr.wide hb.1 hb.2⟩
  · obtain ⟨q1, q2⟩ := q
    have q1 : k = 10 := q1
    subst q1
    have hb := inR_b q2
    rw [apC_10, apM_10, if_neg (show ¬ (10 : Int32) ≤ 5 by decide)]
    exact ⟨rfl, hr.pace hb.1 hb.2⟩
theorem rel_town (h : Rel B mi fo wi sp P wa no ki pl qu ca m) : (cn_town fo wi sp P wa no ki pl qu ca L by1).1 = (mn_town P m L by1).1 ∧ (cn_town fo wi sp P wa no ki pl qu ca L by1).2.1 = 0 ∧ (mn_town P m L by1).2.1 = 0 ∧ RelS B mi (cn_town fo wi sp P wa no ki pl qu ca L by1).2.2.2.2.2.1 (cn_town fo wi sp P wa no ki pl qu ca L by1).2.2 (mn_town P m L by1).2.2 := by
  have hp := psr_rel (by1 := by1) (L := L) (RelS B mi) RelS.ap 122 0 P 0 (fo, wi, sp, P, wa, no, ki, pl, qu, ca) m ⟨rfl, h⟩
  obtain ⟨h1, h2, h3, Q, h4⟩ := hp
  unfold cn_town mn_town
  generalize psr by1 L apC 122 0 P 0 (fo, wi, sp, P, wa, no, ki, pl, qu, ca) = R1 at h1 h2 h3 h4 ⊢
  generalize psr by1 L apM 122 0 P 0 m = R2 at h1 h2 h3 h4 ⊢
  obtain ⟨x1, x2, x3, x4⟩ := R1
  obtain ⟨y1, y2, y3, y4⟩ := R2
  have h1 : x1 = y1 := h1
  have h2 : x2 = y2 := h2
  have h3 : x3 = y3 := h3
  subst h1 h2 h3
  cases x1
  · exact ⟨rfl, rfl, rfl, rfl, h⟩
  · refine ⟨rfl, rfl, rfl, rfl, ?_⟩
    have h5 : x4.2.2.2.1 = Q := h4.1
    have h6 := h4.2
    rw [← h5] at h6
    exact h6
theorem rel_count (h : Rel B mi fo wi sp P wa no ki pl qu ca m) (a1 : Int32) : sp_count P L no qu fd a1 = sp_count P L (fun g => m (5 + g)) (fun j => pf m j 2) fd a1 := by
  unfold sp_count
  rw [sumF_congr (f := no) (g := fun g => m (5 + g)) (fun g hg => (h.2.2.2.2.1 g hg).1.symm), sumF_congr (f := qu) (g := fun j => pf m j 2) (fun j hj => (h.at hj).2.2.1.symm)]
theorem sumF_one (f : Nat → Int32) (j : Nat) : ∀ n, sumF 0 (fun k => bif decide (j = k) then f k else 0) n = if j < n then f j else 0
  | 0 => rfl
  | n + 1 => by
    show sumF 0 (fun k => bif decide (j = k) then f k else 0) n + (bif decide (j = n) then f n else 0) = _
    rw [sumF_one f j n]
    by_cases e : j = n
    · subst e
      rw [if_neg (Nat.lt_irrefl j), if_pos (Nat.lt_succ_self j), decide_eq_true rfl, cond_true, Int32.zero_add]
    · rw [decide_eq_false e, cond_false, Int32.add_zero]
      by_cases q : j < n
      · rw [if_pos q, if_pos (by omega)]
      · rw [if_neg q, if_neg (by omega)]
theorem rel_status (a1 : Int32) : cn_status fd a1 = mn_status fd a1 := by
  unfold cn_status mn_status
  have em : (-1 : Int32).toInt = -1 := by decide
  have e6 : (6 : Int32).toInt = 6 := by decide
  have e0 : (0 : Int32).toInt = 0 := by decide
  by_cases c : inR a1 0 6 = true
  · have hb := inR_b c
    obtain ⟨hx, hj⟩ := ix_of 6 c (by decide) (by decide)
    rw [if_pos c, if_pos (show inR a1 (-1) 6 = true by rw [inR_iff, em, e6]; rw [e0, e6] at hb; omega)]
    have e : (fun k => bif (decide (a1 < 0) || decide (a1 = nI k)) then fd k else 0) = fun k => bif (decide (a1 < 0) || decide (a1 = nI k)) then fd k else 0 := rfl
    rw [sumF_congr (g := fun k => bif decide (ix a1 = k) then fd k else 0) (n := 7) (fun k hk => by
      show (bif (decide (a1 < 0) || decide (a1 = nI k)) then fd k else 0) = (bif decide (ix a1 = k) then fd k else 0)
      have n0 : ¬ a1 < 0 := by rw [i32_lt]; rw [e0, e6] at hb; rw [e0]; omega
      rw [decide_eq_false n0, Bool.false_or]
      by_cases q : ix a1 = k
      · rw [decide_eq_true q, decide_eq_true (show a1 = nI k by rw [← q]; exact hx)]
      · rw [decide_eq_false q, decide_eq_false (show ¬ a1 = nI k from fun z => q (by rw [z]; exact ix_nI (by omega)))]), sumF_one, if_pos (by omega)]
  · rw [if_neg c]
    by_cases d : a1 = -1
    · subst d
      rw [if_pos rfl, if_pos (show inR (-1) (-1) 6 = true by decide), sumF_congr (f := fun k => bif (decide ((-1 : Int32) < 0) || decide ((-1 : Int32) = nI k)) then fd k else 0) (g := fd) (n := 7) (fun k hk => by
        show (bif (decide ((-1 : Int32) < 0) || decide ((-1 : Int32) = nI k)) then fd k else 0) = fd k
        rw [decide_eq_true (show (-1 : Int32) < 0 by decide), Bool.true_or, cond_true])]
    · rw [if_neg d, if_neg (show ¬ inR a1 (-1) 6 = true from fun q => by
        have hb := inR_b q
        rw [em, e6] at hb
        have h1 : ¬ a1.toInt = -1 := fun z => d (i32_eq.mpr (by rw [z, em]))
        exact c (by rw [inR_iff, e0, e6]; omega))]
/-- sheets: the k-th -/
def Rs (k : Nat) (b : Int32) (Z : Nat) (nu : Nat → Int64) (bi4 si4 : Nat → Int32) (ce : Nat → Int64) : Prop := bi4 k = b ∧ si4 k = nI Z ∧ Z ≤ 40 ∧ ∀ i, i < 40 → ce (40 * k + i) = nu i
variable {k k2 Z Z2 : Nat} {b b2 : Int32} {nu nu2 : Nat → Int64} {bi4 si4 : Nat → Int32} {ce : Nat → Int64}
theorem rel_sheet (h : Rs k b Z nu bi4 si4 ce) (a1 a2 a3 : Int32) (hx : inR a1 0 3 = true → ix a1 = k) :
    (sp_sheet b Z nu fd a1 a2 a3).1 = (mn_sheet bi4 si4 ce fd a1 a2 a3).1 ∧ (sp_sheet b Z nu fd a1 a2 a3).2.2.2.2 = (mn_sheet bi4 si4 ce fd a1 a2 a3).2.2.2.2 ∧ Rs k (sp_sheet b Z nu fd a1 a2 a3).2.1 (sp_sheet b Z nu fd a1 a2 a3).2.2.1 (sp_sheet b Z nu fd a1 a2 a3).2.2.2.1 (mn_sheet bi4 si4 ce fd a1 a2 a3).2.1 (mn_sheet bi4 si4 ce fd a1 a2 a3).2.2.1 (mn_sheet bi4 si4 ce fd a1 a2 a3).2.2.2.1 := by
  unfold sp_sheet mn_sheet
  by_cases c : inR a1 0 3 = true ∧ isW a2 = true
  · rw [if_pos c, if_pos c, hx c.1]
    by_cases d : 0 ≤ a3
    · rw [if_pos d, if_pos d]
      by_cases e : a3 ≤ 40
      · rw [if_pos e, if_pos e]
        refine ⟨rfl, rfl, upd_at _ _ _, upd_at _ _ _, ?_, fun i hi => if_pos (by omega)⟩
        have e3 := nI_ge0 d
        have e4 : ix a3 ≤ 40 := by
          have d1 := i32_le.mp d
          have d2 := i32_le.mp e
          have z0 : (0 : Int32).toInt = 0 := by decide
          have z4 : (40 : Int32).toInt = 40 := by decide
          rw [z0] at d1
          rw [z4] at d2
          have := ix_int d1
          omega
        show (if a2 = 0 then 0 else ix a3) ≤ 40
        split
        · omega
        · exact e4
      · rw [if_neg e, if_neg e]; exact ⟨rfl, rfl, h⟩
    · rw [if_neg d, if_neg d]; exact ⟨rfl, rfl, h⟩
  · rw [if_neg c, if_neg c]; exact ⟨rfl, rfl, h⟩
theorem oth_sheet (h : Rs k2 b2 Z2 nu2 bi4 si4 ce) (a1 a2 a3 : Int32) (hx : inR a1 0 3 = true → ¬ ix a1 = k2) : Rs k2 b2 Z2 nu2 (mn_sheet bi4 si4 ce fd a1 a2 a3).2.1 (mn_sheet bi4 si4 ce fd a1 a2 a3).2.2.1 (mn_sheet bi4 si4 ce fd a1 a2 a3).2.2.2.1 := by
  unfold mn_sheet
  by_cases c : inR a1 0 3 = true ∧ isW a2 = true
  · rw [if_pos c]
    have hn := hx c.1
    by_cases d : 0 ≤ a3
    · rw [if_pos d]
      by_cases e : a3 ≤ 40
      · rw [if_pos e]
        obtain ⟨h1, h2, h3, h4⟩ := h
        refine ⟨(upd_ne (fun z => hn z.symm)).trans h1, (upd_ne (fun z => hn z.symm)).trans h2, h3, fun i hi => ?_⟩
        show bkO (fun _ => 0) ce (40 * ix a1) 40 (40 * k2 + i) = nu2 i
        rw [← h4 i hi]
        exact if_neg (by omega)
      · rw [if_neg e]; exact h
    · rw [if_neg d]; exact h
  · rw [if_neg c]; exact h
theorem fob_b {a1 x y a2 : Int32} {Z : Nat} (h : inR a1 0 3 = true → x = y) : fobC a1 x a2 Z = fobC a1 y a2 Z ∧ fobK a1 x = fobK a1 y := by
  by_cases c : inR a1 0 3 = true
  · rw [h c]; exact ⟨rfl, rfl⟩
  · unfold fobC fobK
    rw [if_neg c, if_neg c, if_neg (fun q => c q.1), if_neg (fun q => c q.1)]; exact ⟨rfl, rfl⟩
theorem rel_write (h : Rs k b Z nu bi4 si4 ce) (a1 a2 : Int32) (v : Int64) (hx : inR a1 0 3 = true → ix a1 = k) :
    (sp_write b Z nu fd a1 a2 v).1 = (mn_write (bi4 (ix a1)) Z ce fd a1 a2 v).1 ∧ (sp_write b Z nu fd a1 a2 v).2.2 = (mn_write (bi4 (ix a1)) Z ce fd a1 a2 v).2.2 ∧ Rs k b Z (sp_write b Z nu fd a1 a2 v).2.1 bi4 si4 (mn_write (bi4 (ix a1)) Z ce fd a1 a2 v).2.1 := by
  obtain ⟨h1, h2, h3, h4⟩ := id h
  have hb : inR a1 0 3 = true → bi4 (ix a1) = b := fun q => by rw [hx q]; exact h1
  unfold mn_write
  rw [(fob_b (a2 := a2) (Z := Z) hb).1, (fob_b (a2 := a2) (Z := Z) hb).2]
  unfold sp_write
  by_cases c : inR a1 0 3 = true
  · rw [if_pos c, hb c, hx c]
    by_cases d : b = 0
    · have e : fobC a1 b a2 Z = -1000000006 := by unfold fobC; rw [if_pos c, if_pos d]
      have e2 : fobK a1 b = 5 := if_pos ⟨c, d⟩
      rw [if_pos d, e, e2, if_neg (by decide +kernel)]; exact ⟨rfl, rfl, h⟩
    · rw [if_neg d]
      have e2 : fobK a1 b = 0 := if_neg (fun q => d q.2)
      by_cases g : inR a2 0 (nI Z - 1) = true
      · have e : fobC a1 b a2 Z = 0 := by unfold fobC; rw [if_pos c, if_neg d, if_pos g]
        obtain ⟨q1, q2⟩ := ix_upto g h3
        rw [if_pos g, if_pos e]
        refine ⟨(h4 _ (by omega)).symm, rfl, h1, h2, h3, fun i hi => ?_⟩
        show vp_updL ce (40 * k + ix a2) (cutC b v) (40 * k + i) = vp_updL nu (ix a2) (cutC b v) i
        unfold vp_updL
        by_cases z : i = ix a2
        · rw [if_pos z, if_pos (by omega)]
        · rw [if_neg z, if_neg (by omega)]; exact h4 i hi
      · have e : fobC a1 b a2 Z = -1000000001 := by unfold fobC; rw [if_pos c, if_neg d, if_neg g]
        rw [if_neg g, e, e2, if_neg (by decide +kernel)]; exact ⟨rfl, rfl, h⟩
  · have e : fobC a1 b a2 Z = -1000000001 := by unfold fobC; rw [if_neg c]
    have e2 : fobK a1 b = 0 := if_neg (fun q => c q.1)
    rw [if_neg c, e, e2, if_neg (by decide +kernel)]; exact ⟨rfl, rfl, h⟩
theorem oth_write (h : Rs k2 b2 Z2 nu2 bi4 si4 ce) (hk : Rs k b Z nu bi4 si4 ce) (a1 a2 : Int32) (v : Int64) (hx : inR a1 0 3 = true → ix a1 = k ∧ ¬ k = k2) : Rs k2 b2 Z2 nu2 bi4 si4 (mn_write (bi4 (ix a1)) Z ce fd a1 a2 v).2.1 := by
  unfold mn_write
  by_cases c : fobC a1 (bi4 (ix a1)) a2 Z = 0
  · rw [if_pos c]
    obtain ⟨f1, f2, f3⟩ := fob_0 c
    obtain ⟨q1, q2⟩ := ix_upto f3 hk.2.2.1
    obtain ⟨x1, x2⟩ := hx f1
    obtain ⟨h1, h2, h3, h4⟩ := h
    have hz := hk.2.2.1
    refine ⟨h1, h2, h3, fun i hi => ?_⟩
    rw [← h4 i hi]
    exact if_neg (by omega)
  · rw [if_neg c]; exact h
theorem hr_mk {f n : Int32} {Z : Nat} (hZ : Z ≤ 40) (h1 : 0 ≤ f.toInt) (h2 : 0 ≤ n.toInt) (h : ix f + ix n ≤ Z) : hrC f n Z = true := by
  have i1 := ix_int h1
  have i2 := ix_int h2
  have e2 := nI_ix h2
  have e3 : (nI Z - n).toInt = (Z : Int) - (ix n : Nat) := by
    have e4 : nI Z - n = nI Z - nI (ix n) := congrArg (fun q => nI Z - q) e2
    rw [e4]
    exact pk_sub_toInt (by omega) (by omega)
  have z0 : (0 : Int32).toInt = 0 := by decide
  unfold hrC
  simp only [Bool.and_eq_true, Bool.not_eq_true', decide_eq_false_iff_not, Int32.lt_iff_toInt_lt, Int.not_lt]
  rw [z0, nI_toInt (by omega), e3]
  omega
theorem okM_mk {a2 a4 a5 : Int32} {Z Z2 : Nat} (hZ : Z ≤ 40) (hZ2 : Z2 ≤ 40) (h2 : 0 ≤ a2.toInt) (h4 : 0 ≤ a4.toInt) (h5 : 0 ≤ a5.toInt) (g1 : ix a2 + ix a5 ≤ Z) (g2 : ix a4 + ix a5 ≤ Z2) : okM a2 a4 a5 Z Z2 = true := by
  have i2 := ix_int h2
  have i4 := ix_int h4
  have i5 := ix_int h5
  have z0 : (0 : Int32).toInt = 0 := by decide
  unfold okM
  simp only [Bool.and_eq_true, Bool.not_eq_true', decide_eq_false_iff_not, Int32.lt_iff_toInt_lt, Int.not_lt]
  rw [z0, sub_ge (n := 0) hZ h2, sub_ge (n := 0) hZ2 h4]
  omega
theorem nI_nn {x : Int32} {n : Nat} (h : x = nI n) (hn : n ≤ 40) : 0 ≤ x.toInt := by rw [h, nI_toInt (by omega)]; omega
theorem hr_ok {a2 a4 a5 : Int32} (hZ : Z ≤ 40) (hZ2 : Z2 ≤ 40) : (hrC a2 a5 Z = true ∧ hrC a4 a5 Z2 = true) ↔ okM a2 a4 a5 Z Z2 = true := by
  constructor
  · intro ⟨g1, g2⟩
    obtain ⟨x1, x2, x3⟩ := hr_of g1 hZ
    obtain ⟨y1, y2, y3⟩ := hr_of g2 hZ2
    exact okM_mk hZ hZ2 (nI_nn x1 (by omega)) (nI_nn y1 (by omega)) (nI_nn x2 (by omega)) x3 y3
  · intro g
    obtain ⟨x1, x2, x3, x4, x5⟩ := okM_of g hZ hZ2
    exact ⟨hr_mk hZ (nI_nn x1 (by omega)) (nI_nn x3 (by omega)) x4, hr_mk hZ2 (nI_nn x2 (by omega)) (nI_nn x3 (by omega)) x5⟩
theorem nc_b {a1 a2 a3 a4 a5 x y x2 y2 : Int32} (h : inR a1 0 3 = true → x = y) (h2 : inR a3 0 3 = true → x2 = y2) : ncM a1 x a2 Z a3 x2 a4 Z2 a5 = ncM a1 y a2 Z a3 y2 a4 Z2 a5 ∧ ncK a1 x a3 x2 = ncK a1 y a3 y2 := by
  by_cases c : inR a1 0 3 = true ∧ inR a3 0 3 = true
  · rw [h c.1, h2 c.2]; exact ⟨rfl, rfl⟩
  · unfold ncM ncK; rw [if_neg c, if_neg c, if_neg c, if_neg c]; exact ⟨rfl, rfl⟩
theorem rel_copy (h : Rs k b Z nu bi4 si4 ce) (h2 : Rs k2 b2 Z2 nu2 bi4 si4 ce) (a1 a2 a3 a4 a5 : Int32) (hx : inR a1 0 3 = true → ix a1 = k) (hy : inR a3 0 3 = true → ix a3 = k2) :
    (sp_copy b Z nu b2 Z2 nu2 fd a1 a2 a3 a4 a5).1 = (mn_copy (bi4 (ix a1)) Z (bi4 (ix a3)) Z2 ce fd a1 a2 a3 a4 a5).1 ∧ (sp_copy b Z nu b2 Z2 nu2 fd a1 a2 a3 a4 a5).2.2 = (mn_copy (bi4 (ix a1)) Z (bi4 (ix a3)) Z2 ce fd a1 a2 a3 a4 a5).2.2 ∧ Rs k2 b2 Z2 (sp_copy b Z nu b2 Z2 nu2 fd a1 a2 a3 a4 a5).2.1 bi4 si4 (mn_copy (bi4 (ix a1)) Z (bi4 (ix a3)) Z2 ce fd a1 a2 a3 a4 a5).2.1 := by
  have hb : inR a1 0 3 = true → bi4 (ix a1) = b := fun q => by rw [hx q]; exact h.1
  have hb2 : inR a3 0 3 = true → bi4 (ix a3) = b2 := fun q => by rw [hy q]; exact h2.1
  unfold mn_copy
  rw [(nc_b (Z := Z) (Z2 := Z2) (a2 := a2) (a4 := a4) (a5 := a5) hb hb2).1, (nc_b (Z := Z) (Z2 := Z2) (a2 := a2) (a4 := a4) (a5 := a5) hb hb2).2]
  unfold sp_copy
  by_cases c : inR a1 0 3 = true ∧ inR a3 0 3 = true
  · rw [if_pos c]
    by_cases d : b = 0 ∨ b2 = 0
    · have d2 : decide (b = 0) = true ∨ decide (b2 = 0) = true := by rw [decide_eq_true_iff, decide_eq_true_iff]; exact d
      have e : ncM a1 b a2 Z a3 b2 a4 Z2 a5 = -1000000006 := by unfold ncM; rw [if_pos c, if_pos d]
      have e2 : ncK a1 b a3 b2 = 5 := by unfold ncK; rw [if_pos c, if_pos d]
      rw [if_pos d2, e, e2, if_neg (by decide +kernel)]; exact ⟨rfl, rfl, h2⟩
    · have d2 : ¬ (decide (b = 0) = true ∨ decide (b2 = 0) = true) := by rw [decide_eq_true_iff, decide_eq_true_iff]; exact d
      rw [if_neg d2]
      by_cases e : b = b2
      · rw [if_pos e]
        have e2 : ncK a1 b a3 b2 = 0 := by unfold ncK; rw [if_pos c, if_neg d, if_pos e]
        by_cases g : hrC a2 a5 Z = true ∧ hrC a4 a5 Z2 = true
        · have g2 := (hr_ok h.2.2.1 h2.2.2.1).mp g
          have e3 : ncM a1 b a2 Z a3 b2 a4 Z2 a5 = 0 := by unfold ncM; rw [if_pos c, if_neg d, if_pos e, if_pos g2]
          obtain ⟨x1, x2, x3, x4, x5⟩ := okM_of g2 h.2.2.1 h2.2.2.1
          rw [if_pos g, if_pos e3, hx c.1, hy c.2]
          have z1 := h.2.2.1
          have z2 := h2.2.2.1
          refine ⟨rfl, rfl, h2.1, h2.2.1, h2.2.2.1, fun i hi => ?_⟩
          show va_cpy ce ce (40 * k + ix a2) (40 * k2 + ix a4) (ix a5) (40 * k2 + i) = va_cpy nu nu2 (ix a2) (ix a4) (ix a5) i
          unfold va_cpy
          by_cases r : ix a4 ≤ i ∧ i < ix a4 + ix a5
          · rw [if_pos r, if_pos (by omega), ← h.2.2.2 _ (show ix a2 + (i - ix a4) < 40 by omega), show 40 * k + ix a2 + (40 * k2 + i - (40 * k2 + ix a4)) = 40 * k + (ix a2 + (i - ix a4)) by omega]
          · rw [if_neg r, if_neg (by omega)]; exact h2.2.2.2 i hi
        · have g2 : ¬ okM a2 a4 a5 Z Z2 = true := fun q => g ((hr_ok h.2.2.1 h2.2.2.1).mpr q)
          have e3 : ncM a1 b a2 Z a3 b2 a4 Z2 a5 = -1000000001 := by unfold ncM; rw [if_pos c, if_neg d, if_pos e, if_neg g2]
          rw [if_neg g, e3, e2, if_neg (by decide +kernel)]; exact ⟨rfl, rfl, h2⟩
      · have e3 : ncM a1 b a2 Z a3 b2 a4 Z2 a5 = -1000000003 := by unfold ncM; rw [if_pos c, if_neg d, if_neg e]
        have e2 : ncK a1 b a3 b2 = 2 := by unfold ncK; rw [if_pos c, if_neg d, if_neg e]
        rw [if_neg e, e3, e2, if_neg (by decide +kernel)]; exact ⟨rfl, rfl, h2⟩
  · have e3 : ncM a1 b a2 Z a3 b2 a4 Z2 a5 = -1000000001 := by unfold ncM; rw [if_neg c]
    have e2 : ncK a1 b a3 b2 = 0 := by unfold ncK; rw [if_neg c]
    rw [if_neg c, e3, e2, if_neg (by decide +kernel)]; exact ⟨rfl, rfl, h2⟩
theorem oth_copy {k3 Z3 : Nat} {b3 : Int32} {nu3 : Nat → Int64} (h3 : Rs k3 b3 Z3 nu3 bi4 si4 ce) (hZ : Z ≤ 40) (hZ2 : Z2 ≤ 40) (a1 a2 a3 a4 a5 : Int32) (hy : inR a3 0 3 = true → ¬ ix a3 = k3) : Rs k3 b3 Z3 nu3 bi4 si4 (mn_copy (bi4 (ix a1)) Z (bi4 (ix a3)) Z2 ce fd a1 a2 a3 a4 a5).2.1 := by
  unfold mn_copy
  by_cases c : ncM a1 (bi4 (ix a1)) a2 Z a3 (bi4 (ix a3)) a4 Z2 a5 = 0
  · rw [if_pos c]
    obtain ⟨f1, f3, f4, f5, f6⟩ := nc_0 c
    obtain ⟨x1, x2, x3, x4, x5⟩ := okM_of f6 hZ hZ2
    have hn := hy f3
    obtain ⟨q1, q2, q3, q4⟩ := h3
    refine ⟨q1, q2, q3, fun i hi => ?_⟩
    show va_cpy ce ce (40 * ix a1 + ix a2) (40 * ix a3 + ix a4) (ix a5) (40 * k3 + i) = nu3 i
    rw [← q4 i hi]
    exact if_neg (by omega)
  · rw [if_neg c]; exact h3
end REL4
