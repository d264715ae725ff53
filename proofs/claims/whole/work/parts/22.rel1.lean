/-! class and reference: what ties their states -/
def Rel (mi fo wi sp : Int32) (P : Nat) (wa : Int32) (no ki pl qu ca m : Nat → Int32) : Prop :=
  (m 0 = mi ∧ m 1 = fo ∧ m 2 = wi ∧ m 3 = sp ∧ m 4 = nI P) ∧ P ≤ 8 ∧ Bs mi fo wi sp ∧ mi.toInt ≤ 99999 ∧
  (∀ g, g < 30 → m (5 + g) = no g ∧ 0 ≤ (no g).toInt ∧ (no g).toInt ≤ 20) ∧
  ∀ j, j < P → pf m j 0 = ki j ∧ atM m j = at1 (mi, wa, pl, qu, ca) j ∧ PI (atM m j)
theorem upd_ne {f : Nat → Int32} {k j : Nat} {x : Int32} (h : j ≠ k) : upd f k x j = f j := if_neg h
theorem pf_upd_lo {m : Nat → Int32} {n j k : Nat} {x : Int32} (h : n < 35) : pf (upd m n x) j k = pf m j k := if_neg (by omega)
theorem atM_upd {m : Nat → Int32} {n j : Nat} {x : Int32} (h : n < 35) (h0 : n ≠ 0) : atM (upd m n x) j = atM m j := by
  unfold atM
  rw [pf_upd_lo h, pf_upd_lo h, pf_upd_lo h, pf_upd_lo h, upd_ne (fun e => h0 e.symm)]
theorem inR_b {x a b : Int32} (h : inR x a b = true) : a.toInt ≤ x.toInt ∧ x.toInt ≤ b.toInt := inR_iff.mp h
section REL
variable {mi fo wi sp wa : Int32} {P : Nat} {no ki pl qu ca m fd : Nat → Int32}
theorem Rel.noise (h : Rel mi fo wi sp P wa no ki pl qu ca m) {g : Nat} {v : Int32} (hg : g < 30) (h0 : 0 ≤ v.toInt) (h1 : v.toInt ≤ 20) : Rel mi fo wi sp P wa (upd no g v) ki pl qu ca (upd m (5 + g) v) := by
  obtain ⟨⟨a0, a1, a2, a3, a4⟩, b, c, d, e, f⟩ := h
  refine ⟨⟨by rw [upd_ne (by omega)]; exact a0, by rw [upd_ne (by omega)]; exact a1, by rw [upd_ne (by omega)]; exact a2, by rw [upd_ne (by omega)]; exact a3, by rw [upd_ne (by omega)]; exact a4⟩, b, c, d, fun q hq => ?_, fun j hj => ?_⟩
  · by_cases z : q = g
    · subst z; rw [upd_at, upd_at]; exact ⟨rfl, h0, h1⟩
    · rw [upd_ne (by omega), upd_ne z]; exact e q hq
  · rw [pf_upd_lo (by omega), atM_upd (by omega) (by omega)]; exact f j hj
theorem rel_noise (h : Rel mi fo wi sp P wa no ki pl qu ca m) (a1 a2 : Int32) : (cn_noise no fd a1 a2).1 = (mn_noise m fd a1 a2).1 ∧ (cn_noise no fd a1 a2).2.2 = (mn_noise m fd a1 a2).2.2 ∧ Rel mi fo wi sp P wa (cn_noise no fd a1 a2).2.1 ki pl qu ca (mn_noise m fd a1 a2).2.1 := by
  unfold cn_noise mn_noise
  by_cases c : inR a1 0 29 = true ∧ inR a2 0 20 = true
  · rw [if_pos c, if_pos c]
    have hx := (ix_of 29 c.1 (by decide) (by decide)).2
    have hv := inR_b c.2
    exact ⟨(h.2.2.2.2.1 _ (by omega)).1.symm, rfl, h.noise (by omega) hv.1 hv.2⟩
  · rw [if_neg c, if_neg c]; exact ⟨rfl, rfl, h⟩
theorem Rel.par (h : Rel mi fo wi sp P wa no ki pl qu ca m) {fo2 wi2 sp2 : Int32} {m2 : Nat → Int32} (hB : Bs mi fo2 wi2 sp2) (e1 : m2 1 = fo2) (e2 : m2 2 = wi2) (e3 : m2 3 = sp2) (e0 : ∀ n, n ≠ 1 → n ≠ 2 → n ≠ 3 → m2 n = m n) : Rel mi fo2 wi2 sp2 P wa no ki pl qu ca m2 := by
  obtain ⟨⟨a0, a1, a2, a3, a4⟩, b, c, d, e, f⟩ := h
  have hp : ∀ j k, pf m2 j k = pf m j k := fun j k => e0 _ (by omega) (by omega) (by omega)
  refine ⟨⟨by rw [e0 0 (by decide) (by decide) (by decide)]; exact a0, e1, e2, e3, by rw [e0 4 (by decide) (by decide) (by decide)]; exact a4⟩, b, hB, d, fun q hq => ?_, fun j hj => ?_⟩
  · rw [e0 _ (by omega) (by omega) (by omega)]; exact e q hq
  · have ea : atM m2 j = atM m j := by unfold atM; rw [hp, hp, hp, hp, e0 0 (by decide) (by decide) (by decide)]
    rw [hp, ea]; exact f j hj
theorem rel_hush (h : Rel mi fo wi sp P wa no ki pl qu ca m) (a1 a2 : Int32) : (cn_hush fo wi sp fd a1 a2).1 = (mn_hush m fd a1 a2).1 ∧ (cn_hush fo wi sp fd a1 a2).2.2.2.2 = (mn_hush m fd a1 a2).2.2 ∧ Rel mi (cn_hush fo wi sp fd a1 a2).2.1 (cn_hush fo wi sp fd a1 a2).2.2.1 (cn_hush fo wi sp fd a1 a2).2.2.2.1 P wa no ki pl qu ca (mn_hush m fd a1 a2).2.1 := by
  obtain ⟨⟨e0, e1, e2, e3, e4⟩, -, hB, -⟩ := id h
  obtain ⟨b1, b2, b3, b4, b5, b6, b7, b8⟩ := id hB
  unfold cn_hush mn_hush
  by_cases z0 : a1 = 0
  · subst z0
    have q : (inR 0 0 2 && inR a2 (if (0 : Int32) = 2 then 1 else 0) (if (0 : Int32) = 0 then 99 else if (0 : Int32) = 1 then 10 else 5)) = inR a2 0 99 := by
      rw [show inR 0 0 2 = true from by decide, if_neg (by decide), if_pos rfl, Bool.true_and]
    rw [q]
    by_cases c : inR a2 0 99 = true
    · have hv := inR_b c
      rw [if_pos ⟨rfl, c⟩, if_pos c]
      refine ⟨e1.symm, rfl, h.par ⟨b1, b2, hv.1, hv.2, b5, b6, b7, b8⟩ rfl ?_ ?_ (fun n n1 _ _ => if_neg n1)⟩
      · exact (if_neg (by decide)).trans e2
      · exact (if_neg (by decide)).trans e3
    · rw [if_neg (fun q => c q.2), if_neg (fun q => absurd q.1 (by decide)), if_neg (fun q => absurd q.1 (by decide)), if_neg c]
      exact ⟨rfl, rfl, h⟩
  · by_cases z1 : a1 = 1
    · subst z1
      have q : (inR 1 0 2 && inR a2 (if (1 : Int32) = 2 then 1 else 0) (if (1 : Int32) = 0 then 99 else if (1 : Int32) = 1 then 10 else 5)) = inR a2 0 10 := by
        rw [show inR 1 0 2 = true from by decide, if_neg (by decide), if_neg (by decide), if_pos rfl, Bool.true_and]
      rw [q, if_neg (fun q => z0 q.1)]
      by_cases c : inR a2 0 10 = true
      · have hv := inR_b c
        rw [if_pos ⟨rfl, c⟩, if_pos c]
        refine ⟨e2.symm, rfl, h.par ⟨b1, b2, b3, b4, hv.1, hv.2, b7, b8⟩ ?_ rfl ?_ (fun n _ n2 _ => if_neg n2)⟩
        · exact (if_neg (by decide)).trans e1
        · exact (if_neg (by decide)).trans e3
      · rw [if_neg (fun q => c q.2), if_neg (fun q => absurd q.1 (by decide)), if_neg c]
        exact ⟨rfl, rfl, h⟩
    · by_cases z2 : a1 = 2
      · subst z2
        have q : (inR 2 0 2 && inR a2 (if (2 : Int32) = 2 then 1 else 0) (if (2 : Int32) = 0 then 99 else if (2 : Int32) = 1 then 10 else 5)) = inR a2 1 5 := by
          rw [show inR 2 0 2 = true from by decide, if_pos rfl, if_neg (by decide), if_neg (by decide), Bool.true_and]
        rw [q, if_neg (fun q => z0 q.1), if_neg (fun q => z1 q.1)]
        by_cases c : inR a2 1 5 = true
        · have hv := inR_b c
          rw [if_pos ⟨rfl, c⟩, if_pos c]
          refine ⟨e3.symm, rfl, h.par ⟨b1, b2, b3, b4, b5, b6, hv.1, hv.2⟩ ?_ ?_ rfl (fun n _ _ n3 => if_neg n3)⟩
          · exact (if_neg (by decide)).trans e1
          · exact (if_neg (by decide)).trans e2
        · rw [if_neg (fun q => c q.2), if_neg c]
          exact ⟨rfl, rfl, h⟩
      · rw [if_neg (fun q => z0 q.1), if_neg (fun q => z1 q.1), if_neg (fun q => z2 q.1), if_neg ?_]
        · exact ⟨rfl, rfl, h⟩
        · intro q
          have q1 := ((Bool.and_eq_true _ _).mp q).1
          obtain ⟨q2, q3⟩ := ix_of 2 q1 (by decide) (by decide)
          rcases (show ix a1 = 0 ∨ ix a1 = 1 ∨ ix a1 = 2 by omega) with e | e | e
          · exact z0 (q2.trans (by rw [e]; rfl))
          · exact z1 (q2.trans (by rw [e]; rfl))
          · exact z2 (q2.trans (by rw [e]; rfl))
theorem whoC_congr {f g : Nat → Bool} : ∀ {n : Nat}, (∀ j, j < n → f j = g j) → whoC f n = whoC g n
  | 0, _ => rfl
  | n + 1, h => by
    show whoC f n ||| (bif f n then _ else _) = whoC g n ||| (bif g n then _ else _)
    rw [whoC_congr (fun j hj => h j (by omega)), h n (by omega)]
theorem sumF_congr {b : Int32} {f g : Nat → Int32} : ∀ {n : Nat}, (∀ j, j < n → f j = g j) → sumF b f n = sumF b g n
  | 0, _ => rfl
  | n + 1, h => by
    show sumF b f n + f n = sumF b g n + g n
    rw [sumF_congr (fun j hj => h j (by omega)), h n (by omega)]
theorem Rel.at (h : Rel mi fo wi sp P wa no ki pl qu ca m) {j : Nat} (hj : j < P) : pf m j 0 = ki j ∧ pf m j 1 = pl j ∧ pf m j 2 = qu j ∧ pf m j 3 = ca j ∧ pf m j 4 = bitOf wa j := by
  obtain ⟨a, b, -⟩ := h.2.2.2.2.2 j hj
  have e : (m 0, pf m j 4, pf m j 1, pf m j 2, pf m j 3) = (mi, bitOf wa j, pl j, qu j, ca j) := b
  simp only [Prod.mk.injEq] at e
  exact ⟨a, e.2.2.1, e.2.2.2.1, e.2.2.2.2, e.2.1⟩
theorem Rel.who (h : Rel mi fo wi sp P wa no ki pl qu ca m) : whoC (fun j => tk (edC mi fo wi sp) wi (pl j)) P = whM m P := by
  obtain ⟨⟨e0, e1, e2, e3, e4⟩, -, hB, -⟩ := id h
  refine whoC_congr (fun j hj => ?_)
  unfold isInM
  rw [e0, e1, e2, e3, (h.at hj).2.1, tk_eq hB]
theorem Rel.loud (h : Rel mi fo wi sp P wa no ki pl qu ca m) : ldC mi fo wi sp P no ki pl = hdM m P := by
  obtain ⟨⟨e0, e1, e2, e3, e4⟩, -, hB, -, hn, -⟩ := id h
  unfold ldC hdM
  rw [e0, e1, e2, e3]
  have q1 : sumF 0 (fun g => bif tk (edC mi fo wi sp) wi (nI g) then 0 else no g) 30 = sumF 0 (fun g => bif tkM mi fo wi sp (nI g) then 0 else m (5 + g)) 30 := sumF_congr (fun g hg => by rw [tk_eq hB, (hn g hg).1])
  rw [q1]
  exact sumF_congr (fun j hj => by rw [ta_eq hB, (h.at hj).1, (h.at hj).2.1])
theorem rel_house (h : Rel mi fo wi sp P wa no ki pl qu ca m) (a1 a2 : Int32) : cn_house mi fo wi sp P no pl fd a1 a2 = mn_house P m fd a1 a2 := by
  obtain ⟨⟨e0, e1, e2, e3, e4⟩, -, hB, -, hn, -⟩ := id h
  unfold cn_house mn_house
  by_cases c : inR a1 0 29 = true
  · rw [if_pos c]
    have hx := (ix_of 29 c (by decide) (by decide)).2
    by_cases z0 : a2 = 0
    · rw [if_pos z0, if_pos ⟨c, by rw [z0]; decide⟩, if_pos z0, (hn _ (by omega)).1]
    · by_cases z1 : a2 = 1
      · rw [if_neg z0, if_pos z1, if_pos ⟨c, by rw [z1]; decide⟩, if_neg z0, if_neg (by rw [z1]; decide), e0, e1, e2, e3, tk_eq hB]
      · by_cases z2 : a2 = 2
        · rw [if_neg z0, if_neg z1, if_pos z2, if_pos ⟨c, by rw [z2]; decide⟩, if_neg z0, if_pos z2, whoC_congr (fun j hj => by rw [(h.at hj).2.1])]
        · rw [if_neg z0, if_neg z1, if_neg z2, if_neg ?_]
          intro q
          obtain ⟨q2, q3⟩ := ix_of 2 q.2 (by decide) (by decide)
          rcases (show ix a2 = 0 ∨ ix a2 = 1 ∨ ix a2 = 2 by omega) with e | e | e
          · exact z0 (q2.trans (by rw [e]; rfl))
          · exact z1 (q2.trans (by rw [e]; rfl))
          · exact z2 (q2.trans (by rw [e]; rfl))
  · rw [if_neg c, if_neg (fun q => c q.1)]
theorem rel_now (h : Rel mi fo wi sp P wa no ki pl qu ca m) (a1 : Int32) : cn_now mi fo wi sp P no ki pl fd a1 = mn_now P m fd a1 := by
  obtain ⟨⟨e0, e1, e2, e3, e4⟩, -, hB, -⟩ := id h
  have hE : (if edC mi fo wi sp = -1 then (0 : Int32) else 1 + edC mi fo wi sp) = (bif huM mi fo wi sp then 1 + eg mi fo sp else 0) := by
    unfold edC
    rw [← hu_eq hB]
    cases hh : hu mi fo wi sp
    · rfl
    · show (if eg mi fo sp = -1 then _ else _) = 1 + eg mi fo sp
      rw [if_neg (hu_pos hB hh).2]; rfl
  unfold cn_now mn_now
  rw [e0, e1, e2, e3, hE, h.loud, h.who]
end REL
