/-! class and reference: what ties their states -/
def Rel (B : Nat) (mi fo wi sp : Int32) (P : Nat) (wa : Int32) (no ki pl qu ca m : Nat → Int32) : Prop :=
  (m 0 = mi ∧ m 1 = fo ∧ m 2 = wi ∧ m 3 = sp ∧ m 4 = nI P) ∧ P ≤ 8 ∧ Bs mi fo wi sp ∧ mi.toInt ≤ B ∧
  (∀ g, g < 30 → m (5 + g) = no g ∧ 0 ≤ (no g).toInt ∧ (no g).toInt ≤ 20) ∧
  ∀ j, j < P → pf m j 0 = ki j ∧ atM m j = at1 (mi, wa, pl, qu, ca) j ∧ PI (atM m j)
theorem upd_ne {f : Nat → Int32} {k j : Nat} {x : Int32} (h : j ≠ k) : upd f k x j = f j := if_neg h
theorem pf_upd_lo {m : Nat → Int32} {n j k : Nat} {x : Int32} (h : n < 35) : pf (upd m n x) j k = pf m j k := if_neg (by omega)
theorem atM_upd {m : Nat → Int32} {n j : Nat} {x : Int32} (h : n < 35) (h0 : n ≠ 0) : atM (upd m n x) j = atM m j := by
  unfold atM
  rw [pf_upd_lo h, pf_upd_lo h, pf_upd_lo h, pf_upd_lo h, upd_ne (fun e => h0 e.symm)]
theorem inR_b {x a b : Int32} (h : inR x a b = true) : a.toInt ≤ x.toInt ∧ x.toInt ≤ b.toInt := inR_iff.mp h
section REL
variable {mi fo wi sp wa : Int32} {B P : Nat} {no ki pl qu ca m fd : Nat → Int32}
theorem Rel.noise (h : Rel B mi fo wi sp P wa no ki pl qu ca m) {g : Nat} {v : Int32} (hg : g < 30) (h0 : 0 ≤ v.toInt) (h1 : v.toInt ≤ 20) : Rel B mi fo wi sp P wa (upd no g v) ki pl qu ca (upd m (5 + g) v) := by
  obtain ⟨⟨a0, a1, a2, a3, a4⟩, b, c, d, e, f⟩ := h
  refine ⟨⟨by rw [upd_ne (by omega)]; exact a0, by rw [upd_ne (by omega)]; exact a1, by rw [upd_ne (by omega)]; exact a2, by rw [upd_ne (by omega)]; exact a3, by rw [upd_ne (by omega)]; exact a4⟩, b, c, d, fun q hq => ?_, fun j hj => ?_⟩
  · by_cases z : q = g
    · subst z; rw [upd_at, upd_at]; exact ⟨rfl, h0, h1⟩
    · rw [upd_ne (by omega), upd_ne z]; exact e q hq
  · rw [pf_upd_lo (by omega), atM_upd (by omega) (by omega)]; exact f j hj
theorem rel_noise (h : Rel B mi fo wi sp P wa no ki pl qu ca m) (a1 a2 : Int32) : (cn_noise no fd a1 a2).1 = (mn_noise m fd a1 a2).1 ∧ (cn_noise no fd a1 a2).2.2 = (mn_noise m fd a1 a2).2.2 ∧ Rel B mi fo wi sp P wa (cn_noise no fd a1 a2).2.1 ki pl qu ca (mn_noise m fd a1 a2).2.1 := by
  unfold cn_noise mn_noise
  by_cases c : inR a1 0 29 = true ∧ inR a2 0 20 = true
  · rw [if_pos c, if_pos c]
    have hx := (ix_of 29 c.1 (by decide) (by decide)).2
    have hv := inR_b c.2
    exact ⟨(h.2.2.2.2.1 _ (by omega)).1.symm, rfl, h.noise (by omega) hv.1 hv.2⟩
  · rw [if_neg c, if_neg c]; exact ⟨rfl, rfl, h⟩
theorem Rel.par (h : Rel B mi fo wi sp P wa no ki pl qu ca m) {fo2 wi2 sp2 : Int32} {m2 : Nat → Int32} (hB : Bs mi fo2 wi2 sp2) (e1 : m2 1 = fo2) (e2 : m2 2 = wi2) (e3 : m2 3 = sp2) (e0 : ∀ n, n ≠ 1 → n ≠ 2 → n ≠ 3 → m2 n = m n) : Rel B mi fo2 wi2 sp2 P wa no ki pl qu ca m2 := by
  obtain ⟨⟨a0, a1, a2, a3, a4⟩, b, c, d, e, f⟩ := h
  have hp : ∀ j k, pf m2 j k = pf m j k := fun j k => e0 _ (by omega) (by omega) (by omega)
  refine ⟨⟨by rw [e0 0 (by decide) (by decide) (by decide)]; exact a0, e1, e2, e3, by rw [e0 4 (by decide) (by decide) (by decide)]; exact a4⟩, b, hB, d, fun q hq => ?_, fun j hj => ?_⟩
  · rw [e0 _ (by omega) (by omega) (by omega)]; exact e q hq
  · have ea : atM m2 j = atM m j := by unfold atM; rw [hp, hp, hp, hp, e0 0 (by decide) (by decide) (by decide)]
    rw [hp, ea]; exact f j hj
theorem Rel.four (h : Rel B mi fo wi sp P wa no ki pl qu ca m) {v : Int32} (h0 : 0 ≤ v.toInt) (h1 : v.toInt ≤ 99) : Rel B mi v wi sp P wa no ki pl qu ca (upd m 1 v) := by
  obtain ⟨⟨e0, e1, e2, e3, e4⟩, -, ⟨b1, b2, b3, b4, b5, b6, b7, b8⟩, -⟩ := id h
  exact h.par ⟨b1, b2, h0, h1, b5, b6, b7, b8⟩ rfl ((if_neg (by decide)).trans e2) ((if_neg (by decide)).trans e3) (fun n n1 _ _ => if_neg n1)
theorem Rel.wide (h : Rel B mi fo wi sp P wa no ki pl qu ca m) {v : Int32} (h0 : 0 ≤ v.toInt) (h1 : v.toInt ≤ 10) : Rel B mi fo v sp P wa no ki pl qu ca (upd m 2 v) := by
  obtain ⟨⟨e0, e1, e2, e3, e4⟩, -, ⟨b1, b2, b3, b4, b5, b6, b7, b8⟩, -⟩ := id h
  exact h.par ⟨b1, b2, b3, b4, h0, h1, b7, b8⟩ ((if_neg (by decide)).trans e1) rfl ((if_neg (by decide)).trans e3) (fun n _ n2 _ => if_neg n2)
theorem Rel.pace (h : Rel B mi fo wi sp P wa no ki pl qu ca m) {v : Int32} (h0 : 1 ≤ v.toInt) (h1 : v.toInt ≤ 5) : Rel B mi fo wi v P wa no ki pl qu ca (upd m 3 v) := by
  obtain ⟨⟨e0, e1, e2, e3, e4⟩, -, ⟨b1, b2, b3, b4, b5, b6, b7, b8⟩, -⟩ := id h
  exact h.par ⟨b1, b2, b3, b4, b5, b6, h0, h1⟩ ((if_neg (by decide)).trans e1) ((if_neg (by decide)).trans e2) rfl (fun n _ _ n3 => if_neg n3)
theorem rel_hush (h : Rel B mi fo wi sp P wa no ki pl qu ca m) (a1 a2 : Int32) : (cn_hush fo wi sp fd a1 a2).1 = (mn_hush m fd a1 a2).1 ∧ (cn_hush fo wi sp fd a1 a2).2.2.2.2 = (mn_hush m fd a1 a2).2.2 ∧ Rel B mi (cn_hush fo wi sp fd a1 a2).2.1 (cn_hush fo wi sp fd a1 a2).2.2.1 (cn_hush fo wi sp fd a1 a2).2.2.2.1 P wa no ki pl qu ca (mn_hush m fd a1 a2).2.1 := by
  obtain ⟨⟨e0, e1, e2, e3, e4⟩, -⟩ := id h
  unfold cn_hush mn_hush
  by_cases z0 : a1 = 0
  · subst z0
    have q : (inR 0 0 2 && inR a2 (if (0 : Int32) = 2 then 1 else 0) (if (0 : Int32) = 0 then 99 else if (0 : Int32) = 1 then 10 else 5)) = inR a2 0 99 := by
      rw [show inR 0 0 2 = true from by decide, if_neg (by decide), if_pos rfl, Bool.true_and]
    rw [q]
    by_cases c : inR a2 0 99 = true
    · have hv := inR_b c
      rw [if_pos ⟨rfl, c⟩, if_pos c]
      exact ⟨e1.symm, rfl, h.four hv.1 hv.2⟩
    · rw [if_neg (fun q => c q.2), if_neg (fun q => absurd q.1 (by decide)), if_neg (fun q => absurd q.1 (by decide)), if_neg c]
      exact ⟨rfl, rfl, h⟩
  · by_cases z1 : a1 = 1
    · subst z1
      have q : (inR 1 0 2 && inR a2 (if (1 : Int32) = 2 then 1 else 0) (if (1 : Int32) = 0 then 99 else if (1 : Int32) = 1 then 10 else 5)) = inR a2 0 10 := by
        rw [show inR 1 0 2 = true from by decide, if_neg (by decide), if_neg (by decide), if_pos rfl, Bool.true_and]
      rw [q, if_neg (fun q => z0 q.1)]
      by_cases c : inR a2 0 10 = true
      · have hv := inR_b c
        rw [if_pos ⟨rfl, c⟩, if_pos c]
        exact ⟨e2.symm, rfl, h.wide hv.1 hv.2⟩
      · rw [if_neg (fun q => c q.2), if_neg (fun q => absurd q.1 (by decide)), if_neg c]
        exact ⟨rfl, rfl, h⟩
    · by_cases z2 : a1 = 2
      · subst z2
        have q : (inR 2 0 2 && inR a2 (if (2 : Int32) = 2 then 1 else 0) (if (2 : Int32) = 0 then 99 else if (2 : Int32) = 1 then 10 else 5)) = inR a2 1 5 := by
          rw [show inR 2 0 2 = true from by decide, if_pos rfl, if_neg (by decide), if_neg (by decide), Bool.true_and]
        rw [q, if_neg (fun q => z0 q.1), if_neg (fun q => z1 q.1)]
        by_cases c : inR a2 1 5 = true
        · have hv := inR_b c
          rw [if_pos ⟨rfl, c⟩, if_pos c]
          exact ⟨e3.symm, rfl, h.pace hv.1 hv.2⟩
        · rw [if_neg (fun q => c q.2), if_neg c]
          exact ⟨rfl, rfl, h⟩
      · rw [if_neg (fun q => z0 q.1), if_neg (fun q => z1 q.1), if_neg (fun q => z2 q.1), if_neg ?_]
        · exact ⟨rfl, rfl, h⟩
        · intro q
          have q1 := ((Bool.and_eq_true _ _).mp q).1
          obtain ⟨q2, q3⟩ := ix_of 2 q1 (by decide) (by decide)
          rcases (show ix a1 = 0 ∨ ix a1 = 1 ∨ ix a1 = 2 by omega) with e | e | e
          · exact z0 (q2.trans (by rw [e]; rfl))
          · exact z1 (q2.trans (by rw [e]; rfl))
          · exact z2 (q2.trans (by rw [e]; rfl))
theorem whoC_congr {f g : Nat → Bool} : ∀ {n : Nat}, (∀ j, j < n → f j = g j) → whoC f n = whoC g n
  | 0, _ => rfl
  | n + 1, h => by
    show whoC f n ||| (bif f n then _ else _) = whoC g n ||| (bif g n then _ else _)
    rw [whoC_congr (fun j hj => h j (by omega)), h n (by omega)]
theorem sumF_congr {b : Int32} {f g : Nat → Int32} : ∀ {n : Nat}, (∀ j, j < n → f j = g j) → sumF b f n = sumF b g n
  | 0, _ => rfl
  | n + 1, h => by
    show sumF b f n + f n = sumF b g n + g n
    rw [sumF_congr (fun j hj => h j (by omega)), h n (by omega)]
theorem Rel.at (h : Rel B mi fo wi sp P wa no ki pl qu ca m) {j : Nat} (hj : j < P) : pf m j 0 = ki j ∧ pf m j 1 = pl j ∧ pf m j 2 = qu j ∧ pf m j 3 = ca j ∧ pf m j 4 = bitOf wa j := by
  obtain ⟨a, b, -⟩ := h.2.2.2.2.2 j hj
  have e : (m 0, pf m j 4, pf m j 1, pf m j 2, pf m j 3) = (mi, bitOf wa j, pl j, qu j, ca j) := b
  simp only [Prod.mk.injEq] at e
  exact ⟨a, e.2.2.1, e.2.2.2.1, e.2.2.2.2, e.2.1⟩
theorem Rel.who (h : Rel B mi fo wi sp P wa no ki pl qu ca m) : whoC (fun j => tk (edC mi fo wi sp) wi (pl j)) P = whM m P := by
  obtain ⟨⟨e0, e1, e2, e3, e4⟩, -, hB, -⟩ := id h
  refine whoC_congr (fun j hj => ?_)
  unfold isInM
  rw [e0, e1, e2, e3, (h.at hj).2.1, tk_eq hB]
theorem Rel.loud (h : Rel B mi fo wi sp P wa no ki pl qu ca m) : ldC mi fo wi sp P no ki pl = hdM m P := by
  obtain ⟨⟨e0, e1, e2, e3, e4⟩, -, hB, -, hn, -⟩ := id h
  unfold ldC hdM
  rw [e0, e1, e2, e3]
  have q1 : sumF 0 (fun g => bif tk (edC mi fo wi sp) wi (nI g) then 0 else no g) 30 = sumF 0 (fun g => bif tkM mi fo wi sp (nI g) then 0 else m (5 + g)) 30 := sumF_congr (fun g hg => by rw [tk_eq hB, (hn g hg).1])
  rw [q1]
  exact sumF_congr (fun j hj => by rw [ta_eq hB, (h.at hj).1, (h.at hj).2.1])
theorem rel_house (h : Rel B mi fo wi sp P wa no ki pl qu ca m) (a1 a2 : Int32) : cn_house mi fo wi sp P no pl fd a1 a2 = mn_house P m fd a1 a2 := by
  obtain ⟨⟨e0, e1, e2, e3, e4⟩, -, hB, -, hn, -⟩ := id h
  unfold cn_house mn_house
  by_cases c : inR a1 0 29 = true
  · rw [if_pos c]
    have hx := (ix_of 29 c (by decide) (by decide)).2
    by_cases z0 : a2 = 0
    · rw [if_pos z0, if_pos ⟨c, by rw [z0]; decide⟩, if_pos z0, (hn _ (by omega)).1]
    · by_cases z1 : a2 = 1
      · rw [if_neg z0, if_pos z1, if_pos ⟨c, by rw [z1]; decide⟩, if_neg z0, if_neg (by rw [z1]; decide), e0, e1, e2, e3, tk_eq hB]
      · by_cases z2 : a2 = 2
        · rw [if_neg z0, if_neg z1, if_pos z2, if_pos ⟨c, by rw [z2]; decide⟩, if_neg z0, if_pos z2, whoC_congr (g := fun j => decide (pf m j 1 = a1)) (fun j hj => by rw [(h.at hj).2.1])]
        · rw [if_neg z0, if_neg z1, if_neg z2, if_neg ?_]
          intro q
          obtain ⟨q2, q3⟩ := ix_of 2 q.2 (by decide) (by decide)
          rcases (show ix a2 = 0 ∨ ix a2 = 1 ∨ ix a2 = 2 by omega) with e | e | e
          · exact z0 (q2.trans (by rw [e]; rfl))
          · exact z1 (q2.trans (by rw [e]; rfl))
          · exact z2 (q2.trans (by rw [e]; rfl))
  · rw [if_neg c, if_neg (fun q => c q.1)]
theorem rel_now (h : Rel B mi fo wi sp P wa no ki pl qu ca m) (a1 : Int32) : cn_now mi fo wi sp P no ki pl fd a1 = mn_now P m fd a1 := by
  obtain ⟨⟨e0, e1, e2, e3, e4⟩, -, hB, -⟩ := id h
  have hE : (if edC mi fo wi sp = -1 then (0 : Int32) else 1 + edC mi fo wi sp) = (bif huM mi fo wi sp then 1 + eg mi fo sp else 0) := by
    unfold edC
    rw [← hu_eq hB]
    cases hh : hu mi fo wi sp
    · rw [cond_false, cond_false, if_pos rfl]
    · rw [cond_true, cond_true, if_neg (hu_pos hB hh).2]
  unfold cn_now mn_now
  rw [e0, e1, e2, e3, hE, h.loud, h.who]
theorem Rel.go (h : Rel B mi fo wi sp P wa no ki pl qu ca m) {n : Nat} (hn : B + n < 1000000) : Rel (B + n) (itT fo wi sp P ki n (mi, wa, pl, qu, ca)).1 fo wi sp P (itT fo wi sp P ki n (mi, wa, pl, qu, ca)).2.1 no ki (itT fo wi sp P ki n (mi, wa, pl, qu, ca)).2.2.1 (itT fo wi sp P ki n (mi, wa, pl, qu, ca)).2.2.2.1 (itT fo wi sp P ki n (mi, wa, pl, qu, ca)).2.2.2.2 (itM P m n) := by
  obtain ⟨⟨a0, a1, a2, a3, a4⟩, b, c, d, e, f⟩ := h
  have hB : Bs (m 0) (m 1) (m 2) (m 3) := by rw [a0, a1, a2, a3]; exact c
  have hm : (m 0).toInt + n < 1000000 := by rw [a0]; omega
  have em : (itT fo wi sp P ki n (mi, wa, pl, qu, ca)).1 = miN mi n := itT_mi fo wi sp P ki n _
  have ei := miN_int c.1 n (by omega)
  refine ⟨⟨by rw [itM_0, a0, em], (itM_lo P m (by decide) (by decide) n).trans a1, (itM_lo P m (by decide) (by decide) n).trans a2, (itM_lo P m (by decide) (by decide) n).trans a3, (itM_lo P m (by decide) (by decide) n).trans a4⟩, b, ?_, ?_, fun g hg => ?_, fun j hj => ?_⟩
  · rw [em]
    have c1 := c.1
    exact ⟨by omega, by omega, c.2.2⟩
  · rw [em, ei]; omega
  · rw [itM_lo P m (by omega) (by omega)]; exact e g hg
  · obtain ⟨f1, f2, f3⟩ := f j hj
    have e1 := itM_at hB hj f3 n hm
    refine ⟨(itM_k0 P m hj n).trans f1, ?_, by rw [e1]; exact it1_PI f3 n⟩
    rw [e1, f1, f2, a1, a2, a3]
    exact (itT_at fo wi sp ki (by omega) hj n (mi, wa, pl, qu, ca)).symm
theorem Rel.per (h : Rel B mi fo wi sp P wa no ki pl qu ca m) {j0 : Nat} {M : Nat → Int32} {k p q c : Int32} (hlo : ∀ n, n < 35 → M n = m n) (ho : ∀ j k, j ≠ j0 → k < 5 → pf M j k = pf m j k) (hk : pf M j0 0 = k) (ha : j0 < P → atM M j0 = (mi, bitOf wa j0, p, q, c) ∧ PI (mi, bitOf wa j0, p, q, c)) : Rel B mi fo wi sp P wa no (upd ki j0 k) (upd pl j0 p) (upd qu j0 q) (upd ca j0 c) M := by
  obtain ⟨⟨a0, a1, a2, a3, a4⟩, b, cB, d, e, f⟩ := h
  refine ⟨⟨(hlo 0 (by decide)).trans a0, (hlo 1 (by decide)).trans a1, (hlo 2 (by decide)).trans a2, (hlo 3 (by decide)).trans a3, (hlo 4 (by decide)).trans a4⟩, b, cB, d, fun g hg => ?_, fun j hj => ?_⟩
  · rw [hlo _ (by omega)]; exact e g hg
  · by_cases z : j = j0
    · subst z
      obtain ⟨g1, g2⟩ := ha hj
      rw [g1, upd_at]
      refine ⟨hk, ?_, g2⟩
      show _ = (mi, bitOf wa j, upd pl j p j, upd qu j q j, upd ca j c j)
      rw [upd_at, upd_at, upd_at]
    · have ea : atM M j = atM m j := by
        unfold atM
        rw [ho j 4 z (by decide), ho j 1 z (by decide), ho j 2 z (by decide), ho j 3 z (by decide), hlo 0 (by decide)]
      obtain ⟨f1, f2, f3⟩ := f j hj
      rw [ea, ho j 0 z (by decide), upd_ne z]
      refine ⟨f1, ?_, f3⟩
      rw [f2]
      show (mi, bitOf wa j, pl j, qu j, ca j) = (mi, bitOf wa j, upd pl j0 p j, upd qu j0 q j, upd ca j0 c j)
      rw [upd_ne z, upd_ne z, upd_ne z]
theorem Rel.PI1 (h : Rel B mi fo wi sp P wa no ki pl qu ca m) {j : Nat} (hj : j < P) : PI (mi, bitOf wa j, pl j, qu j, ca j) := by
  obtain ⟨-, b, c⟩ := h.2.2.2.2.2 j hj
  rw [b] at c; exact c
theorem Rel.put1 (h : Rel B mi fo wi sp P wa no ki pl qu ca m) {j : Nat} (hj : j < P) {k : Nat} {v k2 p2 q2 c2 : Int32} (hk : k < 4) (hp : PI (mi, bitOf wa j, p2, q2, c2)) (h0 : k2 = if k = 0 then v else ki j) (h1 : p2 = if k = 1 then v else pl j) (h2 : q2 = if k = 2 then v else qu j) (h3 : c2 = if k = 3 then v else ca j) : Rel B mi fo wi sp P wa no (upd ki j k2) (upd pl j p2) (upd qu j q2) (upd ca j c2) (pu m j k v) := by
  obtain ⟨g0, g1, g2, g3, g4⟩ := h.at hj
  have hpf : ∀ i, i < 5 → pf (pu m j k v) j i = if k = i then v else pf m j i := by
    intro i hi
    by_cases z : k = i
    · subst z; rw [pf_pu_s, if_pos rfl]
    · rw [pf_pu_k (fun e => z e.symm), if_neg z]
  refine h.per (fun n hn => pu_lo hn) (fun i k2 hi hk2 => pf_pu_j hi (by omega) hk2) ?_ (fun _ => ⟨?_, hp⟩)
  · rw [hpf 0 (by decide), h0, g0]
  · unfold atM
    rw [pu_lo (by decide), hpf 4 (by decide), hpf 1 (by decide), hpf 2 (by decide), hpf 3 (by decide), if_neg (by omega), h.1.1, g4, h1, h2, h3, g1, g2, g3]
theorem Rel.kind1 (h : Rel B mi fo wi sp P wa no ki pl qu ca m) {j : Nat} (hj : j < P) (v : Int32) : Rel B mi fo wi sp P wa no (upd ki j v) pl qu ca (pu m j 0 v) := by
  have := h.put1 hj (k := 0) (v := v) (by decide) (h.PI1 hj) rfl rfl rfl rfl
  rw [upd_self, upd_self, upd_self] at this
  exact this
end REL
