section REL5
variable {mi fo wi sp wa : Int32} {B P : Nat} {no ki pl qu ca m fd : Nat → Int32}
variable {k k2 Z Z2 : Nat} {b b2 : Int32} {nu nu2 : Nat → Int64} {bi4 si4 : Nat → Int32} {ce : Nat → Int64}
theorem inM_20 {v : Int64} (h : inM v 0 20 = true) : 0 ≤ v.toInt32.toInt ∧ v.toInt32.toInt ≤ 20 := by
  unfold inM at h
  simp only [Bool.and_eq_true, Bool.not_eq_true', decide_eq_false_iff_not, lg_cmp_lt, lg_cmp_gt, Int64.lt_iff_toInt_lt, Int.not_lt, Int32.toInt_toInt64] at h
  have z0 : (0 : Int32).toInt = 0 := by decide
  have z2 : (20 : Int32).toInt = 20 := by decide
  rw [z0, z2] at h
  have e : v.toInt32.toInt = v.toInt := by
    rw [Int64.toInt_toInt32]
    exact Int.bmod_eq_of_le (by omega) (by omega)
  rw [e]; exact h
theorem laN_rel (h : Rel B mi fo wi sp P wa no ki pl qu ca m) {f g : Nat → Int64} : ∀ n, n ≤ 30 → (∀ i, i < n → f i = g i) → (laN f 0 no n).1 = (laN g 5 m n).1 ∧ Rel B mi fo wi sp P wa (laN f 0 no n).2 ki pl qu ca (laN g 5 m n).2
  | 0, _, _ => ⟨rfl, h⟩
  | n + 1, hn, hf => by
    obtain ⟨h1, h2⟩ := laN_rel h n (by omega) (fun i hi => hf i (by omega))
    have e := hf n (by omega)
    cases c : inM (g n) 0 20
    · rw [laN_n (nu := g) (o := 5) (no := m) (i := n) c, laN_n (nu := f) (o := 0) (no := no) (i := n) (by rw [e]; exact c)]
      exact ⟨h1, h2⟩
    · rw [laN_y (nu := g) (o := 5) (no := m) (i := n) c, laN_y (nu := f) (o := 0) (no := no) (i := n) (by rw [e]; exact c), Nat.zero_add, e, h1]
      have hb := inM_20 c
      exact ⟨rfl, h2.noise (by omega) hb.1 hb.2⟩
theorem rel_lays (h : Rel B mi fo wi sp P wa no ki pl qu ca m) (hs : Rs k b Z nu bi4 si4 ce) (a1 : Int32) (hx : inR a1 0 3 = true → ix a1 = k) :
    (cn_lays b Z nu no fd a1).1 = (mn_lays (bi4 (ix a1)) Z ce m fd a1).1 ∧ (cn_lays b Z nu no fd a1).2.2 = (mn_lays (bi4 (ix a1)) Z ce m fd a1).2.2 ∧ Rel B mi fo wi sp P wa (cn_lays b Z nu no fd a1).2.1 ki pl qu ca (mn_lays (bi4 (ix a1)) Z ce m fd a1).2.1 := by
  obtain ⟨s1, s2, s3, s4⟩ := id hs
  unfold cn_lays mn_lays
  by_cases c : inR a1 0 3 = true
  · rw [if_pos c, hx c, s1]
    by_cases d : b = 0
    · have e : ntC a1 b = -1000000006 := by unfold ntC; rw [if_pos c, if_pos d]
      have e2 : fobK a1 b = 5 := if_pos ⟨c, d⟩
      rw [if_pos d, e, e2, if_neg (by decide +kernel)]; exact ⟨rfl, rfl, h⟩
    · have e : ntC a1 b = 0 := by unfold ntC; rw [if_pos c, if_neg d]
      rw [if_neg d, if_pos e]
      obtain ⟨q1, q2⟩ := laN_rel h (f := nu) (g := fun q => ce (40 * k + q)) (min Z 30) (by omega) (fun i hi => (s4 i (by omega)).symm)
      exact ⟨congrArg nI q1, rfl, q2⟩
  · have e : ntC a1 (bi4 (ix a1)) = -1000000001 := by unfold ntC; rw [if_neg c]
    have e2 : fobK a1 (bi4 (ix a1)) = 0 := if_neg (fun q => c q.1)
    rw [if_neg c, e, e2, if_neg (by decide +kernel)]; exact ⟨rfl, rfl, h⟩
theorem rel_book (h : Rel 99999 mi fo wi sp P wa no ki pl qu ca m) (hs : Rs k b Z nu bi4 si4 ce) (a1 a2 : Int32) (hx : inR a1 0 3 = true → ix a1 = k) :
    (cn_book mi fo wi sp P wa ki pl qu ca fd b Z nu a1 a2).1 = (mn_book P m fd (bi4 (ix a1)) Z ce a1 a2).1 ∧ (cn_book mi fo wi sp P wa ki pl qu ca fd b Z nu a1 a2).2.2 = (mn_book P m fd (bi4 (ix a1)) Z ce a1 a2).2.2 ∧ Rs k b Z (cn_book mi fo wi sp P wa ki pl qu ca fd b Z nu a1 a2).2.1 bi4 si4 (mn_book P m fd (bi4 (ix a1)) Z ce a1 a2).2.1 := by
  obtain ⟨s1, s2, s3, s4⟩ := id hs
  have hb : inR a1 0 3 = true → bi4 (ix a1) = b := fun q => by rw [hx q]; exact s1
  unfold cn_book mn_book
  rw [(fob_b (a2 := a2) (Z := P) hb).1, (fob_b (a2 := a2) (Z := P) hb).2]
  by_cases c : fobC a1 b a2 P = 0
  · rw [if_pos c, if_pos c]
    obtain ⟨f1, f2, f3⟩ := fob_0 c
    obtain ⟨hy, hj⟩ := ix_person f3 h.2.1
    rw [hx f1, s1]
    refine ⟨rfl, rfl, s1, s2, s3, fun i hi => ?_⟩
    show bkO (fun n => cutC b (pf (itM P m n) (ix a2) 1).toInt64) ce (40 * k) Z (40 * k + i) = mixL (fun n => cutC b (it1 fo wi sp (ki (ix a2)) n (mi, bitOf wa (ix a2), pl (ix a2), qu (ix a2), ca (ix a2))).2.2.1.toInt64) nu Z i
    unfold bkO mixL
    by_cases r : i < Z
    · rw [if_pos r, if_pos (by omega), show 40 * k + i - 40 * k = i by omega]
      show cutC b (pf (itM P m i) (ix a2) 1).toInt64 = cutC b (it1 fo wi sp (ki (ix a2)) i (mi, bitOf wa (ix a2), pl (ix a2), qu (ix a2), ca (ix a2))).2.2.1.toInt64
      rw [← h.it1 (n := i) hj (by omega)]
      rfl
    · rw [if_neg r, if_neg (by omega)]; exact s4 i hi
  · rw [if_neg c, if_neg c]; exact ⟨rfl, rfl, hs⟩
theorem oth_book (h : Rs k2 b2 Z2 nu2 bi4 si4 ce) (hZ : Z ≤ 40) (a1 a2 : Int32) (hx : inR a1 0 3 = true → ¬ ix a1 = k2) : Rs k2 b2 Z2 nu2 bi4 si4 (mn_book P m fd (bi4 (ix a1)) Z ce a1 a2).2.1 := by
  unfold mn_book
  by_cases c : fobC a1 (bi4 (ix a1)) a2 P = 0
  · rw [if_pos c]
    obtain ⟨f1, f2, f3⟩ := fob_0 c
    have hn := hx f1
    obtain ⟨h1, h2, h3, h4⟩ := h
    refine ⟨h1, h2, h3, fun i hi => ?_⟩
    rw [← h4 i hi]
    exact if_neg (by omega)
  · rw [if_neg c]; exact h
theorem gaw_congr {f g : Nat → Int32} {x y : Nat → Int64} {Z : Nat} (h : ∀ i, i < Z → f i = g i ∧ x i = y i) : gaw f x Z = gaw g y Z := by
  unfold gaw
  rw [fs1_congr (p := fun n => !decide (x n = (f n).toInt64)) (q := fun n => !decide (y n = (g n).toInt64)) Z 0 (fun i _ hi => by
    show (!decide (x i = (f i).toInt64)) = !decide (y i = (g i).toInt64)
    rw [(h i (by omega)).1, (h i (by omega)).2])]
theorem rel_read (h : Rel 99999 mi fo wi sp P wa no ki pl qu ca m) (hs : Rs k b Z nu bi4 si4 ce) (a1 a2 : Int32) (hx : inR a1 0 3 = true → ix a1 = k) :
    cn_read mi fo wi sp P wa qu ca fd b Z nu a1 a2 = mn_read P m fd (bi4 (ix a1)) Z ce a1 a2 := by
  obtain ⟨s1, s2, s3, s4⟩ := id hs
  have hb : inR a1 0 3 = true → bi4 (ix a1) = b := fun q => by rw [hx q]; exact s1
  unfold cn_read mn_read
  rw [(fob_b (a2 := a2) (Z := P) hb).1, (fob_b (a2 := a2) (Z := P) hb).2]
  by_cases c : fobC a1 b a2 P = 0
  · rw [if_pos c, if_pos c]
    obtain ⟨f1, f2, f3⟩ := fob_0 c
    obtain ⟨hy, hj⟩ := ix_person f3 h.2.1
    rw [hx f1]
    rw [sumF_congr (f := fun q => bi (gaw (fun n => (it1 fo wi sp (nI (q / 30)) n (mi, bitOf wa (ix a2), nI (q % 30), qu (ix a2), ca (ix a2))).2.2.1) nu Z)) (g := fun q => bi (gaw (fun n => pf (itM P (pu (pu m (ix a2) 0 (nI (q / 30))) (ix a2) 1 (nI (q % 30))) n) (ix a2) 1) (fun r => ce (40 * k + r)) Z)) (n := 180) (fun q hq => congrArg bi (gaw_congr (fun i hi => by
      have hv : (nI (q % 30)).toInt = (q % 30 : Nat) := nI_toInt (by omega)
      have hr := ((h.kind1 hj (nI (q / 30))).pl1 hj (v := nI (q % 30)) (by omega) (by omega)).it1 (n := i) hj (by omega)
      rw [upd_at, upd_at] at hr
      refine ⟨?_, (s4 i (by omega)).symm⟩
      show (it1 fo wi sp (nI (q / 30)) i (mi, bitOf wa (ix a2), nI (q % 30), qu (ix a2), ca (ix a2))).2.2.1 = pf (itM P (pu (pu m (ix a2) 0 (nI (q / 30))) (ix a2) 1 (nI (q % 30))) i) (ix a2) 1
      rw [← hr]; rfl)))]
  · rw [if_neg c, if_neg c]
theorem rs_start (k : Nat) : Rs k 0 0 (fun _ => 0) (fun _ => 0) (fun _ => 0) (fun _ => 0) := ⟨rfl, rfl, by decide, fun _ _ => rfl⟩
theorem sh_cases (a : Int32) : (inR a 0 3 = true → ix a = 0) ∨ (inR a 0 3 = true → ix a = 1) ∨ (inR a 0 3 = true → ix a = 2) ∨ (inR a 0 3 = true → ix a = 3) := by
  by_cases c : inR a 0 3 = true
  · have := (ix_of 3 c (by decide) (by decide)).2
    rcases (show ix a = 0 ∨ ix a = 1 ∨ ix a = 2 ∨ ix a = 3 by omega) with e | e | e | e
    · exact Or.inl (fun _ => e)
    · exact Or.inr (Or.inl (fun _ => e))
    · exact Or.inr (Or.inr (Or.inl (fun _ => e)))
    · exact Or.inr (Or.inr (Or.inr (fun _ => e)))
  · exact Or.inl (fun q => absurd q c)
theorem rel_undo {mi4 fo4 wi4 sp4 wa4 : Int32} {P4 : Nat} {no4 ki4 pl4 qu4 ca4 ke : Nat → Int32} {kp : Bool} (h4 : kp = true → Rel 99999 mi4 fo4 wi4 sp4 P4 wa4 no4 ki4 pl4 qu4 ca4 ke) : (bif kp then nI P4 else -1000000004) = (mn_undo kp m ke fd).1 := by
  unfold mn_undo
  cases kp
  · rfl
  · exact (h4 rfl).1.2.2.2.2.symm
end REL5
