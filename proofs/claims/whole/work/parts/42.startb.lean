theorem ex_E {p : Program} {s : State} {m : MethodId} {meth : Method} {c : Code} {b L : Nat} {xs : Nat → Int32} (C0 : lw_At p s m meth c b L xs) : ∃ E : gE, gX E (fun q : Nat => s.heap.size ≤ q) s s.heap := by
  obtain ⟨hx, hb, hr, hml, hown, hts, hX, hbl, hlocks, hgv⟩ := C0
  have hf : ∀ c ∈ FLC, c.before #[Value.ref b] s = true := flat_of_before _ hgv
  have hA : ∀ a : Nat, a < s.heap.size → ¬ (fun q : Nat => s.heap.size ≤ q) a := fun a h => Nat.not_le.mpr h
  obtain ⟨c0, i0, k0⟩ := u_known (C := RX0) (T := TX0) (N := 3) (n := 3) hts lwiX0 (hts _ tb_i0)
  obtain ⟨c1, i1, k1⟩ := u_known (C := RX1) (T := TX1) (N := 7) (n := 7) hts lwiX1 (hts _ tb_i1)
  obtain ⟨c2, i2, k2⟩ := u_known (C := RX2) (T := TX2) (N := 11) (n := 11) hts lwiX2 (hts _ tb_i2)
  obtain ⟨c3, i3, k3⟩ := u_known (C := RX3) (T := TX3) (N := 7) (n := 7) hts lwiX3 (hts _ tb_i3)
  obtain ⟨c4, i4, k4⟩ := u_known (C := RX4) (T := TX4) (N := 15) (n := 15) hts lwiX4 (hts _ tb_i4)
  obtain ⟨dC, dI, hKc⟩ : ∃ (dC : Nat → ClassId) (dI : Nat → Nat → Nat), ∀ (k : Nat) (q : vw_C), vwCl[k]? = some q → u_Kn s q.1 q.2.1 q.2.2 (dC k) (dI k) := by
    refine ⟨fun k => if k = 0 then c0 else if k = 1 then c1 else if k = 2 then c2 else if k = 3 then c3 else c4, fun k => if k = 0 then i0 else if k = 1 then i1 else if k = 2 then i2 else if k = 3 then i3 else i4, ?_⟩
    intro k q hq
    match k, hq with
    | 0, hq => cases hq; exact k0
    | 1, hq => cases hq; exact k1
    | 2, hq => cases hq; exact k2
    | 3, hq => cases hq; exact k3
    | 4, hq => cases hq; exact k4
    | k + 5, hq => simp [vwCl] at hq
  obtain ⟨cI, kI, mI, fI, gI1, hI1⟩ := Cond.arrayClass_spec (hts _ tb_ai)
  obtain ⟨cJ, kJ, mJ, fJ, gJ1, hJ1⟩ := Cond.arrayClass_spec (hts _ tb_aj)
  obtain ⟨mS, cS, kS, fS, -, gS1, hS1, nS⟩ := Cond.arrayOver_spec (hts _ tb_ao)
  have hK : va_K (dC, dI) vwCl [(cI, .int), (cJ, .long), (cS, .object RX0)] s := by
    refine ⟨hKc, fun k q hq => ?_⟩
    match k, hq with
    | 0, hq => cases hq; exact ⟨fun n z => ⟨fun k h => (by cases h), kI, gI1, mI, hI1⟩, fI⟩
    | 1, hq => cases hq; exact ⟨fun n z => ⟨fun k h => (by cases h), kJ, gJ1, mJ, hJ1⟩, fJ⟩
    | 2, hq => cases hq; exact ⟨fun n z => ⟨fun k h => (by cases h), kS, gS1, mS, hS1⟩, kS, mS, gS1, hS1, fS, nS⟩
    | k + 3, hq => simp at hq
  obtain ⟨aK, aV, hSt, hev⟩ := vk_Sof (args := #[Value.ref b]) (s := s) (N := 11) (tm := tmS) (len := sLen) (byt := sByt) (A := fun q : Nat => s.heap.size ≤ q) (fun i hi => Nat.lt_of_le_of_lt (sLen_6 i hi) (by decide)) (fun i hi => hf _ (fl_ex i hi)) (fun i hi => hf _ (fl_co i hi)) (fun i hi => hf _ (fl_ar i hi)) (fun i hi => hf _ (fl_le i hi)) (fun i hi j hj => hf _ (fl_el i hi j (by have := sLen_6 i hi; omega) hj)) (fun i j hi hj hij => (fl_ne i hi j hj hij).imp (fun h => hf _ h) (fun h => hf _ h)) hA
  obtain ⟨tn, htn, hTn⟩ := va_Tof (args := #[Value.ref b]) (s := s) (tm := .static RX4 "NAMES" "[I") (ty := .int) (N := 77) (f := nmV) (A := fun q : Nat => s.heap.size ≤ q) (by decide) (hf _ fl_na) (va_eqt (hf _ fl_nl)) (fun j hj => va_eqt (hf _ (fl_nm j hj))) hA
  refine ⟨((dC, dI), cI, cJ, cS, aK, aV, tn), hK, ⟨va_Nw.of rfl (hts _ tb_n1), va_Nw.of rfl (hts _ tb_n2), va_Nw.of rfl (hts _ tb_n3), va_Nw.of rfl (hts _ tb_n4)⟩, fun i hi => vk_R.of (A := #[Value.ref b]) (hts _ (tb_sr i hi)) (hev i hi), hSt, va_Zref (hts _ tb_ln) (hts _ tb_lni) htn hA, hTn, va_Zof (hts _ tb_lc) (hts _ tb_lci) (va_eqt (hf _ fl_cs)) hA, va_Zqof (hts _ tb_ls) (hts _ tb_lsi) (hf _ fl_si) hA⟩
