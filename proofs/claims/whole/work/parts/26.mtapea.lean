/-! the reference's tape -/
theorem inB_L {by1 : Nat → Int32} {L j : Nat} {a b : Int32} (h : inB by1 L j a b = true) : j < L := by
  unfold inB at h; rw [Bool.and_eq_true] at h; exact of_decide_eq_true h.1
theorem inB_R {by1 : Nat → Int32} {L j : Nat} {a b : Int32} (h : inB by1 L j a b = true) : inR (by1 j) a b = true := by
  unfold inB at h; rw [Bool.and_eq_true] at h; exact h.2
theorem er_stop {by1 : Nat → Int32} {L i : Nat} {a b : Int32} (hi : i ≤ L) (h : inB by1 L i a b = false) : er by1 a b (L - i) i = i := by
  by_cases c : i < L
  · rw [inB_lt c] at h; exact er_no h
  · rw [show i = L by omega]; exact er_end
def mh (k n : Nat) : Bool := decide (n ≤ 7) && (decide (n = 7) || decide (nmF (7 * k + n) = 0))
def mqv (by1 : Nat → Int32) (p n k i : Nat) : Bool := mh k n && (fs1 (fun i => !decide (nmF (7 * k + i) = by1 (p + i))) i 0).isNone
theorem mh_a {k n : Nat} (h : nI 7 < nI n) (hn : n ≤ 120) : 0 = bi (mh k n) := by
  have := (nI_ltI (a := 7) (b := n) (by decide) (by omega)).mp h
  unfold mh; rw [decide_eq_false (by omega)]; rfl
theorem mh_b {k n : Nat} (h : nI n = nI 7) (hn : n ≤ 120) : 1 = bi (mh k n) := by
  have := (nI_eq (a := n) (b := 7) (by omega) (by decide)).mp h
  unfold mh; rw [decide_eq_true (by omega), decide_eq_true this]; rfl
theorem mh_c {k n : Nat} (hn : n < 7) (h : ¬ nmF (7 * k + n) = 0) : 0 = bi (mh k n) := by
  unfold mh; rw [decide_eq_true (by omega), decide_eq_false (by omega), decide_eq_false h]; rfl
theorem mh_d {k n : Nat} (hn : n < 7) (h : nmF (7 * k + n) = 0) : 1 = bi (mh k n) := by
  unfold mh; rw [decide_eq_true (by omega), decide_eq_true h, Bool.or_true]; rfl
theorem mq_0 (by1 : Nat → Int32) (p n k : Nat) : mh k n = mqv by1 p n k 0 := (Bool.and_true _).symm
theorem mq_s (by1 : Nat → Int32) (p n k i : Nat) : mqv by1 p n k (i + 1) = (mqv by1 p n k i && decide (nmF (7 * k + i) = by1 (p + i))) := by
  unfold mqv; rw [fs1_sn, Nat.zero_add, Bool.not_not, Bool.and_assoc]
theorem mq_a {by1 : Nat → Int32} {p n k i : Nat} (h : mqv by1 p n k i = true) (h2 : ¬ nmF (7 * k + i) = by1 (p + i)) : 0 = bi (mqv by1 p n k (i + 1)) := by
  rw [mq_s, h, decide_eq_false h2]; rfl
theorem mq_b {by1 : Nat → Int32} {p n k i : Nat} (h : mqv by1 p n k i = true) (h2 : nmF (7 * k + i) = by1 (p + i)) : 1 = bi (mqv by1 p n k (i + 1)) := by
  rw [mq_s, h, decide_eq_true h2]; rfl
theorem mq_f {by1 : Nat → Int32} {p n k i : Nat} (h : mqv by1 p n k i = false) : ∀ d, mqv by1 p n k (i + d) = false
  | 0 => h
  | d + 1 => by
    show mqv by1 p n k (i + d + 1) = false
    rw [mq_s, mq_f h d]; rfl
theorem mq_e {by1 : Nat → Int32} {p n k i : Nat} (h : mqv by1 p n k i = false) (hi : i ≤ n) : mqv by1 p n k i = mtM by1 p n k := by
  obtain ⟨d, rfl⟩ : ∃ d, n = i + d := ⟨n - i, by omega⟩
  rw [h]; exact (mq_f h d).symm
theorem mq_7 {by1 : Nat → Int32} {p n k i : Nat} (h : mqv by1 p n k i = true) : n ≤ 7 := by
  unfold mqv mh at h; rw [Bool.and_eq_true, Bool.and_eq_true] at h; exact of_decide_eq_true h.1.1
theorem i7 (k i : Nat) : (7 : Int32) * nI k + nI i = nI (7 * k + i) := by
  show nI 7 * nI k + nI i = _
  rw [pk_mul, nI_add]
set_option maxHeartbeats 4000000 in
set_option maxRecDepth 100000 in
theorem c_X4_isByte (l : Launch) (E : gE) (h : Nat) (qm : Nat) (qk : Nat) (qw : Nat) (kp : Bool) (qf : Nat) (qt : Nat) (L : Nat) (qbi : Nat) (qsi : Nat) (qce : Nat) (tok : Int32) (beg : Int32) (att : Int32) (val : Int32) (bad : Int32) (by1 : Nat → Int32) (j : Nat) (a : Int32) (b : Int32) (hL : L ≤ 120) (hj : j < 2 ^ 31) : gI l yX4_isByte wsX4_isByte ({ frames := 1, cells := 0, slots := 0, locals := 23 }) E [(h, .inr (4, [.ref qm, .ref qk, .ref qw, .int (bi kp), .ref qf, .ref qt, .int (nI L), .int tok, .int beg, .int att, .int val, .int bad, .ref qbi, .ref qsi, .ref qce])), (qt, .inl (eI E, 120, .inl by1))] (fun _ : Unit => [(h, .inr (4, [.ref qm, .ref qk, .ref qw, .int (bi kp), .ref qf, .ref qt, .int (nI L), .int tok, .int beg, .int att, .int val, .int bad, .ref qbi, .ref qsi, .ref qce])), (qt, .inl (eI E, 120, .inl by1))]) [.ref h, .int (nI j), .int a, .int b] (fun (r : Int32) (_ : Unit) => r = bi (inB by1 L j a b)) := by
  have hin4 : ∀ w ∈ wsX40, w ∈ wsX4_isByte := (fun _ h => (List.mem_cons_of_mem _ (List.mem_append_right _ h)))
  refine gI.of (cc := cX4_isByte) (maxL := 4) (by decide) rfl (Nat.le_of_ble_eq_true rfl) ?_
  intro pG eG sG mG below meth cG A ls H locs F hr hlk hX hP hD hA hS hl
  have hl : lv_has ls 4 [(0, .ref h), (1, .int (nI j)), (2, .int a), (3, .int b)] := hl
  refine lv_iload_n F.1 F.2.1 dX4_isByte_0 rfl (lv_at hl 1 rfl) ?_
  refine lv_aload_n F.1 F.2.1 dX4_isByte_1 rfl (lv_at hl 0 rfl) ?_
  refine g_get F hX hP hin4 0 rfl rfl 6 (by decide) (mm 1 rfl) rfl dX4_isByte_2 ?_
  refine lv_icmp_ge (tgt := 27) F.1 F.2.1 dX4_isByte_5 (by decide) (fun k1 => ?_) (fun k1 => ?_)
  · refine lv_iconst (v := 0) F.1 F.2.1 dX4_isByte_27 (by decide) ?_
    exact g_reti F hr hlk rfl hS hP hD (()) (rfl) (by first | (rw [inB_lt hjL, k1]; rfl) | (unfold inB; rw [decide_eq_false (Nat.not_lt.mpr ((nI_leI (by omega) hj).mp k1))]; rfl)) dX4_isByte_28
  · have hjL : j < L := Nat.lt_of_not_le (fun h => k1 (nI_le h (by omega)))
    refine lv_aload_n F.1 F.2.1 dX4_isByte_8 rfl (lv_at hl 0 rfl) ?_
    refine g_get F hX hP hin4 0 rfl rfl 5 (by decide) (mm 2 rfl) rfl dX4_isByte_9 ?_
    refine lv_iload_n F.1 F.2.1 dX4_isByte_12 rfl (lv_at hl 1 rfl) ?_
    refine g_iald F hX hP 1 rfl (j := j) (rfl) (by omega) (by decide) dX4_isByte_13 ?_
    refine lv_i2l (v := (by1 j : Int32).toInt64) F.1 F.2.1 dX4_isByte_14 rfl ?_
    refine lv_iload_n F.1 F.2.1 dX4_isByte_15 rfl (lv_at hl 2 rfl) ?_
    refine lv_iload_n F.1 F.2.1 dX4_isByte_16 rfl (lv_at hl 3 rfl) ?_
    refine g_goIr (g_runS (As := [.long ((by1 j : Int32).toInt64), .int a, .int b]) (rest := []) F hX hP hD hS hA (c_X4_in_i l E (by1 j) a b H.size) (va_cwS 3 F.2.2.2.2 gX4_isByte_X4_in rfl rfl rfl (by decide +kernel) ⟨Nat.le_of_ble_eq_true rfl, Nat.le_of_ble_eq_true rfl⟩) [] rfl rfl rfl hl.1 rfl (Nat.le_of_ble_eq_true rfl) dX4_isByte_17 ⟨Nat.le_refl _, Nat.le_refl _⟩) hP hD hS hA [] rfl (fun r _ H locs hq hP hS => ?_)
    subst hq
    refine g_beq (tgt := 27) F dX4_isByte_20 (by decide) (fun k2 => ?_) (fun k2 => ?_)
    · refine lv_iconst (v := 0) F.1 F.2.1 dX4_isByte_27 (by decide) ?_
      exact g_reti F hr hlk rfl hS hP hD (()) (rfl) (by first | (rw [inB_lt hjL, k2]; rfl) | (unfold inB; rw [decide_eq_false (Nat.not_lt.mpr ((nI_leI (by omega) hj).mp k2))]; rfl)) dX4_isByte_28
    · refine lv_iconst (v := 1) F.1 F.2.1 dX4_isByte_23 (by decide) ?_
      refine lv_goto (tgt := 28) F.1 F.2.1 dX4_isByte_24 (by decide) ?_
      exact g_reti F hr hlk rfl hS hP hD (()) (rfl) (by first | (rw [inB_lt hjL, k2]; rfl) | (unfold inB; rw [decide_eq_false (Nat.not_lt.mpr ((nI_leI (by omega) hj).mp k2))]; rfl)) dX4_isByte_28
set_option maxHeartbeats 4000000 in
set_option maxRecDepth 100000 in
theorem c_X4_isName (l : Launch) (E : gE) (h : Nat) (qm : Nat) (qk : Nat) (qw : Nat) (kp : Bool) (qf : Nat) (qt : Nat) (L : Nat) (qbi : Nat) (qsi : Nat) (qce : Nat) (tok : Int32) (att : Int32) (val : Int32) (bad : Int32) (by1 : Nat → Int32) (k : Nat) (n : Nat) (p : Nat) (hL : L ≤ 120) (hk : k < 11) (hn : p + n ≤ L) : gI l yX4_isName wsX4_isName ({ frames := 0, cells := 0, slots := 0, locals := 0 }) E [(h, .inr (4, [.ref qm, .ref qk, .ref qw, .int (bi kp), .ref qf, .ref qt, .int (nI L), .int tok, .int (nI p), .int att, .int val, .int bad, .ref qbi, .ref qsi, .ref qce])), (qt, .inl (eI E, 120, .inl by1))] (fun _ : Unit => [(h, .inr (4, [.ref qm, .ref qk, .ref qw, .int (bi kp), .ref qf, .ref qt, .int (nI L), .int tok, .int (nI p), .int att, .int val, .int bad, .ref qbi, .ref qsi, .ref qce])), (qt, .inl (eI E, 120, .inl by1))]) [.ref h, .int (nI k), .int (nI n)] (fun (r : Int32) (_ : Unit) => r = bi (mtM by1 p n k)) := by
  have hin4 : ∀ w ∈ wsX40, w ∈ wsX4_isName := (fun _ h => (List.mem_cons_of_mem _ (List.mem_append_right _ h)))
  refine gI.of (cc := cX4_isName) (maxL := 5) (by decide) rfl (Nat.le_of_ble_eq_true rfl) ?_
  intro pG eG sG mG below meth cG A ls H locs F hr hlk hX hP hD hA hS hl
  have hl : lv_has ls 5 [(0, .ref h), (1, .int (nI k)), (2, .int (nI n))] := hl
  refine lv_iload_n F.1 F.2.1 dX4_isName_0 rfl (lv_at hl 2 rfl) ?_
  refine lv_bipush (v := 7) F.1 F.2.1 dX4_isName_1 (by decide) ?_
  have jn30 : ∀ (H : Heap) (locs : List Loc) (ls : Array Slot), va_P (eD E) vwCl [(h, .inr (4, [.ref qm, .ref qk, .ref qw, .int (bi kp), .ref qf, .ref qt, .int (nI L), .int tok, .int (nI p), .int att, .int val, .int bad, .ref qbi, .ref qsi, .ref qce])), (qt, .inl (eI E, 120, .inl by1))] H → va_D A [(h, .inr (4, [.ref qm, .ref qk, .ref qw, .int (bi kp), .ref qf, .ref qt, .int (nI L), .int tok, .int (nI p), .int att, .int val, .int bad, .ref qbi, .ref qsi, .ref qce])), (qt, .inl (eI E, 120, .inl by1))] → va_S A sG.heap H locs → lv_has ls 5 [(0, .ref h), (1, .int (nI k)), (2, .int (nI n))] → W pG l eG { frames := 0, cells := 0, slots := 0, locals := 0 } sG mG [.ref h, .int (nI k), .int (nI n)].toArray below meth cG H locs 0 0 (MQ below (va_Qi (fun (r : Int32) (_ : Unit) => r = bi (mtM by1 p n k)) (gR E (fun _ : Unit => [(h, .inr (4, [.ref qm, .ref qk, .ref qw, .int (bi kp), .ref qf, .ref qt, .int (nI L), .int tok, .int (nI p), .int att, .int val, .int bad, .ref qbi, .ref qsi, .ref qce])), (qt, .inl (eI E, 120, .inl by1))]) A) A) [.ref h, .int (nI k), .int (nI n)].toArray sG 0 0 A) (F0 mG 30 ls [.int (bi (mh k n))]) := by
    intro H locs ls hP hD hS hl
    refine lv_istore_n (lv' := [(3, .int (bi (mh k n))), (0, .ref h), (1, .int (nI k)), (2, .int (nI n))]) F.1 F.2.1 dX4_isName_30 rfl hl (by decide) rfl (fun ls hl => ?_)
    refine lv_iconst (v := 0) F.1 F.2.1 dX4_isName_31 (by decide) ?_
    refine lv_istore (lv' := [(4, .int 0), (3, .int (bi (mh k n))), (0, .ref h), (1, .int (nI k)), (2, .int (nI n))]) F.1 F.2.1 dX4_isName_32 hl (by decide) rfl (fun ls hl => ?_)
    have lp34 : ∀ (fu i : Nat), i ≤ n → n + 1 ≤ i + fu → ∀ (H : Heap) (locs : List Loc) (ls : Array Slot), va_P (eD E) vwCl [(h, .inr (4, [.ref qm, .ref qk, .ref qw, .int (bi kp), .ref qf, .ref qt, .int (nI L), .int tok, .int (nI p), .int att, .int val, .int bad, .ref qbi, .ref qsi, .ref qce])), (qt, .inl (eI E, 120, .inl by1))] H → va_D A [(h, .inr (4, [.ref qm, .ref qk, .ref qw, .int (bi kp), .ref qf, .ref qt, .int (nI L), .int tok, .int (nI p), .int att, .int val, .int bad, .ref qbi, .ref qsi, .ref qce])), (qt, .inl (eI E, 120, .inl by1))] → va_S A sG.heap H locs → lv_has ls 5 [(4, .int (nI i)), (3, .int (bi (mqv by1 p n k i))), (0, .ref h), (1, .int (nI k)), (2, .int (nI n))] → W pG l eG { frames := 0, cells := 0, slots := 0, locals := 0 } sG mG [.ref h, .int (nI k), .int (nI n)].toArray below meth cG H locs 0 0 (MQ below (va_Qi (fun (r : Int32) (_ : Unit) => r = bi (mtM by1 p n k)) (gR E (fun _ : Unit => [(h, .inr (4, [.ref qm, .ref qk, .ref qw, .int (bi kp), .ref qf, .ref qt, .int (nI L), .int tok, .int (nI p), .int att, .int val, .int bad, .ref qbi, .ref qsi, .ref qce])), (qt, .inl (eI E, 120, .inl by1))]) A) A) [.ref h, .int (nI k), .int (nI n)].toArray sG 0 0 A) (F0 mG 34 ls []) := by
      intro fu
      induction fu with
      | zero => intro i h1 h2; exact absurd h2 (by omega)
      | succ fu ih =>
        intro i hi hin   H locs ls hP hD hS hl
        refine lv_iload F.1 F.2.1 dX4_isName_34 (lv_at hl 0 rfl) ?_
        refine lv_iload_n F.1 F.2.1 dX4_isName_36 rfl (lv_at hl 4 rfl) ?_
        refine lv_icmp_ge (tgt := 82) F.1 F.2.1 dX4_isName_37 (by decide) (fun k1 => ?_) (fun k1 => ?_)
        · have hiN : n = i := Nat.le_antisymm ((nI_leI (by omega) (by omega)).mp k1) hi
          subst hiN
          refine lv_iload_n F.1 F.2.1 dX4_isName_82 rfl (lv_at hl 1 rfl) ?_
          exact g_reti F hr hlk (bi_nar _) hS hP hD (()) (rfl) (by first | rfl | exact congrArg bi (mq_e {c} hi)) dX4_isName_83
        · have hiN : i < n := Nat.lt_of_not_le (fun h => k1 (nI_le h (by omega)))
          refine lv_iload_n F.1 F.2.1 dX4_isName_40 rfl (lv_at hl 1 rfl) ?_
          refine g_beq (tgt := 82) F dX4_isName_41 (by decide) (fun k2 => ?_) (fun k2 => ?_)
          · refine lv_iload_n F.1 F.2.1 dX4_isName_82 rfl (lv_at hl 1 rfl) ?_
            exact g_reti F hr hlk (bi_nar _) hS hP hD (()) (rfl) (by first | rfl | exact congrArg bi (mq_e k2 hi)) dX4_isName_83
          · have hq7 := mq_7 k2
            refine va_gets F.1 F.2.1 hX.2.2.2.2.1 hS F.2.2.2.1 (F.2.2.2.2 _ (mm 1 rfl)) (fun _ h => h) dX4_isName_44 ?_
            refine lv_bipush (v := 7) F.1 F.2.1 dX4_isName_47 (by decide) ?_
            refine lv_iload_n F.1 F.2.1 dX4_isName_49 rfl (lv_at hl 3 rfl) ?_
            refine lv_imul F.1 F.2.1 dX4_isName_50 ?_
            refine lv_iload F.1 F.2.1 dX4_isName_51 (lv_at hl 0 rfl) ?_
            refine lv_iadd F.1 F.2.1 dX4_isName_53 ?_
            refine g_top (nI (7 * k + i)) (i7 _ _) ?_
            refine va_ti F.1 F.2.1 hX.2.2.2.2.2.1 hS (i := nI (7 * k + i)) (vp_in_nI (by omega) (by decide)) (v := .int (nmF (7 * k + i))) (by rw [nI_clamp (by omega)]; rfl) dX4_isName_54 ?_
            refine lv_aload_n F.1 F.2.1 dX4_isName_55 rfl (lv_at hl 2 rfl) ?_
            refine g_get F hX hP hin4 0 rfl rfl 5 (by decide) (mm 2 rfl) rfl dX4_isName_56 ?_
            refine lv_aload_n F.1 F.2.1 dX4_isName_59 rfl (lv_at hl 2 rfl) ?_
            refine g_get F hX hP hin4 0 rfl rfl 8 (by decide) (mm 3 rfl) rfl dX4_isName_60 ?_
            refine lv_iload F.1 F.2.1 dX4_isName_63 (lv_at hl 0 rfl) ?_
            refine lv_iadd F.1 F.2.1 dX4_isName_65 ?_
            refine g_iald F hX hP 1 rfl (j := p + i) (nI_add _ _) (by omega) (by decide) dX4_isName_66 ?_
            have jn75 : ∀ (H : Heap) (locs : List Loc) (ls : Array Slot), va_P (eD E) vwCl [(h, .inr (4, [.ref qm, .ref qk, .ref qw, .int (bi kp), .ref qf, .ref qt, .int (nI L), .int tok, .int (nI p), .int att, .int val, .int bad, .ref qbi, .ref qsi, .ref qce])), (qt, .inl (eI E, 120, .inl by1))] H → va_D A [(h, .inr (4, [.ref qm, .ref qk, .ref qw, .int (bi kp), .ref qf, .ref qt, .int (nI L), .int tok, .int (nI p), .int att, .int val, .int bad, .ref qbi, .ref qsi, .ref qce])), (qt, .inl (eI E, 120, .inl by1))] → va_S A sG.heap H locs → lv_has ls 5 [(4, .int (nI i)), (3, .int (bi (mqv by1 p n k i))), (0, .ref h), (1, .int (nI k)), (2, .int (nI n))] → W pG l eG { frames := 0, cells := 0, slots := 0, locals := 0 } sG mG [.ref h, .int (nI k), .int (nI n)].toArray below meth cG H locs 0 0 (MQ below (va_Qi (fun (r : Int32) (_ : Unit) => r = bi (mtM by1 p n k)) (gR E (fun _ : Unit => [(h, .inr (4, [.ref qm, .ref qk, .ref qw, .int (bi kp), .ref qf, .ref qt, .int (nI L), .int tok, .int (nI p), .int att, .int val, .int bad, .ref qbi, .ref qsi, .ref qce])), (qt, .inl (eI E, 120, .inl by1))]) A) A) [.ref h, .int (nI k), .int (nI n)].toArray sG 0 0 A) (F0 mG 75 ls [.int (bi (mqv by1 p n k (i + 1)))]) := by
              intro H locs ls hP hD hS hl
              refine lv_istore_n (lv' := [(3, .int (bi (mqv by1 p n k (i + 1)))), (4, .int (nI i)), (0, .ref h), (1, .int (nI k)), (2, .int (nI n))]) F.1 F.2.1 dX4_isName_75 rfl hl (by decide) rfl (fun ls hl => ?_)
              refine lv_iinc (v := nI (i + 1)) (lv' := [(4, .int (nI (i + 1))), (3, .int (bi (mqv by1 p n k (i + 1)))), (0, .ref h), (1, .int (nI k)), (2, .int (nI n))]) F.1 F.2.1 dX4_isName_76 hl (k := 1) rfl (nI_1 _) (by decide) rfl (fun ls hl => ?_)
              refine lv_goto (tgt := 34) F.1 F.2.1 dX4_isName_79 (by decide) ?_
              exact ih (i + 1) (by omega) (by omega)  _ _ _ hP hD hS (lv_sub hl [0, 1, 2, 3, 4] rfl)
            refine lv_icmp_ne (tgt := 74) F.1 F.2.1 dX4_isName_67 (by decide) (fun k3 => ?_) (fun k3 => ?_)
            · refine lv_iconst (v := 0) F.1 F.2.1 dX4_isName_74 (by decide) ?_
              refine g_top (bi (mqv by1 p n k (i + 1))) (by first | exact mq_a k2 k3 | exact mq_b k2 k3) ?_
              exact jn75 _ _ _ hP hD hS (lv_sub hl [0, 1, 2, 3, 4] rfl)
            · refine lv_iconst (v := 1) F.1 F.2.1 dX4_isName_70 (by decide) ?_
              refine lv_goto (tgt := 75) F.1 F.2.1 dX4_isName_71 (by decide) ?_
              refine g_top (bi (mqv by1 p n k (i + 1))) (by first | exact mq_a k2 k3 | exact mq_b k2 k3) ?_
              exact jn75 _ _ _ hP hD hS (lv_sub hl [0, 1, 2, 3, 4] rfl)
    rw [show (bi (mh k n) : Int32) = bi (mqv by1 p n k 0) from congrArg bi (mq_0 _ _ _ _)] at hl
    exact lp34 (n + 1) 0 (by omega) (by omega)  _ _ _ hP hD hS (lv_sub hl [0, 1, 2, 3, 4] rfl)
  refine lv_icmp_gt (tgt := 29) F.1 F.2.1 dX4_isName_3 (by decide) (fun k4 => ?_) (fun k4 => ?_)
  · refine lv_iconst (v := 0) F.1 F.2.1 dX4_isName_29 (by decide) ?_
    refine g_top (bi (mh k n)) (by first | exact mh_a k4 (by omega) | exact mh_b k4 (by omega) | exact mh_c hn7 k4 | exact mh_d hn7 k4) ?_
    exact jn30 _ _ _ hP hD hS (lv_sub hl [0, 1, 2] rfl)
  · refine lv_iload_n F.1 F.2.1 dX4_isName_6 rfl (lv_at hl 2 rfl) ?_
    refine lv_bipush (v := 7) F.1 F.2.1 dX4_isName_7 (by decide) ?_
    refine lv_icmp_eq (tgt := 25) F.1 F.2.1 dX4_isName_9 (by decide) (fun k5 => ?_) (fun k5 => ?_)
    · refine lv_iconst (v := 1) F.1 F.2.1 dX4_isName_25 (by decide) ?_
      refine lv_goto (tgt := 30) F.1 F.2.1 dX4_isName_26 (by decide) ?_
      refine g_top (bi (mh k n)) (by first | exact mh_a k5 (by omega) | exact mh_b k5 (by omega) | exact mh_c hn7 k5 | exact mh_d hn7 k5) ?_
      exact jn30 _ _ _ hP hD hS (lv_sub hl [0, 1, 2] rfl)
    · have hn7 : n < 7 := by
        have q1 : n ≤ 7 := Nat.le_of_not_lt (fun q => k4 (nI_lt q (by omega)))
        have q2 : ¬ n = 7 := fun q => k5 (by rw [q]; rfl)
        omega
      refine va_gets F.1 F.2.1 hX.2.2.2.2.1 hS F.2.2.2.1 (F.2.2.2.2 _ (mm 1 rfl)) (fun _ h => h) dX4_isName_12 ?_
      refine lv_bipush (v := 7) F.1 F.2.1 dX4_isName_15 (by decide) ?_
      refine lv_iload_n F.1 F.2.1 dX4_isName_17 rfl (lv_at hl 1 rfl) ?_
      refine lv_imul F.1 F.2.1 dX4_isName_18 ?_
      refine lv_iload_n F.1 F.2.1 dX4_isName_19 rfl (lv_at hl 2 rfl) ?_
      refine lv_iadd F.1 F.2.1 dX4_isName_20 ?_
      refine g_top (nI (7 * k + n)) (i7 _ _) ?_
      refine va_ti F.1 F.2.1 hX.2.2.2.2.2.1 hS (i := nI (7 * k + n)) (vp_in_nI (by omega) (by decide)) (v := .int (nmF (7 * k + n))) (by rw [nI_clamp (by omega)]; rfl) dX4_isName_21 ?_
      refine lv_if_ne (tgt := 29) F.1 F.2.1 dX4_isName_22 (by decide) (fun k6 => ?_) (fun k6 => ?_)
      · refine lv_iconst (v := 0) F.1 F.2.1 dX4_isName_29 (by decide) ?_
        refine g_top (bi (mh k n)) (by first | exact mh_a k6 (by omega) | exact mh_b k6 (by omega) | exact mh_c hn7 k6 | exact mh_d hn7 k6) ?_
        exact jn30 _ _ _ hP hD hS (lv_sub hl [0, 1, 2] rfl)
      · refine lv_iconst (v := 1) F.1 F.2.1 dX4_isName_25 (by decide) ?_
        refine lv_goto (tgt := 30) F.1 F.2.1 dX4_isName_26 (by decide) ?_
        refine g_top (bi (mh k n)) (by first | exact mh_a k6 (by omega) | exact mh_b k6 (by omega) | exact mh_c hn7 k6 | exact mh_d hn7 k6) ?_
        exact jn30 _ _ _ hP hD hS (lv_sub hl [0, 1, 2] rfl)
