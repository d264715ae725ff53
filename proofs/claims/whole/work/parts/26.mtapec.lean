set_option maxHeartbeats 4000000 in
set_option maxRecDepth 100000 in
theorem c_X4_reads (l : Launch) (E : gE) (h : Nat) (qm : Nat) (qk : Nat) (qw : Nat) (kp : Bool) (qf : Nat) (qt : Nat) (L : Nat) (qbi : Nat) (qsi : Nat) (qce : Nat) (tok : Int32) (beg : Int32) (val : Int32) (bad : Int32) (by1 : Nat → Int32) (b0 : Nat) (hL : L ≤ 120) (hb0 : b0 ≤ L) : gV l yX4_reads wsX4_reads ({ frames := 2, cells := 0, slots := 0, locals := 46 }) E [(h, .inr (4, [.ref qm, .ref qk, .ref qw, .int (bi kp), .ref qf, .ref qt, .int (nI L), .int tok, .int beg, .int (nI b0), .int val, .int bad, .ref qbi, .ref qsi, .ref qce])), (qt, .inl (eI E, 120, .inl by1))] (fun _ : Unit => [(h, .inr (4, [.ref qm, .ref qk, .ref qw, .int (bi kp), .ref qf, .ref qt, .int (nI L), .int (tm by1 L (skp by1 L b0)), .int (nI (skp by1 L b0)), .int (nI (tq by1 L (skp by1 L b0))), .int (vm by1 L (skp by1 L b0)), .int bad, .ref qbi, .ref qsi, .ref qce])), (qt, .inl (eI E, 120, .inl by1))]) [.ref h] (fun (_ : Unit) => True) := by
  have hin4 : ∀ w ∈ wsX40, w ∈ wsX4_reads := (fun _ h => (List.mem_cons_of_mem _ (List.mem_append_right _ h)))
  refine gV.of (cc := cX4_reads) (maxL := 1) (by decide) rfl (Nat.le_of_ble_eq_true rfl) ?_
  intro pG eG sG mG below meth cG A ls H locs F hr hlk hX hP hD hA hS hl
  have hl : lv_has ls 1 [(0, .ref h)] := hl
  have lp0 : ∀ (fu i : Nat), i ≤ L → L + 1 ≤ i + fu → er by1 32 32 (L - b0) b0 = er by1 32 32 (L - i) i → ∀ (H : Heap) (locs : List Loc) (ls : Array Slot), va_P (eD E) vwCl [(h, .inr (4, [.ref qm, .ref qk, .ref qw, .int (bi kp), .ref qf, .ref qt, .int (nI L), .int tok, .int beg, .int (nI i), .int val, .int bad, .ref qbi, .ref qsi, .ref qce])), (qt, .inl (eI E, 120, .inl by1))] H → va_D A [(h, .inr (4, [.ref qm, .ref qk, .ref qw, .int (bi kp), .ref qf, .ref qt, .int (nI L), .int tok, .int beg, .int (nI i), .int val, .int bad, .ref qbi, .ref qsi, .ref qce])), (qt, .inl (eI E, 120, .inl by1))] → va_S A sG.heap H locs → lv_has ls 1 [(0, .ref h)] → W pG l eG { frames := 2, cells := 0, slots := 0, locals := 46 } sG mG [.ref h].toArray below meth cG H locs 0 0 (MQ below (va_Qv (fun (_ : Unit) => True) (gR E (fun _ : Unit => [(h, .inr (4, [.ref qm, .ref qk, .ref qw, .int (bi kp), .ref qf, .ref qt, .int (nI L), .int (tm by1 L (skp by1 L b0)), .int (nI (skp by1 L b0)), .int (nI (tq by1 L (skp by1 L b0))), .int (vm by1 L (skp by1 L b0)), .int bad, .ref qbi, .ref qsi, .ref qce])), (qt, .inl (eI E, 120, .inl by1))]) A) A) [.ref h].toArray sG 0 0 A) (F0 mG 0 ls []) := by
    intro fu
    induction fu with
    | zero => intro i h1 h2; exact absurd h2 (by omega)
    | succ fu ih =>
      intro i hi hin  her H locs ls hP hD hS hl
      refine lv_aload_n F.1 F.2.1 dX4_reads_0 rfl (lv_at hl 0 rfl) ?_
      refine lv_aload_n F.1 F.2.1 dX4_reads_1 rfl (lv_at hl 0 rfl) ?_
      refine g_get F hX hP hin4 0 rfl rfl 9 (by decide) (mm 1 rfl) rfl dX4_reads_2 ?_
      refine lv_bipush (v := 32) F.1 F.2.1 dX4_reads_5 (by decide) ?_
      refine lv_bipush (v := 32) F.1 F.2.1 dX4_reads_7 (by decide) ?_
      refine g_goIr (g_runV (As := [.int (nI i), .int 32, .int 32]) (rest := []) F hX hP hD hS hA (c_X4_isByte l E h qm qk qw kp qf qt L qbi qsi qce tok beg (nI i) val bad by1 i 32 32 (by first | assumption | omega) (by first | assumption | omega) H.size) (cwV 3 F.2.2.2.2 gX4_reads_X4_isByte rfl rfl rfl (by decide +kernel) ⟨Nat.le_of_ble_eq_true rfl, Nat.le_of_ble_eq_true rfl⟩) [0, 1] rfl rfl (q0 := 0) (ci := 4) rfl rfl rfl hl.1 rfl (Nat.le_of_ble_eq_true rfl) dX4_reads_9 ⟨Nat.le_refl _, Nat.le_refl _⟩) hP hD hS hA [0, 1] rfl (fun r _ H locs hq hP hS => ?_)
      subst hq
      refine g_beq (tgt := 28) F dX4_reads_12 (by decide) (fun k1 => ?_) (fun k1 => ?_)
      · have hsk : skp by1 L b0 = i := her.trans (er_stop hi k1)
        refine lv_aload_n F.1 F.2.1 dX4_reads_28 rfl (lv_at hl 0 rfl) ?_
        refine lv_aload_n F.1 F.2.1 dX4_reads_29 rfl (lv_at hl 0 rfl) ?_
        refine g_get F hX hP hin4 0 rfl rfl 9 (by decide) (mm 1 rfl) rfl dX4_reads_30 ?_
        refine g_put F hX hP hD hS hin4 tyX4 tyX4_ok nmX4 0 rfl rfl 8 (by decide) (mm 2 rfl) rfl (rfl) (rfl) (Nat.le_of_ble_eq_true rfl) dX4_reads_33 (fun H locs hP hD hS => ?_)
        have hP : va_P (eD E) vwCl [(h, .inr (4, [.ref qm, .ref qk, .ref qw, .int (bi kp), .ref qf, .ref qt, .int (nI L), .int tok, .int (nI i), .int (nI i), .int val, .int bad, .ref qbi, .ref qsi, .ref qce])), (qt, .inl (eI E, 120, .inl by1))] H := hP
        have hD : va_D A [(h, .inr (4, [.ref qm, .ref qk, .ref qw, .int (bi kp), .ref qf, .ref qt, .int (nI L), .int tok, .int (nI i), .int (nI i), .int val, .int bad, .ref qbi, .ref qsi, .ref qce])), (qt, .inl (eI E, 120, .inl by1))] := hD
        refine lv_aload_n F.1 F.2.1 dX4_reads_36 rfl (lv_at hl 0 rfl) ?_
        refine lv_iconst (v := 0) F.1 F.2.1 dX4_reads_37 (by decide) ?_
        refine g_put F hX hP hD hS hin4 tyX4 tyX4_ok nmX4 0 rfl rfl 10 (by decide) (mm 3 rfl) rfl (rfl) (rfl) (Nat.le_of_ble_eq_true rfl) dX4_reads_38 (fun H locs hP hD hS => ?_)
        have hP : va_P (eD E) vwCl [(h, .inr (4, [.ref qm, .ref qk, .ref qw, .int (bi kp), .ref qf, .ref qt, .int (nI L), .int tok, .int (nI i), .int (nI i), .int 0, .int bad, .ref qbi, .ref qsi, .ref qce])), (qt, .inl (eI E, 120, .inl by1))] H := hP
        have hD : va_D A [(h, .inr (4, [.ref qm, .ref qk, .ref qw, .int (bi kp), .ref qf, .ref qt, .int (nI L), .int tok, .int (nI i), .int (nI i), .int 0, .int bad, .ref qbi, .ref qsi, .ref qce])), (qt, .inl (eI E, 120, .inl by1))] := hD
        refine lv_aload_n F.1 F.2.1 dX4_reads_41 rfl (lv_at hl 0 rfl) ?_
        refine g_get F hX hP hin4 0 rfl rfl 9 (by decide) (mm 1 rfl) rfl dX4_reads_42 ?_
        refine lv_aload_n F.1 F.2.1 dX4_reads_45 rfl (lv_at hl 0 rfl) ?_
        refine g_get F hX hP hin4 0 rfl rfl 6 (by decide) (mm 4 rfl) rfl dX4_reads_46 ?_
        refine lv_icmp_ne (tgt := 61) F.1 F.2.1 dX4_reads_49 (by decide) (fun k2 => ?_) (fun k2 => ?_)
        · have hpL : i < L := Nat.lt_of_le_of_ne hi (fun q => k2 (by rw [q]))
          refine lv_aload_n F.1 F.2.1 dX4_reads_61 rfl (lv_at hl 0 rfl) ?_
          refine lv_aload_n F.1 F.2.1 dX4_reads_62 rfl (lv_at hl 0 rfl) ?_
          refine g_get F hX hP hin4 0 rfl rfl 9 (by decide) (mm 1 rfl) rfl dX4_reads_63 ?_
          refine lv_bipush (v := 97) F.1 F.2.1 dX4_reads_66 (by decide) ?_
          refine lv_bipush (v := 122) F.1 F.2.1 dX4_reads_68 (by decide) ?_
          refine g_goIr (g_runV (As := [.int (nI i), .int 97, .int 122]) (rest := []) F hX hP hD hS hA (c_X4_isByte l E h qm qk qw kp qf qt L qbi qsi qce tok (nI i) (nI i) 0 bad by1 i 97 122 (by first | assumption | omega) (by first | assumption | omega) H.size) (cwV 3 F.2.2.2.2 gX4_reads_X4_isByte rfl rfl rfl (by decide +kernel) ⟨Nat.le_of_ble_eq_true rfl, Nat.le_of_ble_eq_true rfl⟩) [0, 1] rfl rfl (q0 := 0) (ci := 4) rfl rfl rfl hl.1 rfl (Nat.le_of_ble_eq_true rfl) dX4_reads_70 ⟨Nat.le_refl _, Nat.le_refl _⟩) hP hD hS hA [0, 1] rfl (fun r _ H locs hq hP hS => ?_)
          subst hq
          refine g_top (bi (inR (by1 i) 97 122)) (congrArg bi (inB_lt hpL)) ?_
          refine g_beq (tgt := 115) F dX4_reads_73 (by decide) (fun k3 => ?_) (fun k3 => ?_)
          · refine lv_aload_n F.1 F.2.1 dX4_reads_115 rfl (lv_at hl 0 rfl) ?_
            refine lv_aload_n F.1 F.2.1 dX4_reads_116 rfl (lv_at hl 0 rfl) ?_
            refine g_get F hX hP hin4 0 rfl rfl 9 (by decide) (mm 1 rfl) rfl dX4_reads_117 ?_
            refine lv_bipush (v := 48) F.1 F.2.1 dX4_reads_120 (by decide) ?_
            refine lv_bipush (v := 57) F.1 F.2.1 dX4_reads_122 (by decide) ?_
            refine g_goIr (g_runV (As := [.int (nI i), .int 48, .int 57]) (rest := []) F hX hP hD hS hA (c_X4_isByte l E h qm qk qw kp qf qt L qbi qsi qce tok (nI i) (nI i) 0 bad by1 i 48 57 (by first | assumption | omega) (by first | assumption | omega) H.size) (cwV 3 F.2.2.2.2 gX4_reads_X4_isByte rfl rfl rfl (by decide +kernel) ⟨Nat.le_of_ble_eq_true rfl, Nat.le_of_ble_eq_true rfl⟩) [0, 1] rfl rfl (q0 := 0) (ci := 4) rfl rfl rfl hl.1 rfl (Nat.le_of_ble_eq_true rfl) dX4_reads_124 ⟨Nat.le_refl _, Nat.le_refl _⟩) hP hD hS hA [0, 1] rfl (fun r _ H locs hq hP hS => ?_)
            subst hq
            refine g_top (bi (inR (by1 i) 48 57)) (congrArg bi (inB_lt hpL)) ?_
            refine g_beq (tgt := 208) F dX4_reads_127 (by decide) (fun k4 => ?_) (fun k4 => ?_)
            · refine lv_aload_n F.1 F.2.1 dX4_reads_208 rfl (lv_at hl 0 rfl) ?_
              refine lv_aload_n F.1 F.2.1 dX4_reads_209 rfl (lv_at hl 0 rfl) ?_
              refine lv_aload_n F.1 F.2.1 dX4_reads_210 rfl (lv_at hl 0 rfl) ?_
              refine g_get F hX hP hin4 0 rfl rfl 9 (by decide) (mm 1 rfl) rfl dX4_reads_211 ?_
              refine lv_bipush (v := 59) F.1 F.2.1 dX4_reads_214 (by decide) ?_
              refine lv_bipush (v := 59) F.1 F.2.1 dX4_reads_216 (by decide) ?_
              refine g_goIr (g_runV (As := [.int (nI i), .int 59, .int 59]) (rest := [.ref h]) F hX hP hD hS hA (c_X4_isByte l E h qm qk qw kp qf qt L qbi qsi qce tok (nI i) (nI i) 0 bad by1 i 59 59 (by first | assumption | omega) (by first | assumption | omega) H.size) (cwV 3 F.2.2.2.2 gX4_reads_X4_isByte rfl rfl rfl (by decide +kernel) ⟨Nat.le_of_ble_eq_true rfl, Nat.le_of_ble_eq_true rfl⟩) [0, 1] rfl rfl (q0 := 0) (ci := 4) rfl rfl rfl hl.1 rfl (Nat.le_of_ble_eq_true rfl) dX4_reads_218 ⟨Nat.le_refl _, Nat.le_refl _⟩) hP hD hS hA [0, 1] rfl (fun r _ H locs hq hP hS => ?_)
              subst hq
              refine g_top (bi (inR (by1 i) 59 59)) (congrArg bi (inB_lt hpL)) ?_
              have jn231 : ∀ (H : Heap) (locs : List Loc) (ls : Array Slot), va_P (eD E) vwCl [(h, .inr (4, [.ref qm, .ref qk, .ref qw, .int (bi kp), .ref qf, .ref qt, .int (nI L), .int tok, .int (nI i), .int (nI i), .int 0, .int bad, .ref qbi, .ref qsi, .ref qce])), (qt, .inl (eI E, 120, .inl by1))] H → va_D A [(h, .inr (4, [.ref qm, .ref qk, .ref qw, .int (bi kp), .ref qf, .ref qt, .int (nI L), .int tok, .int (nI i), .int (nI i), .int 0, .int bad, .ref qbi, .ref qsi, .ref qce])), (qt, .inl (eI E, 120, .inl by1))] → va_S A sG.heap H locs → lv_has ls 1 [(0, .ref h)] → W pG l eG { frames := 2, cells := 0, slots := 0, locals := 46 } sG mG [.ref h].toArray below meth cG H locs 0 0 (MQ below (va_Qv (fun (_ : Unit) => True) (gR E (fun _ : Unit => [(h, .inr (4, [.ref qm, .ref qk, .ref qw, .int (bi kp), .ref qf, .ref qt, .int (nI L), .int (tm by1 L (skp by1 L b0)), .int (nI (skp by1 L b0)), .int (nI (tq by1 L (skp by1 L b0))), .int (vm by1 L (skp by1 L b0)), .int bad, .ref qbi, .ref qsi, .ref qce])), (qt, .inl (eI E, 120, .inl by1))]) A) A) [.ref h].toArray sG 0 0 A) (F0 mG 231 ls [.int (bif inR (by1 i) 59 59 then 21 else 23), .ref h]) := by
                intro H locs ls hP hD hS hl
                refine g_put F hX hP hD hS hin4 tyX4 tyX4_ok nmX4 0 rfl rfl 7 (by decide) (mm 5 rfl) rfl (rfl) (rfl) (Nat.le_of_ble_eq_true rfl) dX4_reads_231 (fun H locs hP hD hS => ?_)
                have hP : va_P (eD E) vwCl [(h, .inr (4, [.ref qm, .ref qk, .ref qw, .int (bi kp), .ref qf, .ref qt, .int (nI L), .int (bif inR (by1 i) 59 59 then 21 else 23), .int (nI i), .int (nI i), .int 0, .int bad, .ref qbi, .ref qsi, .ref qce])), (qt, .inl (eI E, 120, .inl by1))] H := hP
                have hD : va_D A [(h, .inr (4, [.ref qm, .ref qk, .ref qw, .int (bi kp), .ref qf, .ref qt, .int (nI L), .int (bif inR (by1 i) 59 59 then 21 else 23), .int (nI i), .int (nI i), .int 0, .int bad, .ref qbi, .ref qsi, .ref qce])), (qt, .inl (eI E, 120, .inl by1))] := hD
                refine lv_aload_n F.1 F.2.1 dX4_reads_234 rfl (lv_at hl 0 rfl) ?_
                refine lv_dup F.1 F.2.1 dX4_reads_235 rfl ?_
                refine g_get F hX hP hin4 0 rfl rfl 9 (by decide) (mm 1 rfl) rfl dX4_reads_236 ?_
                refine lv_iconst (v := 1) F.1 F.2.1 dX4_reads_239 (by decide) ?_
                refine lv_iadd F.1 F.2.1 dX4_reads_240 ?_
                refine g_top (nI (i + 1)) (nI_1 _) ?_
                refine g_put F hX hP hD hS hin4 tyX4 tyX4_ok nmX4 0 rfl rfl 9 (by decide) (mm 1 rfl) rfl (rfl) (rfl) (Nat.le_of_ble_eq_true rfl) dX4_reads_241 (fun H locs hP hD hS => ?_)
                have hP : va_P (eD E) vwCl [(h, .inr (4, [.ref qm, .ref qk, .ref qw, .int (bi kp), .ref qf, .ref qt, .int (nI L), .int (bif inR (by1 i) 59 59 then 21 else 23), .int (nI i), .int (nI (i + 1)), .int 0, .int bad, .ref qbi, .ref qsi, .ref qce])), (qt, .inl (eI E, 120, .inl by1))] H := hP
                have hD : va_D A [(h, .inr (4, [.ref qm, .ref qk, .ref qw, .int (bi kp), .ref qf, .ref qt, .int (nI L), .int (bif inR (by1 i) 59 59 then 21 else 23), .int (nI i), .int (nI (i + 1)), .int 0, .int bad, .ref qbi, .ref qsi, .ref qce])), (qt, .inl (eI E, 120, .inl by1))] := hD
                exact g_retv F hr hlk hS hP hD (()) (by first | (obtain ⟨z1, z2, z3⟩ := tokM3 (by1 := by1) hpL; rw [hsk, z1, z2, z3]; done) | (obtain ⟨z1, z2, z3⟩ := tokM0 (by1 := by1) hpL k2; rw [hsk, z1, z2, z3, e2]; done) | (obtain ⟨z1, z2, z3⟩ := tokM0 (by1 := by1) hpL k3; rw [hsk, z1, z2, z3, e2]; done) | (obtain ⟨z1, z2, z3⟩ := tokM1 (by1 := by1) hpL k3 k4; rw [hsk, z1, z2, z3, e3, Nat.add_sub_cancel_left]; done) | (obtain ⟨z1, z2, z3⟩ := tokM2 (by1 := by1) hpL k3 k4; rw [hsk, z1, z2, z3]; done)) (trivial) dX4_reads_244
              refine g_beq (tgt := 229) F dX4_reads_221 (by decide) (fun k5 => ?_) (fun k5 => ?_)
              · refine lv_bipush (v := 23) F.1 F.2.1 dX4_reads_229 (by decide) ?_
                refine g_top (bif inR (by1 i) 59 59 then 21 else 23) (by rw [k5]; rfl) ?_
                exact jn231 _ _ _ hP hD hS (lv_sub hl [0] rfl)
              · refine lv_bipush (v := 21) F.1 F.2.1 dX4_reads_224 (by decide) ?_
                refine lv_goto (tgt := 231) F.1 F.2.1 dX4_reads_226 (by decide) ?_
                refine g_top (bif inR (by1 i) 59 59 then 21 else 23) (by rw [k5]; rfl) ?_
                exact jn231 _ _ _ hP hD hS (lv_sub hl [0] rfl)
            · have lp130 : ∀ (fu d3 : Nat), d3 ≤ (L - i) → (L - i) + 1 ≤ d3 + fu → er by1 48 57 (L - i) i = er by1 48 57 (L - (i + d3)) (i + d3) → ∀ (H : Heap) (locs : List Loc) (ls : Array Slot), va_P (eD E) vwCl [(h, .inr (4, [.ref qm, .ref qk, .ref qw, .int (bi kp), .ref qf, .ref qt, .int (nI L), .int tok, .int (nI i), .int (nI (i + d3)), .int (vlM by1 i d3), .int bad, .ref qbi, .ref qsi, .ref qce])), (qt, .inl (eI E, 120, .inl by1))] H → va_D A [(h, .inr (4, [.ref qm, .ref qk, .ref qw, .int (bi kp), .ref qf, .ref qt, .int (nI L), .int tok, .int (nI i), .int (nI (i + d3)), .int (vlM by1 i d3), .int bad, .ref qbi, .ref qsi, .ref qce])), (qt, .inl (eI E, 120, .inl by1))] → va_S A sG.heap H locs → lv_has ls 1 [(0, .ref h)] → W pG l eG { frames := 2, cells := 0, slots := 0, locals := 46 } sG mG [.ref h].toArray below meth cG H locs 0 0 (MQ below (va_Qv (fun (_ : Unit) => True) (gR E (fun _ : Unit => [(h, .inr (4, [.ref qm, .ref qk, .ref qw, .int (bi kp), .ref qf, .ref qt, .int (nI L), .int (tm by1 L (skp by1 L b0)), .int (nI (skp by1 L b0)), .int (nI (tq by1 L (skp by1 L b0))), .int (vm by1 L (skp by1 L b0)), .int bad, .ref qbi, .ref qsi, .ref qce])), (qt, .inl (eI E, 120, .inl by1))]) A) A) [.ref h].toArray sG 0 0 A) (F0 mG 130 ls []) := by
                intro fu
                induction fu with
                | zero => intro d3 h1 h2; exact absurd h2 (by omega)
                | succ fu ihd3 =>
                  intro d3 hid3 hin  he3 H locs ls hP hD hS hl
                  refine lv_aload_n F.1 F.2.1 dX4_reads_130 rfl (lv_at hl 0 rfl) ?_
                  refine lv_aload_n F.1 F.2.1 dX4_reads_131 rfl (lv_at hl 0 rfl) ?_
                  refine g_get F hX hP hin4 0 rfl rfl 9 (by decide) (mm 1 rfl) rfl dX4_reads_132 ?_
                  refine lv_bipush (v := 48) F.1 F.2.1 dX4_reads_135 (by decide) ?_
                  refine lv_bipush (v := 57) F.1 F.2.1 dX4_reads_137 (by decide) ?_
                  refine g_goIr (g_runV (As := [.int (nI (i + d3)), .int 48, .int 57]) (rest := []) F hX hP hD hS hA (c_X4_isByte l E h qm qk qw kp qf qt L qbi qsi qce tok (nI i) (nI (i + d3)) (vlM by1 i d3) bad by1 (i + d3) 48 57 (by first | assumption | omega) (by first | assumption | omega) H.size) (cwV 3 F.2.2.2.2 gX4_reads_X4_isByte rfl rfl rfl (by decide +kernel) ⟨Nat.le_of_ble_eq_true rfl, Nat.le_of_ble_eq_true rfl⟩) [0, 1] rfl rfl (q0 := 0) (ci := 4) rfl rfl rfl hl.1 rfl (Nat.le_of_ble_eq_true rfl) dX4_reads_139 ⟨Nat.le_refl _, Nat.le_refl _⟩) hP hD hS hA [0, 1] rfl (fun r _ H locs hq hP hS => ?_)
                  subst hq
                  refine g_beq (tgt := 199) F dX4_reads_142 (by decide) (fun k6 => ?_) (fun k6 => ?_)
                  · have e3 := he3.trans (er_stop (by omega) k6)
                    refine lv_aload_n F.1 F.2.1 dX4_reads_199 rfl (lv_at hl 0 rfl) ?_
                    refine lv_bipush (v := 20) F.1 F.2.1 dX4_reads_200 (by decide) ?_
                    refine g_put F hX hP hD hS hin4 tyX4 tyX4_ok nmX4 0 rfl rfl 7 (by decide) (mm 5 rfl) rfl (rfl) (rfl) (Nat.le_of_ble_eq_true rfl) dX4_reads_202 (fun H locs hP hD hS => ?_)
                    have hP : va_P (eD E) vwCl [(h, .inr (4, [.ref qm, .ref qk, .ref qw, .int (bi kp), .ref qf, .ref qt, .int (nI L), .int 20, .int (nI i), .int (nI (i + d3)), .int (vlM by1 i d3), .int bad, .ref qbi, .ref qsi, .ref qce])), (qt, .inl (eI E, 120, .inl by1))] H := hP
                    have hD : va_D A [(h, .inr (4, [.ref qm, .ref qk, .ref qw, .int (bi kp), .ref qf, .ref qt, .int (nI L), .int 20, .int (nI i), .int (nI (i + d3)), .int (vlM by1 i d3), .int bad, .ref qbi, .ref qsi, .ref qce])), (qt, .inl (eI E, 120, .inl by1))] := hD
                    refine lv_goto (tgt := 244) F.1 F.2.1 dX4_reads_205 (by decide) ?_
                    exact g_retv F hr hlk hS hP hD (()) (by first | (obtain ⟨z1, z2, z3⟩ := tokM3 (by1 := by1) hpL; rw [hsk, z1, z2, z3]; done) | (obtain ⟨z1, z2, z3⟩ := tokM0 (by1 := by1) hpL k4; rw [hsk, z1, z2, z3, e2]; done) | (obtain ⟨z1, z2, z3⟩ := tokM0 (by1 := by1) hpL k3; rw [hsk, z1, z2, z3, e2]; done) | (obtain ⟨z1, z2, z3⟩ := tokM1 (by1 := by1) hpL k3 k4; rw [hsk, z1, z2, z3, e3, Nat.add_sub_cancel_left]; done) | (obtain ⟨z1, z2, z3⟩ := tokM2 (by1 := by1) hpL he3 k6; rw [hsk, z1, z2, z3]; done)) (trivial) dX4_reads_244
                  · refine lv_aload_n F.1 F.2.1 dX4_reads_145 rfl (lv_at hl 0 rfl) ?_
                    refine lv_aload_n F.1 F.2.1 dX4_reads_146 rfl (lv_at hl 0 rfl) ?_
                    refine g_get F hX hP hin4 0 rfl rfl 10 (by decide) (mm 3 rfl) rfl dX4_reads_147 ?_
                    refine lv_sipush (v := 999) F.1 F.2.1 dX4_reads_150 (by decide) ?_
                    have jn183 : ∀ (H : Heap) (locs : List Loc) (ls : Array Slot), va_P (eD E) vwCl [(h, .inr (4, [.ref qm, .ref qk, .ref qw, .int (bi kp), .ref qf, .ref qt, .int (nI L), .int tok, .int (nI i), .int (nI (i + d3)), .int (vlM by1 i d3), .int bad, .ref qbi, .ref qsi, .ref qce])), (qt, .inl (eI E, 120, .inl by1))] H → va_D A [(h, .inr (4, [.ref qm, .ref qk, .ref qw, .int (bi kp), .ref qf, .ref qt, .int (nI L), .int tok, .int (nI i), .int (nI (i + d3)), .int (vlM by1 i d3), .int bad, .ref qbi, .ref qsi, .ref qce])), (qt, .inl (eI E, 120, .inl by1))] → va_S A sG.heap H locs → lv_has ls 1 [(0, .ref h)] → W pG l eG { frames := 2, cells := 0, slots := 0, locals := 46 } sG mG [.ref h].toArray below meth cG H locs 0 0 (MQ below (va_Qv (fun (_ : Unit) => True) (gR E (fun _ : Unit => [(h, .inr (4, [.ref qm, .ref qk, .ref qw, .int (bi kp), .ref qf, .ref qt, .int (nI L), .int (tm by1 L (skp by1 L b0)), .int (nI (skp by1 L b0)), .int (nI (tq by1 L (skp by1 L b0))), .int (vm by1 L (skp by1 L b0)), .int bad, .ref qbi, .ref qsi, .ref qce])), (qt, .inl (eI E, 120, .inl by1))]) A) A) [.ref h].toArray sG 0 0 A) (F0 mG 183 ls [.int (vlM by1 i (d3 + 1)), .ref h]) := by
                      intro H locs ls hP hD hS hl
                      refine g_put F hX hP hD hS hin4 tyX4 tyX4_ok nmX4 0 rfl rfl 10 (by decide) (mm 3 rfl) rfl (rfl) (rfl) (Nat.le_of_ble_eq_true rfl) dX4_reads_183 (fun H locs hP hD hS => ?_)
                      have hP : va_P (eD E) vwCl [(h, .inr (4, [.ref qm, .ref qk, .ref qw, .int (bi kp), .ref qf, .ref qt, .int (nI L), .int tok, .int (nI i), .int (nI (i + d3)), .int (vlM by1 i (d3 + 1)), .int bad, .ref qbi, .ref qsi, .ref qce])), (qt, .inl (eI E, 120, .inl by1))] H := hP
                      have hD : va_D A [(h, .inr (4, [.ref qm, .ref qk, .ref qw, .int (bi kp), .ref qf, .ref qt, .int (nI L), .int tok, .int (nI i), .int (nI (i + d3)), .int (vlM by1 i (d3 + 1)), .int bad, .ref qbi, .ref qsi, .ref qce])), (qt, .inl (eI E, 120, .inl by1))] := hD
                      refine lv_aload_n F.1 F.2.1 dX4_reads_186 rfl (lv_at hl 0 rfl) ?_
                      refine lv_dup F.1 F.2.1 dX4_reads_187 rfl ?_
                      refine g_get F hX hP hin4 0 rfl rfl 9 (by decide) (mm 1 rfl) rfl dX4_reads_188 ?_
                      refine lv_iconst (v := 1) F.1 F.2.1 dX4_reads_191 (by decide) ?_
                      refine lv_iadd F.1 F.2.1 dX4_reads_192 ?_
                      refine g_top (nI (i + d3 + 1)) (nI_1 _) ?_
                      refine g_put F hX hP hD hS hin4 tyX4 tyX4_ok nmX4 0 rfl rfl 9 (by decide) (mm 1 rfl) rfl (rfl) (rfl) (Nat.le_of_ble_eq_true rfl) dX4_reads_193 (fun H locs hP hD hS => ?_)
                      have hP : va_P (eD E) vwCl [(h, .inr (4, [.ref qm, .ref qk, .ref qw, .int (bi kp), .ref qf, .ref qt, .int (nI L), .int tok, .int (nI i), .int (nI (i + d3 + 1)), .int (vlM by1 i (d3 + 1)), .int bad, .ref qbi, .ref qsi, .ref qce])), (qt, .inl (eI E, 120, .inl by1))] H := hP
                      have hD : va_D A [(h, .inr (4, [.ref qm, .ref qk, .ref qw, .int (bi kp), .ref qf, .ref qt, .int (nI L), .int tok, .int (nI i), .int (nI (i + d3 + 1)), .int (vlM by1 i (d3 + 1)), .int bad, .ref qbi, .ref qsi, .ref qce])), (qt, .inl (eI E, 120, .inl by1))] := hD
                      refine lv_goto (tgt := 130) F.1 F.2.1 dX4_reads_196 (by decide) ?_
                      have hP : va_P (eD E) vwCl [(h, .inr (4, [.ref qm, .ref qk, .ref qw, .int (bi kp), .ref qf, .ref qt, .int (nI L), .int tok, .int (nI i), .int (nI (i + (d3 + 1))), .int (vlM by1 i (d3 + 1)), .int bad, .ref qbi, .ref qsi, .ref qce])), (qt, .inl (eI E, 120, .inl by1))] H := hP
                      have hD : va_D A [(h, .inr (4, [.ref qm, .ref qk, .ref qw, .int (bi kp), .ref qf, .ref qt, .int (nI L), .int tok, .int (nI i), .int (nI (i + (d3 + 1))), .int (vlM by1 i (d3 + 1)), .int bad, .ref qbi, .ref qsi, .ref qce])), (qt, .inl (eI E, 120, .inl by1))] := hD
                      exact ihd3 (d3 + 1) (by have := inB_L k6; omega) (by omega)  (he3.trans (er_yes (inB_R k6) (inB_L k6))) _ _ _ hP hD hS (lv_sub hl [0] rfl)
                    refine lv_icmp_le (tgt := 163) F.1 F.2.1 dX4_reads_153 (by decide) (fun k7 => ?_) (fun k7 => ?_)
                    · refine lv_bipush (v := 10) F.1 F.2.1 dX4_reads_163 (by decide) ?_
                      refine lv_aload_n F.1 F.2.1 dX4_reads_165 rfl (lv_at hl 0 rfl) ?_
                      refine g_get F hX hP hin4 0 rfl rfl 10 (by decide) (mm 3 rfl) rfl dX4_reads_166 ?_
                      refine lv_imul F.1 F.2.1 dX4_reads_169 ?_
                      refine lv_aload_n F.1 F.2.1 dX4_reads_170 rfl (lv_at hl 0 rfl) ?_
                      refine g_get F hX hP hin4 0 rfl rfl 5 (by decide) (mm 6 rfl) rfl dX4_reads_171 ?_
                      refine lv_aload_n F.1 F.2.1 dX4_reads_174 rfl (lv_at hl 0 rfl) ?_
                      refine g_get F hX hP hin4 0 rfl rfl 9 (by decide) (mm 1 rfl) rfl dX4_reads_175 ?_
                      refine g_iald F hX hP 1 rfl (j := i + d3) (rfl) (by have := inB_L k6; omega) (by decide) dX4_reads_178 ?_
                      refine lv_iadd F.1 F.2.1 dX4_reads_179 ?_
                      refine lv_bipush (v := 48) F.1 F.2.1 dX4_reads_180 (by decide) ?_
                      refine lv_isub F.1 F.2.1 dX4_reads_182 ?_
                      refine g_top (vlM by1 i (d3 + 1)) (by first | exact (vlM_y k7).symm | exact (vlM_n k7).symm) ?_
                      exact jn183 _ _ _ hP hD hS (lv_sub hl [0] rfl)
                    · refine lv_aload_n F.1 F.2.1 dX4_reads_156 rfl (lv_at hl 0 rfl) ?_
                      refine g_get F hX hP hin4 0 rfl rfl 10 (by decide) (mm 3 rfl) rfl dX4_reads_157 ?_
                      refine lv_goto (tgt := 183) F.1 F.2.1 dX4_reads_160 (by decide) ?_
                      refine g_top (vlM by1 i (d3 + 1)) (by first | exact (vlM_y k7).symm | exact (vlM_n k7).symm) ?_
                      exact jn183 _ _ _ hP hD hS (lv_sub hl [0] rfl)
              have hP : va_P (eD E) vwCl [(h, .inr (4, [.ref qm, .ref qk, .ref qw, .int (bi kp), .ref qf, .ref qt, .int (nI L), .int tok, .int (nI i), .int (nI (i + 0)), .int (vlM by1 i 0), .int bad, .ref qbi, .ref qsi, .ref qce])), (qt, .inl (eI E, 120, .inl by1))] H := hP
              have hD : va_D A [(h, .inr (4, [.ref qm, .ref qk, .ref qw, .int (bi kp), .ref qf, .ref qt, .int (nI L), .int tok, .int (nI i), .int (nI (i + 0)), .int (vlM by1 i 0), .int bad, .ref qbi, .ref qsi, .ref qce])), (qt, .inl (eI E, 120, .inl by1))] := hD
              exact lp130 ((L - i) + 1) 0 (by omega) (by omega)  (rfl) _ _ _ hP hD hS (lv_sub hl [0] rfl)
          · have lp76 : ∀ (fu d2 : Nat), d2 ≤ (L - i) → (L - i) + 1 ≤ d2 + fu → er by1 97 122 (L - i) i = er by1 97 122 (L - (i + d2)) (i + d2) → ∀ (H : Heap) (locs : List Loc) (ls : Array Slot), va_P (eD E) vwCl [(h, .inr (4, [.ref qm, .ref qk, .ref qw, .int (bi kp), .ref qf, .ref qt, .int (nI L), .int tok, .int (nI i), .int (nI (i + d2)), .int 0, .int bad, .ref qbi, .ref qsi, .ref qce])), (qt, .inl (eI E, 120, .inl by1))] H → va_D A [(h, .inr (4, [.ref qm, .ref qk, .ref qw, .int (bi kp), .ref qf, .ref qt, .int (nI L), .int tok, .int (nI i), .int (nI (i + d2)), .int 0, .int bad, .ref qbi, .ref qsi, .ref qce])), (qt, .inl (eI E, 120, .inl by1))] → va_S A sG.heap H locs → lv_has ls 1 [(0, .ref h)] → W pG l eG { frames := 2, cells := 0, slots := 0, locals := 46 } sG mG [.ref h].toArray below meth cG H locs 0 0 (MQ below (va_Qv (fun (_ : Unit) => True) (gR E (fun _ : Unit => [(h, .inr (4, [.ref qm, .ref qk, .ref qw, .int (bi kp), .ref qf, .ref qt, .int (nI L), .int (tm by1 L (skp by1 L b0)), .int (nI (skp by1 L b0)), .int (nI (tq by1 L (skp by1 L b0))), .int (vm by1 L (skp by1 L b0)), .int bad, .ref qbi, .ref qsi, .ref qce])), (qt, .inl (eI E, 120, .inl by1))]) A) A) [.ref h].toArray sG 0 0 A) (F0 mG 76 ls []) := by
              intro fu
              induction fu with
              | zero => intro d2 h1 h2; exact absurd h2 (by omega)
              | succ fu ihd2 =>
                intro d2 hid2 hin  he2 H locs ls hP hD hS hl
                refine lv_aload_n F.1 F.2.1 dX4_reads_76 rfl (lv_at hl 0 rfl) ?_
                refine lv_aload_n F.1 F.2.1 dX4_reads_77 rfl (lv_at hl 0 rfl) ?_
                refine g_get F hX hP hin4 0 rfl rfl 9 (by decide) (mm 1 rfl) rfl dX4_reads_78 ?_
                refine lv_bipush (v := 97) F.1 F.2.1 dX4_reads_81 (by decide) ?_
                refine lv_bipush (v := 122) F.1 F.2.1 dX4_reads_83 (by decide) ?_
                refine g_goIr (g_runV (As := [.int (nI (i + d2)), .int 97, .int 122]) (rest := []) F hX hP hD hS hA (c_X4_isByte l E h qm qk qw kp qf qt L qbi qsi qce tok (nI i) (nI (i + d2)) 0 bad by1 (i + d2) 97 122 (by first | assumption | omega) (by first | assumption | omega) H.size) (cwV 3 F.2.2.2.2 gX4_reads_X4_isByte rfl rfl rfl (by decide +kernel) ⟨Nat.le_of_ble_eq_true rfl, Nat.le_of_ble_eq_true rfl⟩) [0, 1] rfl rfl (q0 := 0) (ci := 4) rfl rfl rfl hl.1 rfl (Nat.le_of_ble_eq_true rfl) dX4_reads_85 ⟨Nat.le_refl _, Nat.le_refl _⟩) hP hD hS hA [0, 1] rfl (fun r _ H locs hq hP hS => ?_)
                subst hq
                refine g_beq (tgt := 104) F dX4_reads_88 (by decide) (fun k8 => ?_) (fun k8 => ?_)
                · have e2 := he2.trans (er_stop (by omega) k8)
                  refine lv_aload_n F.1 F.2.1 dX4_reads_104 rfl (lv_at hl 0 rfl) ?_
                  refine lv_aload_n F.1 F.2.1 dX4_reads_105 rfl (lv_at hl 0 rfl) ?_
                  refine g_goIr (g_runV (As := []) (rest := [.ref h]) F hX hP hD hS hA (c_X4_wordHere l E h qm qk qw kp qf qt L qbi qsi qce tok 0 bad by1 i (i + d2) (by first | assumption | omega) (by first | assumption | omega) H.size) (cwV 0 F.2.2.2.2 gX4_reads_X4_wordHere rfl rfl rfl (by decide +kernel) ⟨Nat.le_of_ble_eq_true rfl, Nat.le_of_ble_eq_true rfl⟩) [0, 1] rfl rfl (q0 := 0) (ci := 4) rfl rfl rfl hl.1 rfl (Nat.le_of_ble_eq_true rfl) dX4_reads_106 ⟨Nat.le_refl _, Nat.le_refl _⟩) hP hD hS hA [0, 1] rfl (fun r _ H locs hq hP hS => ?_)
                  subst hq
                  refine g_put F hX hP hD hS hin4 tyX4 tyX4_ok nmX4 0 rfl rfl 7 (by decide) (mm 5 rfl) rfl (rfl) (rfl) (Nat.le_of_ble_eq_true rfl) dX4_reads_109 (fun H locs hP hD hS => ?_)
                  have hP : va_P (eD E) vwCl [(h, .inr (4, [.ref qm, .ref qk, .ref qw, .int (bi kp), .ref qf, .ref qt, .int (nI L), .int (tmW by1 i ((i + d2) - i)), .int (nI i), .int (nI (i + d2)), .int 0, .int bad, .ref qbi, .ref qsi, .ref qce])), (qt, .inl (eI E, 120, .inl by1))] H := hP
                  have hD : va_D A [(h, .inr (4, [.ref qm, .ref qk, .ref qw, .int (bi kp), .ref qf, .ref qt, .int (nI L), .int (tmW by1 i ((i + d2) - i)), .int (nI i), .int (nI (i + d2)), .int 0, .int bad, .ref qbi, .ref qsi, .ref qce])), (qt, .inl (eI E, 120, .inl by1))] := hD
                  refine lv_goto (tgt := 244) F.1 F.2.1 dX4_reads_112 (by decide) ?_
                  exact g_retv F hr hlk hS hP hD (()) (by first | (obtain ⟨z1, z2, z3⟩ := tokM3 (by1 := by1) hpL; rw [hsk, z1, z2, z3]; done) | (obtain ⟨z1, z2, z3⟩ := tokM0 (by1 := by1) hpL k3; rw [hsk, z1, z2, z3, e2]; done) | (obtain ⟨z1, z2, z3⟩ := tokM0 (by1 := by1) hpL k3; rw [hsk, z1, z2, z3, e2]; done) | (obtain ⟨z1, z2, z3⟩ := tokM1 (by1 := by1) hpL k3 k4; rw [hsk, z1, z2, z3, e3, Nat.add_sub_cancel_left]; done) | (obtain ⟨z1, z2, z3⟩ := tokM2 (by1 := by1) hpL he2 k8; rw [hsk, z1, z2, z3]; done)) (trivial) dX4_reads_244
                · refine lv_aload_n F.1 F.2.1 dX4_reads_91 rfl (lv_at hl 0 rfl) ?_
                  refine lv_dup F.1 F.2.1 dX4_reads_92 rfl ?_
                  refine g_get F hX hP hin4 0 rfl rfl 9 (by decide) (mm 1 rfl) rfl dX4_reads_93 ?_
                  refine lv_iconst (v := 1) F.1 F.2.1 dX4_reads_96 (by decide) ?_
                  refine lv_iadd F.1 F.2.1 dX4_reads_97 ?_
                  refine g_top (nI (i + d2 + 1)) (nI_1 _) ?_
                  refine g_put F hX hP hD hS hin4 tyX4 tyX4_ok nmX4 0 rfl rfl 9 (by decide) (mm 1 rfl) rfl (rfl) (rfl) (Nat.le_of_ble_eq_true rfl) dX4_reads_98 (fun H locs hP hD hS => ?_)
                  have hP : va_P (eD E) vwCl [(h, .inr (4, [.ref qm, .ref qk, .ref qw, .int (bi kp), .ref qf, .ref qt, .int (nI L), .int tok, .int (nI i), .int (nI (i + d2 + 1)), .int 0, .int bad, .ref qbi, .ref qsi, .ref qce])), (qt, .inl (eI E, 120, .inl by1))] H := hP
                  have hD : va_D A [(h, .inr (4, [.ref qm, .ref qk, .ref qw, .int (bi kp), .ref qf, .ref qt, .int (nI L), .int tok, .int (nI i), .int (nI (i + d2 + 1)), .int 0, .int bad, .ref qbi, .ref qsi, .ref qce])), (qt, .inl (eI E, 120, .inl by1))] := hD
                  refine lv_goto (tgt := 76) F.1 F.2.1 dX4_reads_101 (by decide) ?_
                  have hP : va_P (eD E) vwCl [(h, .inr (4, [.ref qm, .ref qk, .ref qw, .int (bi kp), .ref qf, .ref qt, .int (nI L), .int tok, .int (nI i), .int (nI (i + (d2 + 1))), .int 0, .int bad, .ref qbi, .ref qsi, .ref qce])), (qt, .inl (eI E, 120, .inl by1))] H := hP
                  have hD : va_D A [(h, .inr (4, [.ref qm, .ref qk, .ref qw, .int (bi kp), .ref qf, .ref qt, .int (nI L), .int tok, .int (nI i), .int (nI (i + (d2 + 1))), .int 0, .int bad, .ref qbi, .ref qsi, .ref qce])), (qt, .inl (eI E, 120, .inl by1))] := hD
                  exact ihd2 (d2 + 1) (by have := inB_L k8; omega) (by omega)  (he2.trans (er_yes (inB_R k8) (inB_L k8))) _ _ _ hP hD hS (lv_sub hl [0] rfl)
            have hP : va_P (eD E) vwCl [(h, .inr (4, [.ref qm, .ref qk, .ref qw, .int (bi kp), .ref qf, .ref qt, .int (nI L), .int tok, .int (nI i), .int (nI (i + 0)), .int 0, .int bad, .ref qbi, .ref qsi, .ref qce])), (qt, .inl (eI E, 120, .inl by1))] H := hP
            have hD : va_D A [(h, .inr (4, [.ref qm, .ref qk, .ref qw, .int (bi kp), .ref qf, .ref qt, .int (nI L), .int tok, .int (nI i), .int (nI (i + 0)), .int 0, .int bad, .ref qbi, .ref qsi, .ref qce])), (qt, .inl (eI E, 120, .inl by1))] := hD
            exact lp76 ((L - i) + 1) 0 (by omega) (by omega)  (rfl) _ _ _ hP hD hS (lv_sub hl [0] rfl)
        · have hpL : ¬ i < L := fun q => absurd ((nI_eq (by omega) (by omega)).mp k2) (by omega)
          refine lv_aload_n F.1 F.2.1 dX4_reads_52 rfl (lv_at hl 0 rfl) ?_
          refine lv_bipush (v := 22) F.1 F.2.1 dX4_reads_53 (by decide) ?_
          refine g_put F hX hP hD hS hin4 tyX4 tyX4_ok nmX4 0 rfl rfl 7 (by decide) (mm 5 rfl) rfl (rfl) (rfl) (Nat.le_of_ble_eq_true rfl) dX4_reads_55 (fun H locs hP hD hS => ?_)
          have hP : va_P (eD E) vwCl [(h, .inr (4, [.ref qm, .ref qk, .ref qw, .int (bi kp), .ref qf, .ref qt, .int (nI L), .int 22, .int (nI i), .int (nI i), .int 0, .int bad, .ref qbi, .ref qsi, .ref qce])), (qt, .inl (eI E, 120, .inl by1))] H := hP
          have hD : va_D A [(h, .inr (4, [.ref qm, .ref qk, .ref qw, .int (bi kp), .ref qf, .ref qt, .int (nI L), .int 22, .int (nI i), .int (nI i), .int 0, .int bad, .ref qbi, .ref qsi, .ref qce])), (qt, .inl (eI E, 120, .inl by1))] := hD
          refine lv_goto (tgt := 244) F.1 F.2.1 dX4_reads_58 (by decide) ?_
          exact g_retv F hr hlk hS hP hD (()) (by first | (obtain ⟨z1, z2, z3⟩ := tokM3 (by1 := by1) hpL; rw [hsk, z1, z2, z3]; done) | (obtain ⟨z1, z2, z3⟩ := tokM0 (by1 := by1) hpL her; rw [hsk, z1, z2, z3, e2]; done) | (obtain ⟨z1, z2, z3⟩ := tokM0 (by1 := by1) hpL k3; rw [hsk, z1, z2, z3, e2]; done) | (obtain ⟨z1, z2, z3⟩ := tokM1 (by1 := by1) hpL k3 k4; rw [hsk, z1, z2, z3, e3, Nat.add_sub_cancel_left]; done) | (obtain ⟨z1, z2, z3⟩ := tokM2 (by1 := by1) hpL k1 k2; rw [hsk, z1, z2, z3]; done)) (trivial) dX4_reads_244
      · refine lv_aload_n F.1 F.2.1 dX4_reads_15 rfl (lv_at hl 0 rfl) ?_
        refine lv_dup F.1 F.2.1 dX4_reads_16 rfl ?_
        refine g_get F hX hP hin4 0 rfl rfl 9 (by decide) (mm 1 rfl) rfl dX4_reads_17 ?_
        refine lv_iconst (v := 1) F.1 F.2.1 dX4_reads_20 (by decide) ?_
        refine lv_iadd F.1 F.2.1 dX4_reads_21 ?_
        refine g_top (nI (i + 1)) (nI_1 _) ?_
        refine g_put F hX hP hD hS hin4 tyX4 tyX4_ok nmX4 0 rfl rfl 9 (by decide) (mm 1 rfl) rfl (rfl) (rfl) (Nat.le_of_ble_eq_true rfl) dX4_reads_22 (fun H locs hP hD hS => ?_)
        have hP : va_P (eD E) vwCl [(h, .inr (4, [.ref qm, .ref qk, .ref qw, .int (bi kp), .ref qf, .ref qt, .int (nI L), .int tok, .int beg, .int (nI (i + 1)), .int val, .int bad, .ref qbi, .ref qsi, .ref qce])), (qt, .inl (eI E, 120, .inl by1))] H := hP
        have hD : va_D A [(h, .inr (4, [.ref qm, .ref qk, .ref qw, .int (bi kp), .ref qf, .ref qt, .int (nI L), .int tok, .int beg, .int (nI (i + 1)), .int val, .int bad, .ref qbi, .ref qsi, .ref qce])), (qt, .inl (eI E, 120, .inl by1))] := hD
        refine lv_goto (tgt := 0) F.1 F.2.1 dX4_reads_25 (by decide) ?_
        exact ih (i + 1) (inB_L k1) (by omega)  (her.trans (er_yes (inB_R k1) (inB_L k1))) _ _ _ hP hD hS (lv_sub hl [0] rfl)
  exact lp0 (L + 1) b0 (by omega) (by omega)  (rfl) _ _ _ hP hD hS (lv_sub hl [0] rfl)
