/-! the law's loop -/
theorem lh_le {L i : Nat} (hL : L ≤ 3072) (hi : i ≤ 4000) (h : ¬ nI L - 6 < nI i) : i + 6 ≤ L := by
  have e : (nI L - 6).toInt = (L : Int) - 6 := pk_sub_toInt (a := L) (b := 6) (by omega) (by decide)
  rw [i32_lt, e, nI_toInt (by omega)] at h
  omega
set_option maxHeartbeats 4000000 in
set_option maxRecDepth 100000 in
theorem lhead {p : Program} {l : Launch} {e : Env} {s : State} {m0 : MethodId} {below : List Frame} {meth : Method} {c : Code} {E : gE} {ad : Nat → Nat} {b L i : Nat} {xs : Nat → Int32} (F : CallFix p m0 c cL_law 4 s #[Value.ref b] wsL_law RL) (hX : gX E (lA s) s s.heap) (hXS : va_X b L xs s s.heap) (hbl : b < s.heap.size) (hL : L ≤ 3072) (hr : meth.sig.returnType = ret) (hlk : meth.locks = false) (hi : i ≤ 4000) (hstep : i + 6 ≤ L → LK p l e s m0 below meth c E ad b i 1231) : LK p l e s m0 below meth c E ad b i 18 := by
  intro v hI H locs ls hP hD hS hl
  have hbA : ¬ lA s b := Nat.not_le.mpr hbl
  refine lv_iload_n F.1 F.2.1 dL_law_18 rfl (lv_at hl 0 rfl) ?_
  refine lv_aload_n F.1 F.2.1 dL_law_19 rfl (lv_at hl 3 rfl) ?_
  refine va_slen F.1 F.2.1 hXS hbl hbA hS dL_law_20 ?_
  refine lv_bipush (v := 6) F.1 F.2.1 dL_law_21 (by decide) ?_
  refine lv_isub F.1 F.2.1 dL_law_23 ?_
  refine lv_icmp_gt (tgt := 1237) F.1 F.2.1 dL_law_24 (by decide) (fun k1 => ?_) (fun k1 => ?_)
  · refine lv_iconst (v := 1) F.1 F.2.1 dL_law_1237 (by decide) ?_
    refine va_forget (fun q hq => hS.2.2 q hq) ?_
    refine W.widen (k := 600000) (n := 7302250) (Nat.le_of_ble_eq_true rfl) (Nat.le_of_ble_eq_true rfl) ?_
    exact lw_ret F.1 F.2.1 hr hlk dL_law_1238
  have h6 := lh_le hL hi k1
  refine lv_aload_n F.1 F.2.1 dL_law_27 rfl (lv_at hl 3 rfl) ?_
  refine lv_iload_n F.1 F.2.1 dL_law_28 rfl (lv_at hl 0 rfl) ?_
  refine va_sld F.1 F.2.1 hXS hbl hbA hS (i := nI i) (vp_in_nI (by omega) (by omega)) dL_law_29 ?_
  refine g_top (xs i) (by rw [nI_clamp (by omega)]) ?_
  refine lv_bipush (v := 63) F.1 F.2.1 dL_law_30 (by decide) ?_
  refine lv_iand F.1 F.2.1 dL_law_32 ?_
  by_cases kc0 : xs i &&& 63 = 0
  · refine g_top 0 kc0 ?_
    refine lv_tableIn (tgt := 192) F.1 F.2.1 dL_law_33 (by decide) (by decide) rfl (by decide) ?_
    exact lc_0 F hX hXS hbl hL h6 (hstep h6) v hI H locs ls hP hD hS hl
  by_cases kc1 : xs i &&& 63 = 1
  · refine g_top 1 kc1 ?_
    refine lv_tableIn (tgt := 225) F.1 F.2.1 dL_law_33 (by decide) (by decide) rfl (by decide) ?_
    exact lc_1 F hX hXS hbl hL h6 (hstep h6) v hI H locs ls hP hD hS hl
  by_cases kc2 : xs i &&& 63 = 2
  · refine g_top 2 kc2 ?_
    refine lv_tableIn (tgt := 258) F.1 F.2.1 dL_law_33 (by decide) (by decide) rfl (by decide) ?_
    exact lc_2 F hX hXS hbl hL h6 (hstep h6) v hI H locs ls hP hD hS hl
  by_cases kc3 : xs i &&& 63 = 3
  · refine g_top 3 kc3 ?_
    refine lv_tableIn (tgt := 291) F.1 F.2.1 dL_law_33 (by decide) (by decide) rfl (by decide) ?_
    exact lc_3 F hX hXS hbl hL h6 (hstep h6) v hI H locs ls hP hD hS hl
  by_cases kc4 : xs i &&& 63 = 4
  · refine g_top 4 kc4 ?_
    refine lv_tableIn (tgt := 314) F.1 F.2.1 dL_law_33 (by decide) (by decide) rfl (by decide) ?_
    exact lc_4 F hX hXS hbl hL h6 (hstep h6) v hI H locs ls hP hD hS hl
  by_cases kc5 : xs i &&& 63 = 5
  · refine g_top 5 kc5 ?_
    refine lv_tableIn (tgt := 347) F.1 F.2.1 dL_law_33 (by decide) (by decide) rfl (by decide) ?_
    exact lc_5 F hX hXS hbl hL h6 (hstep h6) v hI H locs ls hP hD hS hl
  by_cases kc6 : xs i &&& 63 = 6
  · refine g_top 6 kc6 ?_
    refine lv_tableIn (tgt := 380) F.1 F.2.1 dL_law_33 (by decide) (by decide) rfl (by decide) ?_
    exact lc_6 F hX hXS hbl hL h6 (hstep h6) v hI H locs ls hP hD hS hl
  by_cases kc7 : xs i &&& 63 = 7
  · refine g_top 7 kc7 ?_
    refine lv_tableIn (tgt := 423) F.1 F.2.1 dL_law_33 (by decide) (by decide) rfl (by decide) ?_
    exact lc_7 F hX hXS hbl hL h6 (hstep h6) v hI H locs ls hP hD hS hl
  by_cases kc8 : xs i &&& 63 = 8
  · refine g_top 8 kc8 ?_
    refine lv_tableIn (tgt := 456) F.1 F.2.1 dL_law_33 (by decide) (by decide) rfl (by decide) ?_
    exact lc_8 F hX hXS hbl hL h6 (hstep h6) v hI H locs ls hP hD hS hl
  by_cases kc9 : xs i &&& 63 = 9
  · refine g_top 9 kc9 ?_
    refine lv_tableIn (tgt := 489) F.1 F.2.1 dL_law_33 (by decide) (by decide) rfl (by decide) ?_
    exact lc_9 F hX hXS hbl hL h6 (hstep h6) v hI H locs ls hP hD hS hl
  by_cases kc10 : xs i &&& 63 = 10
  · refine g_top 10 kc10 ?_
    refine lv_tableIn (tgt := 512) F.1 F.2.1 dL_law_33 (by decide) (by decide) rfl (by decide) ?_
    exact lc_10 F hX hXS hbl hL h6 (hstep h6) v hI H locs ls hP hD hS hl
  by_cases kc11 : xs i &&& 63 = 11
  · refine g_top 11 kc11 ?_
    refine lv_tableIn (tgt := 555) F.1 F.2.1 dL_law_33 (by decide) (by decide) rfl (by decide) ?_
    exact lc_11 F hX hXS hbl hL h6 (hstep h6) v hI H locs ls hP hD hS hl
  by_cases kc12 : xs i &&& 63 = 12
  · refine g_top 12 kc12 ?_
    refine lv_tableIn (tgt := 578) F.1 F.2.1 dL_law_33 (by decide) (by decide) rfl (by decide) ?_
    exact lc_12 F hX hXS hbl hL h6 (hstep h6) v hI H locs ls hP hD hS hl
  by_cases kc13 : xs i &&& 63 = 13
  · refine g_top 13 kc13 ?_
    refine lv_tableIn (tgt := 601) F.1 F.2.1 dL_law_33 (by decide) (by decide) rfl (by decide) ?_
    exact lc_13 F hX hXS hbl hL h6 (hstep h6) v hI H locs ls hP hD hS hl
  by_cases kc14 : xs i &&& 63 = 14
  · refine g_top 14 kc14 ?_
    refine lv_tableIn (tgt := 624) F.1 F.2.1 dL_law_33 (by decide) (by decide) rfl (by decide) ?_
    exact lc_14 F hX hXS hbl hL h6 (hstep h6) v hI H locs ls hP hD hS hl
  by_cases kc15 : xs i &&& 63 = 15
  · refine g_top 15 kc15 ?_
    refine lv_tableIn (tgt := 637) F.1 F.2.1 dL_law_33 (by decide) (by decide) rfl (by decide) ?_
    exact lc_15 F hX hXS hbl hL h6 (hstep h6) v hI H locs ls hP hD hS hl
  by_cases kc16 : xs i &&& 63 = 16
  · refine g_top 16 kc16 ?_
    refine lv_tableIn (tgt := 670) F.1 F.2.1 dL_law_33 (by decide) (by decide) rfl (by decide) ?_
    exact lc_16 F hX hXS hbl hL h6 (hstep h6) v hI H locs ls hP hD hS hl
  by_cases kc17 : xs i &&& 63 = 17
  · refine g_top 17 kc17 ?_
    refine lv_tableIn (tgt := 703) F.1 F.2.1 dL_law_33 (by decide) (by decide) rfl (by decide) ?_
    exact lc_17 F hX hXS hbl hL h6 (hstep h6) v hI H locs ls hP hD hS hl
  by_cases kc18 : xs i &&& 63 = 18
  · refine g_top 18 kc18 ?_
    refine lv_tableIn (tgt := 726) F.1 F.2.1 dL_law_33 (by decide) (by decide) rfl (by decide) ?_
    exact lc_18 F hX hXS hbl hL h6 (hstep h6) v hI H locs ls hP hD hS hl
  by_cases kc19 : xs i &&& 63 = 19
  · refine g_top 19 kc19 ?_
    refine lv_tableIn (tgt := 749) F.1 F.2.1 dL_law_33 (by decide) (by decide) rfl (by decide) ?_
    exact lc_19 F hX hXS hbl hL h6 (hstep h6) v hI H locs ls hP hD hS hl
  by_cases kc20 : xs i &&& 63 = 20
  · refine g_top 20 kc20 ?_
    refine lv_tableIn (tgt := 772) F.1 F.2.1 dL_law_33 (by decide) (by decide) rfl (by decide) ?_
    exact lc_20 F hX hXS hbl hL h6 (hstep h6) v hI H locs ls hP hD hS hl
  by_cases kc21 : xs i &&& 63 = 21
  · refine g_top 21 kc21 ?_
    refine lv_tableIn (tgt := 795) F.1 F.2.1 dL_law_33 (by decide) (by decide) rfl (by decide) ?_
    exact lc_21 F hX hXS hbl hL h6 (hstep h6) v hI H locs ls hP hD hS hl
  by_cases kc22 : xs i &&& 63 = 22
  · refine g_top 22 kc22 ?_
    refine lv_tableIn (tgt := 818) F.1 F.2.1 dL_law_33 (by decide) (by decide) rfl (by decide) ?_
    exact lc_22 F hX hXS hbl hL h6 (hstep h6) v hI H locs ls hP hD hS hl
  by_cases kc23 : xs i &&& 63 = 23
  · refine g_top 23 kc23 ?_
    refine lv_tableIn (tgt := 851) F.1 F.2.1 dL_law_33 (by decide) (by decide) rfl (by decide) ?_
    exact lc_23 F hX hXS hbl hL h6 (hstep h6) v hI H locs ls hP hD hS hl
  by_cases kc24 : xs i &&& 63 = 24
  · refine g_top 24 kc24 ?_
    refine lv_tableIn (tgt := 864) F.1 F.2.1 dL_law_33 (by decide) (by decide) rfl (by decide) ?_
    exact lc_24 F hX hXS hbl hL h6 (hstep h6) v hI H locs ls hP hD hS hl
  by_cases kc25 : xs i &&& 63 = 25
  · refine g_top 25 kc25 ?_
    refine lv_tableIn (tgt := 877) F.1 F.2.1 dL_law_33 (by decide) (by decide) rfl (by decide) ?_
    exact lc_25 F hX hXS hbl hL h6 (hstep h6) v hI H locs ls hP hD hS hl
  by_cases kc26 : xs i &&& 63 = 26
  · refine g_top 26 kc26 ?_
    refine lv_tableIn (tgt := 920) F.1 F.2.1 dL_law_33 (by decide) (by decide) rfl (by decide) ?_
    exact lc_26 F hX hXS hbl hL h6 (hstep h6) v hI H locs ls hP hD hS hl
  by_cases kc27 : xs i &&& 63 = 27
  · refine g_top 27 kc27 ?_
    refine lv_tableIn (tgt := 994) F.1 F.2.1 dL_law_33 (by decide) (by decide) rfl (by decide) ?_
    exact lc_27 F hX hXS hbl hL h6 (hstep h6) v hI H locs ls hP hD hS hl
  by_cases kc28 : xs i &&& 63 = 28
  · refine g_top 28 kc28 ?_
    refine lv_tableIn (tgt := 1057) F.1 F.2.1 dL_law_33 (by decide) (by decide) rfl (by decide) ?_
    exact lc_28 F hX hXS hbl hL h6 (hstep h6) v hI H locs ls hP hD hS hl
  by_cases kc29 : xs i &&& 63 = 29
  · refine g_top 29 kc29 ?_
    refine lv_tableIn (tgt := 1080) F.1 F.2.1 dL_law_33 (by decide) (by decide) rfl (by decide) ?_
    exact lc_29 F hX hXS hbl hL h6 (hstep h6) v hI H locs ls hP hD hS hl
  by_cases kc30 : xs i &&& 63 = 30
  · refine g_top 30 kc30 ?_
    refine lv_tableIn (tgt := 1113) F.1 F.2.1 dL_law_33 (by decide) (by decide) rfl (by decide) ?_
    exact lc_30 F hX hXS hbl hL h6 (hstep h6) v hI H locs ls hP hD hS hl
  by_cases kc31 : xs i &&& 63 = 31
  · refine g_top 31 kc31 ?_
    refine lv_tableIn (tgt := 1146) F.1 F.2.1 dL_law_33 (by decide) (by decide) rfl (by decide) ?_
    exact lc_31 F hX hXS hbl hL h6 (hstep h6) v hI H locs ls hP hD hS hl
  by_cases kc32 : xs i &&& 63 = 32
  · refine g_top 32 kc32 ?_
    refine lv_tableIn (tgt := 1159) F.1 F.2.1 dL_law_33 (by decide) (by decide) rfl (by decide) ?_
    exact lc_32 F hX hXS hbl hL h6 (hstep h6) v hI H locs ls hP hD hS hl
  by_cases kc33 : xs i &&& 63 = 33
  · refine g_top 33 kc33 ?_
    refine lv_tableIn (tgt := 1172) F.1 F.2.1 dL_law_33 (by decide) (by decide) rfl (by decide) ?_
    exact lc_33 F hX hXS hbl hL h6 (hstep h6) v hI H locs ls hP hD hS hl
  by_cases kc34 : xs i &&& 63 = 34
  · refine g_top 34 kc34 ?_
    refine lv_tableIn (tgt := 1185) F.1 F.2.1 dL_law_33 (by decide) (by decide) rfl (by decide) ?_
    exact lc_34 F hX hXS hbl hL h6 (hstep h6) v hI H locs ls hP hD hS hl
  by_cases kc35 : xs i &&& 63 = 35
  · refine g_top 35 kc35 ?_
    refine lv_tableIn (tgt := 1208) F.1 F.2.1 dL_law_33 (by decide) (by decide) rfl (by decide) ?_
    exact lc_35 F hX hXS hbl hL h6 (hstep h6) v hI H locs ls hP hD hS hl
  refine lv_tableOut (tgt := 1231) F.1 F.2.1 dL_law_33 (t_out (xs i &&& 63) 0 35 (fun kk h1 h2 => by rcases (show kk = 0 ∨ kk = 1 ∨ kk = 2 ∨ kk = 3 ∨ kk = 4 ∨ kk = 5 ∨ kk = 6 ∨ kk = 7 ∨ kk = 8 ∨ kk = 9 ∨ kk = 10 ∨ kk = 11 ∨ kk = 12 ∨ kk = 13 ∨ kk = 14 ∨ kk = 15 ∨ kk = 16 ∨ kk = 17 ∨ kk = 18 ∨ kk = 19 ∨ kk = 20 ∨ kk = 21 ∨ kk = 22 ∨ kk = 23 ∨ kk = 24 ∨ kk = 25 ∨ kk = 26 ∨ kk = 27 ∨ kk = 28 ∨ kk = 29 ∨ kk = 30 ∨ kk = 31 ∨ kk = 32 ∨ kk = 33 ∨ kk = 34 ∨ kk = 35 by omega) with rfl | rfl | rfl | rfl | rfl | rfl | rfl | rfl | rfl | rfl | rfl | rfl | rfl | rfl | rfl | rfl | rfl | rfl | rfl | rfl | rfl | rfl | rfl | rfl | rfl | rfl | rfl | rfl | rfl | rfl | rfl | rfl | rfl | rfl | rfl | rfl <;> assumption)) (by decide) ?_
  exact hstep h6 v hI H locs ls hP hD hS hl
set_option maxHeartbeats 4000000 in
set_option maxRecDepth 100000 in
theorem law_loop {p : Program} {l : Launch} {e : Env} {s : State} {m0 : MethodId} {below : List Frame} {meth : Method} {c : Code} {E : gE} {ad : Nat → Nat} {b L : Nat} {xs : Nat → Int32} (F : CallFix p m0 c cL_law 4 s #[Value.ref b] wsL_law RL) (hX : gX E (lA s) s s.heap) (hXS : va_X b L xs s s.heap) (hbl : b < s.heap.size) (hL : L ≤ 3072) (hr : meth.sig.returnType = ret) (hlk : meth.locks = false) : ∀ (n i : Nat), i ≤ L + 6 → L + 1 ≤ i + n → LK p l e s m0 below meth c E ad b i 18
  | 0, i, hi, hn => lhead F hX hXS hbl hL hr hlk (by omega) (fun h => absurd h (by omega))
  | n + 1, i, hi, hn => lhead F hX hXS hbl hL hr hlk (by omega) (fun h6 => by
    intro v hI H locs ls hP hD hS hl
    refine lv_iinc (v := nI (i + 6)) (lv' := [(3, .int (nI (i + 6))), (2, .ref (ad 31)), (1, .ref (ad 0)), (0, .ref b)]) F.1 F.2.1 dL_law_1231 hl (k := 0) rfl (nI_add i 6) (by decide) rfl (fun ls hl => ?_)
    refine lv_goto (tgt := 18) F.1 F.2.1 dL_law_1234 (by decide) ?_
    exact law_loop F hX hXS hbl hL hr hlk n (i + 6) (by omega) (by omega) v hI H locs ls hP hD hS hl)
