/-! the Town: words for what it reckons -/
def day (x : Int32) : Int32 := x - x / 100 * 100
def bell (mi : Int32) : Bool := decide (day mi - day mi / 5 * 5 = 0)
def eg (mi fo sp : Int32) : Int32 := sp * (day mi - fo)
def hu (mi fo wi sp : Int32) : Bool := !decide (day mi - fo < 0) && (!decide (wi ≤ 0) && !decide (29 ≤ eg mi fo sp - wi))
def edC (mi fo wi sp : Int32) : Int32 := bif hu mi fo wi sp then eg mi fo sp else -1
def tk (ed wi h : Int32) : Bool := !decide (ed = -1) && (!decide (ed < h) && !decide (h ≤ ed - wi))
def pg (wi sp pl ed : Int32) : Int32 := bif tk ed wi pl then sp else 0
def cg (a : Int32) : Int32 := bif inR a (-3) 0 then 2 else 0
def gqC (mi wi sp ki pl ed : Int32) : Int32 := if ed = -1 then (if ki = 3 then -1 else 0) else if ki = 1 then pg wi sp pl ed else if ki = 2 then cg (ed - pl) else if ki = 3 then iMax (-4) (iMin 4 (ed - pl)) else if ki = 4 then (bif bell mi then 0 else pg wi sp pl ed) else if ki = 5 then cg (ed - pl) + (if ed - pl = 0 then 1 else 0) else 0
def rg (mi ki : Int32) : Bool := decide (ki = 4) && bell mi
def taC (mi wi ki pl ed : Int32) : Int32 := bif tk ed wi pl then bi (rg mi ki) else if ki = 1 then 5 + bi (rg mi ki) else if ki = 2 then 4 else if ki = 3 then 1 else if ki = 4 then 5 + bi (rg mi ki) else if ki = 5 then 3 else 2
def soC (ki ca : Int32) : Bool := if ki = 1 then false else if ki = 2 then !decide (ca < 3) else if ki = 3 then true else if ki = 4 then false else if ki = 5 then !decide (ca < 1) else !decide (ca < 3)
def whoC (f : Nat → Bool) : Nat → Int32
  | 0 => 0
  | n + 1 => whoC f n ||| (bif f n then 1 <<< (nI n &&& 31) else 0)
def sumF (b : Int32) (f : Nat → Int32) : Nat → Int32
  | 0 => b
  | n + 1 => sumF b f n + f n
set_option maxHeartbeats 4000000 in
set_option maxRecDepth 100000 in
theorem c_X2_minuteOfDay (l : Launch) (E : gE) (h : Nat) (mi : Int32) (fo : Int32) (wi : Int32) (sp : Int32) (P : Nat) (wa : Int32) (qn : Nat) (qk : Nat) (qp : Nat) (qq : Nat) (qc : Nat) : gI l yX2_minuteOfDay wsX2_minuteOfDay ({ frames := 0, cells := 0, slots := 0, locals := 0 }) E [(h, .inr (2, [.int mi, .int fo, .int wi, .int sp, .ref qn, .int (nI P), .ref qk, .ref qp, .ref qq, .ref qc, .int wa]))] (fun _ : Unit => [(h, .inr (2, [.int mi, .int fo, .int wi, .int sp, .ref qn, .int (nI P), .ref qk, .ref qp, .ref qq, .ref qc, .int wa]))]) [.ref h] (fun (r : Int32) (_ : Unit) => r = day mi) := by
  have hin2 : ∀ w ∈ wsX20, w ∈ wsX2_minuteOfDay := (fun _ h => (List.mem_cons_of_mem _ (List.mem_append_right _ h)))
  refine gI.of (cc := cX2_minuteOfDay) (maxL := 1) (by decide) rfl (Nat.le_of_ble_eq_true rfl) ?_
  intro pG eG sG mG below meth cG A ls H locs F hr hlk hX hP hD hA hS hl
  have hl : lv_has ls 1 [(0, .ref h)] := hl
  refine lv_aload_n F.1 F.2.1 dX2_minuteOfDay_0 rfl (lv_at hl 0 rfl) ?_
  refine g_get F hX hP hin2 0 rfl rfl 0 (by decide) (mm 1 rfl) rfl dX2_minuteOfDay_1 ?_
  refine lv_bipush (v := 100) F.1 F.2.1 dX2_minuteOfDay_4 (by decide) ?_
  refine lv_irem F.1 F.2.1 dX2_minuteOfDay_6 (by decide) ?_
  exact g_reti F hr hlk (vp_nar_int _) hS hP hD (()) (rfl) (rfl) dX2_minuteOfDay_7
set_option maxHeartbeats 4000000 in
set_option maxRecDepth 100000 in
theorem c_X2_isBell (l : Launch) (E : gE) (h : Nat) (mi : Int32) (fo : Int32) (wi : Int32) (sp : Int32) (P : Nat) (wa : Int32) (qn : Nat) (qk : Nat) (qp : Nat) (qq : Nat) (qc : Nat) : gI l yX2_isBell wsX2_isBell ({ frames := 1, cells := 0, slots := 0, locals := 20 }) E [(h, .inr (2, [.int mi, .int fo, .int wi, .int sp, .ref qn, .int (nI P), .ref qk, .ref qp, .ref qq, .ref qc, .int wa]))] (fun _ : Unit => [(h, .inr (2, [.int mi, .int fo, .int wi, .int sp, .ref qn, .int (nI P), .ref qk, .ref qp, .ref qq, .ref qc, .int wa]))]) [.ref h] (fun (r : Int32) (_ : Unit) => r = bi (bell mi)) := by
  refine gI.of (cc := cX2_isBell) (maxL := 1) (by decide) rfl (Nat.le_of_ble_eq_true rfl) ?_
  intro pG eG sG mG below meth cG A ls H locs F hr hlk hX hP hD hA hS hl
  have hl : lv_has ls 1 [(0, .ref h)] := hl
  refine lv_aload_n F.1 F.2.1 dX2_isBell_0 rfl (lv_at hl 0 rfl) ?_
  refine g_goIr (g_runV (As := []) (rest := []) F hX hP hD hS hA (c_X2_minuteOfDay l E h mi fo wi sp P wa qn qk qp qq qc H.size) (cwV 0 F.2.2.2.2 gX2_isBell_X2_minuteOfDay rfl rfl rfl (by decide +kernel) ⟨Nat.le_of_ble_eq_true rfl, Nat.le_of_ble_eq_true rfl⟩) [0] rfl rfl (q0 := 0) (ci := 2) rfl rfl rfl hl.1 rfl (Nat.le_of_ble_eq_true rfl) dX2_isBell_1 ⟨Nat.le_refl _, Nat.le_refl _⟩) hP hD hS hA [0] rfl (fun r _ H locs hq hP hS => ?_)
  subst hq
  refine lv_iconst (v := 5) F.1 F.2.1 dX2_isBell_4 (by decide) ?_
  refine lv_irem F.1 F.2.1 dX2_isBell_5 (by decide) ?_
  refine lv_if_ne (tgt := 13) F.1 F.2.1 dX2_isBell_6 (by decide) (fun k1 => ?_) (fun k1 => ?_)
  · refine lv_iconst (v := 0) F.1 F.2.1 dX2_isBell_13 (by decide) ?_
    exact g_reti F hr hlk rfl hS hP hD (()) (rfl) (by simp [bell, bi, k1]) dX2_isBell_14
  · refine lv_iconst (v := 1) F.1 F.2.1 dX2_isBell_9 (by decide) ?_
    refine lv_goto (tgt := 14) F.1 F.2.1 dX2_isBell_10 (by decide) ?_
    exact g_reti F hr hlk rfl hS hP hD (()) (rfl) (by simp [bell, bi, k1]) dX2_isBell_14
set_option maxHeartbeats 4000000 in
set_option maxRecDepth 100000 in
theorem c_X2_edge (l : Launch) (E : gE) (h : Nat) (mi : Int32) (fo : Int32) (wi : Int32) (sp : Int32) (P : Nat) (wa : Int32) (qn : Nat) (qk : Nat) (qp : Nat) (qq : Nat) (qc : Nat) : gI l yX2_edge wsX2_edge ({ frames := 1, cells := 0, slots := 0, locals := 20 }) E [(h, .inr (2, [.int mi, .int fo, .int wi, .int sp, .ref qn, .int (nI P), .ref qk, .ref qp, .ref qq, .ref qc, .int wa]))] (fun _ : Unit => [(h, .inr (2, [.int mi, .int fo, .int wi, .int sp, .ref qn, .int (nI P), .ref qk, .ref qp, .ref qq, .ref qc, .int wa]))]) [.ref h] (fun (r : Int32) (_ : Unit) => r = edC mi fo wi sp) := by
  have hin2 : ∀ w ∈ wsX20, w ∈ wsX2_edge := (fun _ h => (List.mem_cons_of_mem _ (List.mem_append_right _ h)))
  refine gI.of (cc := cX2_edge) (maxL := 4) (by decide) rfl (Nat.le_of_ble_eq_true rfl) ?_
  intro pG eG sG mG below meth cG A ls H locs F hr hlk hX hP hD hA hS hl
  have hl : lv_has ls 4 [(0, .ref h)] := hl
  refine lv_aload_n F.1 F.2.1 dX2_edge_0 rfl (lv_at hl 0 rfl) ?_
  refine g_goIr (g_runV (As := []) (rest := []) F hX hP hD hS hA (c_X2_minuteOfDay l E h mi fo wi sp P wa qn qk qp qq qc H.size) (cwV 0 F.2.2.2.2 gX2_edge_X2_minuteOfDay rfl rfl rfl (by decide +kernel) ⟨Nat.le_of_ble_eq_true rfl, Nat.le_of_ble_eq_true rfl⟩) [0] rfl rfl (q0 := 0) (ci := 2) rfl rfl rfl hl.1 rfl (Nat.le_of_ble_eq_true rfl) dX2_edge_1 ⟨Nat.le_refl _, Nat.le_refl _⟩) hP hD hS hA [0] rfl (fun r _ H locs hq hP hS => ?_)
  subst hq
  refine lv_aload_n F.1 F.2.1 dX2_edge_4 rfl (lv_at hl 0 rfl) ?_
  refine g_get F hX hP hin2 0 rfl rfl 1 (by decide) (mm 1 rfl) rfl dX2_edge_5 ?_
  refine lv_isub F.1 F.2.1 dX2_edge_8 ?_
  refine lv_istore_n (lv' := [(1, .int ((day mi) - fo)), (0, .ref h)]) F.1 F.2.1 dX2_edge_9 rfl hl (by decide) rfl (fun ls hl => ?_)
  refine lv_aload_n F.1 F.2.1 dX2_edge_10 rfl (lv_at hl 1 rfl) ?_
  refine g_get F hX hP hin2 0 rfl rfl 3 (by decide) (mm 2 rfl) rfl dX2_edge_11 ?_
  refine lv_iload_n F.1 F.2.1 dX2_edge_14 rfl (lv_at hl 0 rfl) ?_
  refine lv_imul F.1 F.2.1 dX2_edge_15 ?_
  refine lv_istore_n (lv' := [(2, .int (sp * ((day mi) - fo))), (1, .int ((day mi) - fo)), (0, .ref h)]) F.1 F.2.1 dX2_edge_16 rfl hl (by decide) rfl (fun ls hl => ?_)
  refine lv_iload_n F.1 F.2.1 dX2_edge_17 rfl (lv_at hl 1 rfl) ?_
  have jn44 : ∀ (H : Heap) (locs : List Loc) (ls : Array Slot), va_P (eD E) vwCl [(h, .inr (2, [.int mi, .int fo, .int wi, .int sp, .ref qn, .int (nI P), .ref qk, .ref qp, .ref qq, .ref qc, .int wa]))] H → va_D A [(h, .inr (2, [.int mi, .int fo, .int wi, .int sp, .ref qn, .int (nI P), .ref qk, .ref qp, .ref qq, .ref qc, .int wa]))] → va_S A sG.heap H locs → lv_has ls 4 [(2, .int (sp * ((day mi) - fo))), (1, .int ((day mi) - fo)), (0, .ref h)] → W pG l eG { frames := 1, cells := 0, slots := 0, locals := 20 } sG mG [.ref h].toArray below meth cG H locs 0 0 (MQ below (va_Qi (fun (r : Int32) (_ : Unit) => r = edC mi fo wi sp) (gR E (fun _ : Unit => [(h, .inr (2, [.int mi, .int fo, .int wi, .int sp, .ref qn, .int (nI P), .ref qk, .ref qp, .ref qq, .ref qc, .int wa]))]) A) A) [.ref h].toArray sG 0 0 A) (F0 mG 44 ls [.int (bi (hu mi fo wi sp))]) := by
    intro H locs ls hP hD hS hl
    refine lv_istore_n (lv' := [(3, .int (bi (hu mi fo wi sp))), (2, .int (sp * ((day mi) - fo))), (1, .int ((day mi) - fo)), (0, .ref h)]) F.1 F.2.1 dX2_edge_44 rfl hl (by decide) rfl (fun ls hl => ?_)
    refine lv_iload_n F.1 F.2.1 dX2_edge_45 rfl (lv_at hl 0 rfl) ?_
    refine g_beq (tgt := 53) F dX2_edge_46 (by decide) (fun k1 => ?_) (fun k1 => ?_)
    · refine lv_iconst (v := (-1)) F.1 F.2.1 dX2_edge_53 (by decide) ?_
      exact g_reti F hr hlk (vp_nar_int _) hS hP hD (()) (rfl) (by simp [edC, eg, k1]) dX2_edge_54
    · refine lv_iload_n F.1 F.2.1 dX2_edge_49 rfl (lv_at hl 1 rfl) ?_
      refine lv_goto (tgt := 54) F.1 F.2.1 dX2_edge_50 (by decide) ?_
      exact g_reti F hr hlk (vp_nar_int _) hS hP hD (()) (rfl) (by simp [edC, eg, k1]) dX2_edge_54
  refine lv_if_lt (tgt := 43) F.1 F.2.1 dX2_edge_18 (by decide) (fun k2 => ?_) (fun k2 => ?_)
  · refine lv_iconst (v := 0) F.1 F.2.1 dX2_edge_43 (by decide) ?_
    refine g_top (bi (hu mi fo wi sp)) (by simp [hu, eg, bi, k2]) ?_
    exact jn44 _ _ _ hP hD hS (lv_sub hl [0, 1, 2] rfl)
  · refine lv_aload_n F.1 F.2.1 dX2_edge_21 rfl (lv_at hl 2 rfl) ?_
    refine g_get F hX hP hin2 0 rfl rfl 2 (by decide) (mm 3 rfl) rfl dX2_edge_22 ?_
    refine lv_if_le (tgt := 43) F.1 F.2.1 dX2_edge_25 (by decide) (fun k3 => ?_) (fun k3 => ?_)
    · refine lv_iconst (v := 0) F.1 F.2.1 dX2_edge_43 (by decide) ?_
      refine g_top (bi (hu mi fo wi sp)) (by simp [hu, eg, bi, k2, k3]) ?_
      exact jn44 _ _ _ hP hD hS (lv_sub hl [0, 1, 2] rfl)
    · refine lv_iload_n F.1 F.2.1 dX2_edge_28 rfl (lv_at hl 0 rfl) ?_
      refine lv_aload_n F.1 F.2.1 dX2_edge_29 rfl (lv_at hl 2 rfl) ?_
      refine g_get F hX hP hin2 0 rfl rfl 2 (by decide) (mm 3 rfl) rfl dX2_edge_30 ?_
      refine lv_isub F.1 F.2.1 dX2_edge_33 ?_
      refine lv_bipush (v := 29) F.1 F.2.1 dX2_edge_34 (by decide) ?_
      refine lv_icmp_ge (tgt := 43) F.1 F.2.1 dX2_edge_36 (by decide) (fun k4 => ?_) (fun k4 => ?_)
      · refine lv_iconst (v := 0) F.1 F.2.1 dX2_edge_43 (by decide) ?_
        refine g_top (bi (hu mi fo wi sp)) (by simp [hu, eg, bi, k2, k3, k4]) ?_
        exact jn44 _ _ _ hP hD hS (lv_sub hl [0, 1, 2] rfl)
      · refine lv_iconst (v := 1) F.1 F.2.1 dX2_edge_39 (by decide) ?_
        refine lv_goto (tgt := 44) F.1 F.2.1 dX2_edge_40 (by decide) ?_
        refine g_top (bi (hu mi fo wi sp)) (by simp [hu, eg, bi, k2, k3, k4]) ?_
        exact jn44 _ _ _ hP hD hS (lv_sub hl [0, 1, 2] rfl)
set_option maxHeartbeats 4000000 in
set_option maxRecDepth 100000 in
theorem c_X2_takes (l : Launch) (E : gE) (h : Nat) (mi : Int32) (fo : Int32) (wi : Int32) (sp : Int32) (P : Nat) (wa : Int32) (qn : Nat) (qk : Nat) (qp : Nat) (qq : Nat) (qc : Nat) (ed : Int32) (g : Int32) : gI l yX2_takes wsX2_takes ({ frames := 0, cells := 0, slots := 0, locals := 0 }) E [(h, .inr (2, [.int mi, .int fo, .int wi, .int sp, .ref qn, .int (nI P), .ref qk, .ref qp, .ref qq, .ref qc, .int wa]))] (fun _ : Unit => [(h, .inr (2, [.int mi, .int fo, .int wi, .int sp, .ref qn, .int (nI P), .ref qk, .ref qp, .ref qq, .ref qc, .int wa]))]) [.ref h, .int ed, .int g] (fun (r : Int32) (_ : Unit) => r = bi (tk ed wi g)) := by
  have hin2 : ∀ w ∈ wsX20, w ∈ wsX2_takes := (fun _ h => (List.mem_cons_of_mem _ (List.mem_append_right _ h)))
  refine gI.of (cc := cX2_takes) (maxL := 3) (by decide) rfl (Nat.le_of_ble_eq_true rfl) ?_
  intro pG eG sG mG below meth cG A ls H locs F hr hlk hX hP hD hA hS hl
  have hl : lv_has ls 3 [(0, .ref h), (1, .int ed), (2, .int g)] := hl
  refine lv_iload_n F.1 F.2.1 dX2_takes_0 rfl (lv_at hl 1 rfl) ?_
  refine lv_iconst (v := (-1)) F.1 F.2.1 dX2_takes_1 (by decide) ?_
  refine lv_icmp_eq (tgt := 24) F.1 F.2.1 dX2_takes_2 (by decide) (fun k1 => ?_) (fun k1 => ?_)
  · refine lv_iconst (v := 0) F.1 F.2.1 dX2_takes_24 (by decide) ?_
    exact g_reti F hr hlk rfl hS hP hD (()) (rfl) (by simp [tk, bi, k1]) dX2_takes_25
  · refine lv_iload_n F.1 F.2.1 dX2_takes_5 rfl (lv_at hl 2 rfl) ?_
    refine lv_iload_n F.1 F.2.1 dX2_takes_6 rfl (lv_at hl 1 rfl) ?_
    refine lv_icmp_gt (tgt := 24) F.1 F.2.1 dX2_takes_7 (by decide) (fun k2 => ?_) (fun k2 => ?_)
    · refine lv_iconst (v := 0) F.1 F.2.1 dX2_takes_24 (by decide) ?_
      exact g_reti F hr hlk rfl hS hP hD (()) (rfl) (by simp [tk, bi, k1, k2]) dX2_takes_25
    · refine lv_iload_n F.1 F.2.1 dX2_takes_10 rfl (lv_at hl 2 rfl) ?_
      refine lv_iload_n F.1 F.2.1 dX2_takes_11 rfl (lv_at hl 1 rfl) ?_
      refine lv_aload_n F.1 F.2.1 dX2_takes_12 rfl (lv_at hl 0 rfl) ?_
      refine g_get F hX hP hin2 0 rfl rfl 2 (by decide) (mm 1 rfl) rfl dX2_takes_13 ?_
      refine lv_isub F.1 F.2.1 dX2_takes_16 ?_
      refine lv_icmp_le (tgt := 24) F.1 F.2.1 dX2_takes_17 (by decide) (fun k3 => ?_) (fun k3 => ?_)
      · refine lv_iconst (v := 0) F.1 F.2.1 dX2_takes_24 (by decide) ?_
        exact g_reti F hr hlk rfl hS hP hD (()) (rfl) (by simp [tk, bi, k1, k2, k3]) dX2_takes_25
      · refine lv_iconst (v := 1) F.1 F.2.1 dX2_takes_20 (by decide) ?_
        refine lv_goto (tgt := 25) F.1 F.2.1 dX2_takes_21 (by decide) ?_
        exact g_reti F hr hlk rfl hS hP hD (()) (rfl) (by simp [tk, bi, k1, k2, k3]) dX2_takes_25
set_option maxHeartbeats 4000000 in
set_option maxRecDepth 100000 in
theorem c_X2_pedlarGoes (l : Launch) (E : gE) (h : Nat) (mi : Int32) (fo : Int32) (wi : Int32) (sp : Int32) (P : Nat) (wa : Int32) (qn : Nat) (qk : Nat) (qp : Nat) (qq : Nat) (qc : Nat) (j : Nat) (ed : Int32) (pl : Nat → Int32) (hj8 : j < 8) : gI l yX2_pedlarGoes wsX2_pedlarGoes ({ frames := 1, cells := 0, slots := 0, locals := 22 }) E [(h, .inr (2, [.int mi, .int fo, .int wi, .int sp, .ref qn, .int (nI P), .ref qk, .ref qp, .ref qq, .ref qc, .int wa])), (qp, .inl (eI E, 8, .inl pl))] (fun _ : Unit => [(h, .inr (2, [.int mi, .int fo, .int wi, .int sp, .ref qn, .int (nI P), .ref qk, .ref qp, .ref qq, .ref qc, .int wa])), (qp, .inl (eI E, 8, .inl pl))]) [.ref h, .int (nI j), .int ed] (fun (r : Int32) (_ : Unit) => r = pg wi sp (pl j) ed) := by
  have hin2 : ∀ w ∈ wsX20, w ∈ wsX2_pedlarGoes := (fun _ h => (List.mem_cons_of_mem _ (List.mem_append_right _ h)))
  refine gI.of (cc := cX2_pedlarGoes) (maxL := 3) (by decide) rfl (Nat.le_of_ble_eq_true rfl) ?_
  intro pG eG sG mG below meth cG A ls H locs F hr hlk hX hP hD hA hS hl
  have hl : lv_has ls 3 [(0, .ref h), (1, .int (nI j)), (2, .int ed)] := hl
  refine lv_aload_n F.1 F.2.1 dX2_pedlarGoes_0 rfl (lv_at hl 0 rfl) ?_
  refine lv_iload_n F.1 F.2.1 dX2_pedlarGoes_1 rfl (lv_at hl 2 rfl) ?_
  refine lv_aload_n F.1 F.2.1 dX2_pedlarGoes_2 rfl (lv_at hl 0 rfl) ?_
  refine g_get F hX hP hin2 0 rfl rfl 7 (by decide) (mm 1 rfl) rfl dX2_pedlarGoes_3 ?_
  refine lv_iload_n F.1 F.2.1 dX2_pedlarGoes_6 rfl (lv_at hl 1 rfl) ?_
  refine g_iald F hX hP 1 rfl (j := j) (rfl) (by omega) (by decide) dX2_pedlarGoes_7 ?_
  refine g_goIr (g_runV (As := [.int ed, .int (pl j)]) (rest := []) F hX hP hD hS hA (c_X2_takes l E h mi fo wi sp P wa qn qk qp qq qc ed (pl j) H.size) (cwV 2 F.2.2.2.2 gX2_pedlarGoes_X2_takes rfl rfl rfl (by decide +kernel) ⟨Nat.le_of_ble_eq_true rfl, Nat.le_of_ble_eq_true rfl⟩) [0] rfl rfl (q0 := 0) (ci := 2) rfl rfl rfl hl.1 rfl (Nat.le_of_ble_eq_true rfl) dX2_pedlarGoes_8 ⟨Nat.le_refl _, Nat.le_refl _⟩) hP hD hS hA [0] rfl (fun r _ H locs hq hP hS => ?_)
  subst hq
  refine g_beq (tgt := 21) F dX2_pedlarGoes_11 (by decide) (fun k1 => ?_) (fun k1 => ?_)
  · refine lv_iconst (v := 0) F.1 F.2.1 dX2_pedlarGoes_21 (by decide) ?_
    exact g_reti F hr hlk (vp_nar_int _) hS hP hD (()) (rfl) (by simp [pg, k1]) dX2_pedlarGoes_22
  · refine lv_aload_n F.1 F.2.1 dX2_pedlarGoes_14 rfl (lv_at hl 0 rfl) ?_
    refine g_get F hX hP hin2 0 rfl rfl 3 (by decide) (mm 2 rfl) rfl dX2_pedlarGoes_15 ?_
    refine lv_goto (tgt := 22) F.1 F.2.1 dX2_pedlarGoes_18 (by decide) ?_
    exact g_reti F hr hlk (vp_nar_int _) hS hP hD (()) (rfl) (by simp [pg, k1]) dX2_pedlarGoes_22
set_option maxHeartbeats 4000000 in
set_option maxRecDepth 100000 in
theorem c_X2_childGoes (l : Launch) (E : gE) (h : Nat) (mi : Int32) (fo : Int32) (wi : Int32) (sp : Int32) (P : Nat) (wa : Int32) (qn : Nat) (qk : Nat) (qp : Nat) (qq : Nat) (qc : Nat) (a : Int32) : gI l yX2_childGoes wsX2_childGoes ({ frames := 1, cells := 0, slots := 0, locals := 22 }) E [(h, .inr (2, [.int mi, .int fo, .int wi, .int sp, .ref qn, .int (nI P), .ref qk, .ref qp, .ref qq, .ref qc, .int wa]))] (fun _ : Unit => [(h, .inr (2, [.int mi, .int fo, .int wi, .int sp, .ref qn, .int (nI P), .ref qk, .ref qp, .ref qq, .ref qc, .int wa]))]) [.ref h, .int a] (fun (r : Int32) (_ : Unit) => r = cg a) := by
  refine gI.of (cc := cX2_childGoes) (maxL := 2) (by decide) rfl (Nat.le_of_ble_eq_true rfl) ?_
  intro pG eG sG mG below meth cG A ls H locs F hr hlk hX hP hD hA hS hl
  have hl : lv_has ls 2 [(0, .ref h), (1, .int a)] := hl
  refine lv_iload_n F.1 F.2.1 dX2_childGoes_0 rfl (lv_at hl 1 rfl) ?_
  refine lv_bipush (v := (-3)) F.1 F.2.1 dX2_childGoes_1 (by decide) ?_
  refine lv_iconst (v := 0) F.1 F.2.1 dX2_childGoes_3 (by decide) ?_
  refine g_goIr (g_runSN (As := [.int a, .int (-3), .int 0]) (rest := []) F hX hP hD hS hA (c_X3_isWithin l E a (-3) 0 H.size) ⟨va_cnB 3 F.2.2.2.2 gX2_childGoes_X3_isWithin_n83 rfl rfl rfl hX.2.1.2.2.2 (F.2.2.2.2 _ (mm 2 rfl)) (by decide +kernel) ⟨Nat.le_of_ble_eq_true rfl, Nat.le_of_ble_eq_true rfl⟩, F.2.2.2.2 _ (mm 1 rfl), trivial⟩ [] rfl rfl rfl hl.1 rfl (Nat.le_of_ble_eq_true rfl) dX2_childGoes_4 ⟨Nat.le_refl _, Nat.le_refl _⟩) hP hD hS hA [] rfl (fun r _ H locs hq hP hS => ?_)
  subst hq
  refine g_beq (tgt := 14) F dX2_childGoes_7 (by decide) (fun k1 => ?_) (fun k1 => ?_)
  · refine lv_iconst (v := 0) F.1 F.2.1 dX2_childGoes_14 (by decide) ?_
    exact g_reti F hr hlk (vp_nar_int _) hS hP hD (()) (rfl) (by simp [cg, k1]) dX2_childGoes_15
  · refine lv_iconst (v := 2) F.1 F.2.1 dX2_childGoes_10 (by decide) ?_
    refine lv_goto (tgt := 15) F.1 F.2.1 dX2_childGoes_11 (by decide) ?_
    exact g_reti F hr hlk (vp_nar_int _) hS hP hD (()) (rfl) (by simp [cg, k1]) dX2_childGoes_15
set_option maxHeartbeats 4000000 in
set_option maxRecDepth 100000 in
theorem c_X2_goes (l : Launch) (E : gE) (h : Nat) (mi : Int32) (fo : Int32) (wi : Int32) (sp : Int32) (P : Nat) (wa : Int32) (qn : Nat) (qk : Nat) (qp : Nat) (qq : Nat) (qc : Nat) (j : Nat) (ed : Int32) (ki : Nat → Int32) (pl : Nat → Int32) (hj8 : j < 8) : gI l yX2_goes wsX2_goes ({ frames := 2, cells := 0, slots := 0, locals := 44 }) E [(h, .inr (2, [.int mi, .int fo, .int wi, .int sp, .ref qn, .int (nI P), .ref qk, .ref qp, .ref qq, .ref qc, .int wa])), (qk, .inl (eI E, 8, .inl ki)), (qp, .inl (eI E, 8, .inl pl))] (fun _ : Unit => [(h, .inr (2, [.int mi, .int fo, .int wi, .int sp, .ref qn, .int (nI P), .ref qk, .ref qp, .ref qq, .ref qc, .int wa])), (qk, .inl (eI E, 8, .inl ki)), (qp, .inl (eI E, 8, .inl pl))]) [.ref h, .int (nI j), .int ed] (fun (r : Int32) (_ : Unit) => r = gqC mi wi sp (ki j) (pl j) ed) := by
  have hin2 : ∀ w ∈ wsX20, w ∈ wsX2_goes := (fun _ h => (List.mem_cons_of_mem _ (List.mem_append_right _ h)))
  refine gI.of (cc := cX2_goes) (maxL := 4) (by decide) rfl (Nat.le_of_ble_eq_true rfl) ?_
  intro pG eG sG mG below meth cG A ls H locs F hr hlk hX hP hD hA hS hl
  have hl : lv_has ls 4 [(0, .ref h), (1, .int (nI j)), (2, .int ed)] := hl
  refine lv_iload_n F.1 F.2.1 dX2_goes_0 rfl (lv_at hl 2 rfl) ?_
  refine lv_iconst (v := (-1)) F.1 F.2.1 dX2_goes_1 (by decide) ?_
  refine lv_icmp_ne (tgt := 21) F.1 F.2.1 dX2_goes_2 (by decide) (fun k1 => ?_) (fun k1 => ?_)
  · refine lv_iload_n F.1 F.2.1 dX2_goes_21 rfl (lv_at hl 2 rfl) ?_
    refine lv_aload_n F.1 F.2.1 dX2_goes_22 rfl (lv_at hl 0 rfl) ?_
    refine g_get F hX hP hin2 0 rfl rfl 7 (by decide) (mm 2 rfl) rfl dX2_goes_23 ?_
    refine lv_iload_n F.1 F.2.1 dX2_goes_26 rfl (lv_at hl 1 rfl) ?_
    refine g_iald F hX hP 2 rfl (j := j) (rfl) (by omega) (by decide) dX2_goes_27 ?_
    refine lv_isub F.1 F.2.1 dX2_goes_28 ?_
    refine lv_istore_n (lv' := [(3, .int (ed - (pl j))), (0, .ref h), (1, .int (nI j)), (2, .int ed)]) F.1 F.2.1 dX2_goes_29 rfl hl (by decide) rfl (fun ls hl => ?_)
    refine lv_aload_n F.1 F.2.1 dX2_goes_30 rfl (lv_at hl 1 rfl) ?_
    refine g_get F hX hP hin2 0 rfl rfl 6 (by decide) (mm 1 rfl) rfl dX2_goes_31 ?_
    refine lv_iload_n F.1 F.2.1 dX2_goes_34 rfl (lv_at hl 2 rfl) ?_
    refine g_iald F hX hP 1 rfl (j := j) (rfl) (by omega) (by decide) dX2_goes_35 ?_
    by_cases k2 : (ki j) = 1
    · refine g_top 1 k2 ?_
      refine lv_tableIn (tgt := 72) F.1 F.2.1 dX2_goes_36 (by decide) (by decide) rfl (by decide) ?_
      refine lv_aload_n F.1 F.2.1 dX2_goes_72 rfl (lv_at hl 1 rfl) ?_
      refine lv_iload_n F.1 F.2.1 dX2_goes_73 rfl (lv_at hl 2 rfl) ?_
      refine lv_iload_n F.1 F.2.1 dX2_goes_74 rfl (lv_at hl 3 rfl) ?_
      refine g_goIr (g_runV (As := [.int (nI j), .int ed]) (rest := []) F hX hP hD hS hA (c_X2_pedlarGoes l E h mi fo wi sp P wa qn qk qp qq qc j ed pl (by omega) H.size) (cwV 2 F.2.2.2.2 gX2_goes_X2_pedlarGoes rfl rfl rfl (by decide +kernel) ⟨Nat.le_of_ble_eq_true rfl, Nat.le_of_ble_eq_true rfl⟩) [0, 2] rfl rfl (q0 := 0) (ci := 2) rfl rfl rfl hl.1 rfl (Nat.le_of_ble_eq_true rfl) dX2_goes_75 ⟨Nat.le_refl _, Nat.le_refl _⟩) hP hD hS hA [0, 2] rfl (fun r _ H locs hq hP hS => ?_)
      subst hq
      exact g_reti F hr hlk (vp_nar_int _) hS hP hD (()) (rfl) (by simp [gqC, k1, k2]) dX2_goes_78
    by_cases k3 : (ki j) = 2
    · refine g_top 2 k3 ?_
      refine lv_tableIn (tgt := 79) F.1 F.2.1 dX2_goes_36 (by decide) (by decide) rfl (by decide) ?_
      refine lv_aload_n F.1 F.2.1 dX2_goes_79 rfl (lv_at hl 1 rfl) ?_
      refine lv_iload_n F.1 F.2.1 dX2_goes_80 rfl (lv_at hl 0 rfl) ?_
      refine g_goIr (g_runV (As := [.int (ed - (pl j))]) (rest := []) F hX hP hD hS hA (c_X2_childGoes l E h mi fo wi sp P wa qn qk qp qq qc (ed - (pl j)) H.size) (cwV 1 F.2.2.2.2 gX2_goes_X2_childGoes rfl rfl rfl (by decide +kernel) ⟨Nat.le_of_ble_eq_true rfl, Nat.le_of_ble_eq_true rfl⟩) [0] rfl rfl (q0 := 0) (ci := 2) rfl rfl rfl hl.1 rfl (Nat.le_of_ble_eq_true rfl) dX2_goes_81 ⟨Nat.le_refl _, Nat.le_refl _⟩) hP hD hS hA [0] rfl (fun r _ H locs hq hP hS => ?_)
      subst hq
      exact g_reti F hr hlk (vp_nar_int _) hS hP hD (()) (rfl) (by simp [gqC, k1, k2, k3]) dX2_goes_84
    by_cases k4 : (ki j) = 3
    · refine g_top 3 k4 ?_
      refine lv_tableIn (tgt := 85) F.1 F.2.1 dX2_goes_36 (by decide) (by decide) rfl (by decide) ?_
      refine lv_iload_n F.1 F.2.1 dX2_goes_85 rfl (lv_at hl 0 rfl) ?_
      refine lv_bipush (v := (-4)) F.1 F.2.1 dX2_goes_86 (by decide) ?_
      refine lv_iconst (v := 4) F.1 F.2.1 dX2_goes_88 (by decide) ?_
      refine g_goIr (g_runSN (As := [.int (ed - (pl j)), .int (-4), .int 4]) (rest := []) F hX hP hD hS hA (c_X3_held l E (ed - (pl j)) (-4) 4 H.size) ⟨va_cnB 3 F.2.2.2.2 gX2_goes_X3_held_n75 rfl rfl rfl hX.2.1.2.2.1 (F.2.2.2.2 _ (mm 19 rfl)) (by decide +kernel) ⟨Nat.le_of_ble_eq_true rfl, Nat.le_of_ble_eq_true rfl⟩, F.2.2.2.2 _ (mm 21 rfl), trivial⟩ [] rfl rfl rfl hl.1 rfl (Nat.le_of_ble_eq_true rfl) dX2_goes_89 ⟨Nat.le_refl _, Nat.le_refl _⟩) hP hD hS hA [] rfl (fun r _ H locs hq hP hS => ?_)
      subst hq
      exact g_reti F hr hlk (vp_nar_int _) hS hP hD (()) (rfl) (by simp [gqC, k1, k2, k3, k4]) dX2_goes_92
    by_cases k5 : (ki j) = 4
    · refine g_top 4 k5 ?_
      refine lv_tableIn (tgt := 93) F.1 F.2.1 dX2_goes_36 (by decide) (by decide) rfl (by decide) ?_
      refine lv_aload_n F.1 F.2.1 dX2_goes_93 rfl (lv_at hl 1 rfl) ?_
      refine g_goIr (g_runV (As := []) (rest := []) F hX hP hD hS hA (c_X2_isBell l E h mi fo wi sp P wa qn qk qp qq qc H.size) (cwV 0 F.2.2.2.2 gX2_goes_X2_isBell rfl rfl rfl (by decide +kernel) ⟨Nat.le_of_ble_eq_true rfl, Nat.le_of_ble_eq_true rfl⟩) [0] rfl rfl (q0 := 0) (ci := 2) rfl rfl rfl hl.1 rfl (Nat.le_of_ble_eq_true rfl) dX2_goes_94 ⟨Nat.le_refl _, Nat.le_refl _⟩) hP hD hS hA [0] rfl (fun r _ H locs hq hP hS => ?_)
      subst hq
      refine g_beq (tgt := 104) F dX2_goes_97 (by decide) (fun k6 => ?_) (fun k6 => ?_)
      · refine lv_aload_n F.1 F.2.1 dX2_goes_104 rfl (lv_at hl 1 rfl) ?_
        refine lv_iload_n F.1 F.2.1 dX2_goes_105 rfl (lv_at hl 2 rfl) ?_
        refine lv_iload_n F.1 F.2.1 dX2_goes_106 rfl (lv_at hl 3 rfl) ?_
        refine g_goIr (g_runV (As := [.int (nI j), .int ed]) (rest := []) F hX hP hD hS hA (c_X2_pedlarGoes l E h mi fo wi sp P wa qn qk qp qq qc j ed pl (by omega) H.size) (cwV 2 F.2.2.2.2 gX2_goes_X2_pedlarGoes rfl rfl rfl (by decide +kernel) ⟨Nat.le_of_ble_eq_true rfl, Nat.le_of_ble_eq_true rfl⟩) [0, 2] rfl rfl (q0 := 0) (ci := 2) rfl rfl rfl hl.1 rfl (Nat.le_of_ble_eq_true rfl) dX2_goes_107 ⟨Nat.le_refl _, Nat.le_refl _⟩) hP hD hS hA [0, 2] rfl (fun r _ H locs hq hP hS => ?_)
        subst hq
        exact g_reti F hr hlk (vp_nar_int _) hS hP hD (()) (rfl) (by simp [gqC, k1, k2, k3, k4, k5, k6]) dX2_goes_110
      · refine lv_iconst (v := 0) F.1 F.2.1 dX2_goes_100 (by decide) ?_
        refine lv_goto (tgt := 110) F.1 F.2.1 dX2_goes_101 (by decide) ?_
        exact g_reti F hr hlk (vp_nar_int _) hS hP hD (()) (rfl) (by simp [gqC, k1, k2, k3, k4, k5, k6]) dX2_goes_110
    by_cases k7 : (ki j) = 5
    · refine g_top 5 k7 ?_
      refine lv_tableIn (tgt := 111) F.1 F.2.1 dX2_goes_36 (by decide) (by decide) rfl (by decide) ?_
      refine lv_aload_n F.1 F.2.1 dX2_goes_111 rfl (lv_at hl 1 rfl) ?_
      refine lv_iload_n F.1 F.2.1 dX2_goes_112 rfl (lv_at hl 0 rfl) ?_
      refine g_goIr (g_runV (As := [.int (ed - (pl j))]) (rest := []) F hX hP hD hS hA (c_X2_childGoes l E h mi fo wi sp P wa qn qk qp qq qc (ed - (pl j)) H.size) (cwV 1 F.2.2.2.2 gX2_goes_X2_childGoes rfl rfl rfl (by decide +kernel) ⟨Nat.le_of_ble_eq_true rfl, Nat.le_of_ble_eq_true rfl⟩) [0] rfl rfl (q0 := 0) (ci := 2) rfl rfl rfl hl.1 rfl (Nat.le_of_ble_eq_true rfl) dX2_goes_113 ⟨Nat.le_refl _, Nat.le_refl _⟩) hP hD hS hA [0] rfl (fun r _ H locs hq hP hS => ?_)
      subst hq
      refine lv_iload_n F.1 F.2.1 dX2_goes_116 rfl (lv_at hl 0 rfl) ?_
      refine lv_if_ne (tgt := 124) F.1 F.2.1 dX2_goes_117 (by decide) (fun k8 => ?_) (fun k8 => ?_)
      · refine lv_iconst (v := 0) F.1 F.2.1 dX2_goes_124 (by decide) ?_
        refine lv_iadd F.1 F.2.1 dX2_goes_125 ?_
        exact g_reti F hr hlk (vp_nar_int _) hS hP hD (()) (rfl) (by simp [gqC, k1, k2, k3, k4, k5, k7, k8]) dX2_goes_126
      · refine lv_iconst (v := 1) F.1 F.2.1 dX2_goes_120 (by decide) ?_
        refine lv_goto (tgt := 125) F.1 F.2.1 dX2_goes_121 (by decide) ?_
        refine lv_iadd F.1 F.2.1 dX2_goes_125 ?_
        exact g_reti F hr hlk (vp_nar_int _) hS hP hD (()) (rfl) (by simp [gqC, k1, k2, k3, k4, k5, k7, k8]) dX2_goes_126
    refine lv_tableOut (tgt := 127) F.1 F.2.1 dX2_goes_36 (t_out (ki j) 1 5 (fun kk h1 h2 => by rcases (show kk = 1 ∨ kk = 2 ∨ kk = 3 ∨ kk = 4 ∨ kk = 5 by omega) with rfl | rfl | rfl | rfl | rfl <;> assumption)) (by decide) ?_
    refine lv_iconst (v := 0) F.1 F.2.1 dX2_goes_127 (by decide) ?_
    exact g_reti F hr hlk (vp_nar_int _) hS hP hD (()) (rfl) (by simp [gqC, k1, k2, k3, k4, k5, k7]) dX2_goes_128
  · refine lv_aload_n F.1 F.2.1 dX2_goes_5 rfl (lv_at hl 0 rfl) ?_
    refine g_get F hX hP hin2 0 rfl rfl 6 (by decide) (mm 1 rfl) rfl dX2_goes_6 ?_
    refine lv_iload_n F.1 F.2.1 dX2_goes_9 rfl (lv_at hl 1 rfl) ?_
    refine g_iald F hX hP 1 rfl (j := j) (rfl) (by omega) (by decide) dX2_goes_10 ?_
    refine lv_iconst (v := 3) F.1 F.2.1 dX2_goes_11 (by decide) ?_
    refine lv_icmp_ne (tgt := 19) F.1 F.2.1 dX2_goes_12 (by decide) (fun k9 => ?_) (fun k9 => ?_)
    · refine lv_iconst (v := 0) F.1 F.2.1 dX2_goes_19 (by decide) ?_
      exact g_reti F hr hlk (vp_nar_int _) hS hP hD (()) (rfl) (by simp [gqC, k1, k9]) dX2_goes_20
    · refine lv_iconst (v := (-1)) F.1 F.2.1 dX2_goes_15 (by decide) ?_
      refine lv_goto (tgt := 20) F.1 F.2.1 dX2_goes_16 (by decide) ?_
      exact g_reti F hr hlk (vp_nar_int _) hS hP hD (()) (rfl) (by simp [gqC, k1, k9]) dX2_goes_20
set_option maxHeartbeats 4000000 in
set_option maxRecDepth 100000 in
theorem c_X2_talks (l : Launch) (E : gE) (h : Nat) (mi : Int32) (fo : Int32) (wi : Int32) (sp : Int32) (P : Nat) (wa : Int32) (qn : Nat) (qk : Nat) (qp : Nat) (qq : Nat) (qc : Nat) (j : Nat) (ed : Int32) (ki : Nat → Int32) (pl : Nat → Int32) (hj8 : j < 8) : gI l yX2_talks wsX2_talks ({ frames := 2, cells := 0, slots := 0, locals := 40 }) E [(h, .inr (2, [.int mi, .int fo, .int wi, .int sp, .ref qn, .int (nI P), .ref qk, .ref qp, .ref qq, .ref qc, .int wa])), (qk, .inl (eI E, 8, .inl ki)), (qp, .inl (eI E, 8, .inl pl))] (fun _ : Unit => [(h, .inr (2, [.int mi, .int fo, .int wi, .int sp, .ref qn, .int (nI P), .ref qk, .ref qp, .ref qq, .ref qc, .int wa])), (qk, .inl (eI E, 8, .inl ki)), (qp, .inl (eI E, 8, .inl pl))]) [.ref h, .int (nI j), .int ed] (fun (r : Int32) (_ : Unit) => r = taC mi wi (ki j) (pl j) ed) := by
  have hin2 : ∀ w ∈ wsX20, w ∈ wsX2_talks := (fun _ h => (List.mem_cons_of_mem _ (List.mem_append_right _ h)))
  refine gI.of (cc := cX2_talks) (maxL := 4) (by decide) rfl (Nat.le_of_ble_eq_true rfl) ?_
  intro pG eG sG mG below meth cG A ls H locs F hr hlk hX hP hD hA hS hl
  have hl : lv_has ls 4 [(0, .ref h), (1, .int (nI j)), (2, .int ed)] := hl
  refine lv_aload_n F.1 F.2.1 dX2_talks_0 rfl (lv_at hl 0 rfl) ?_
  refine g_get F hX hP hin2 0 rfl rfl 6 (by decide) (mm 1 rfl) rfl dX2_talks_1 ?_
  refine lv_iload_n F.1 F.2.1 dX2_talks_4 rfl (lv_at hl 1 rfl) ?_
  refine g_iald F hX hP 1 rfl (j := j) (rfl) (by omega) (by decide) dX2_talks_5 ?_
  refine lv_iconst (v := 4) F.1 F.2.1 dX2_talks_6 (by decide) ?_
  have jn22 : ∀ (H : Heap) (locs : List Loc) (ls : Array Slot), va_P (eD E) vwCl [(h, .inr (2, [.int mi, .int fo, .int wi, .int sp, .ref qn, .int (nI P), .ref qk, .ref qp, .ref qq, .ref qc, .int wa])), (qk, .inl (eI E, 8, .inl ki)), (qp, .inl (eI E, 8, .inl pl))] H → va_D A [(h, .inr (2, [.int mi, .int fo, .int wi, .int sp, .ref qn, .int (nI P), .ref qk, .ref qp, .ref qq, .ref qc, .int wa])), (qk, .inl (eI E, 8, .inl ki)), (qp, .inl (eI E, 8, .inl pl))] → va_S A sG.heap H locs → lv_has ls 4 [(0, .ref h), (1, .int (nI j)), (2, .int ed)] → W pG l eG { frames := 2, cells := 0, slots := 0, locals := 40 } sG mG [.ref h, .int (nI j), .int ed].toArray below meth cG H locs 0 0 (MQ below (va_Qi (fun (r : Int32) (_ : Unit) => r = taC mi wi (ki j) (pl j) ed) (gR E (fun _ : Unit => [(h, .inr (2, [.int mi, .int fo, .int wi, .int sp, .ref qn, .int (nI P), .ref qk, .ref qp, .ref qq, .ref qc, .int wa])), (qk, .inl (eI E, 8, .inl ki)), (qp, .inl (eI E, 8, .inl pl))]) A) A) [.ref h, .int (nI j), .int ed].toArray sG 0 0 A) (F0 mG 22 ls [.int (bi (rg mi (ki j)))]) := by
    intro H locs ls hP hD hS hl
    refine lv_istore_n (lv' := [(3, .int (bi (rg mi (ki j)))), (0, .ref h), (1, .int (nI j)), (2, .int ed)]) F.1 F.2.1 dX2_talks_22 rfl hl (by decide) rfl (fun ls hl => ?_)
    refine lv_aload_n F.1 F.2.1 dX2_talks_23 rfl (lv_at hl 1 rfl) ?_
    refine lv_iload_n F.1 F.2.1 dX2_talks_24 rfl (lv_at hl 3 rfl) ?_
    refine lv_aload_n F.1 F.2.1 dX2_talks_25 rfl (lv_at hl 1 rfl) ?_
    refine g_get F hX hP hin2 0 rfl rfl 7 (by decide) (mm 2 rfl) rfl dX2_talks_26 ?_
    refine lv_iload_n F.1 F.2.1 dX2_talks_29 rfl (lv_at hl 2 rfl) ?_
    refine g_iald F hX hP 2 rfl (j := j) (rfl) (by omega) (by decide) dX2_talks_30 ?_
    refine g_goIr (g_runV (As := [.int ed, .int (pl j)]) (rest := []) F hX hP hD hS hA (c_X2_takes l E h mi fo wi sp P wa qn qk qp qq qc ed (pl j) H.size) (cwV 2 F.2.2.2.2 gX2_talks_X2_takes rfl rfl rfl (by decide +kernel) ⟨Nat.le_of_ble_eq_true rfl, Nat.le_of_ble_eq_true rfl⟩) [0] rfl rfl (q0 := 0) (ci := 2) rfl rfl rfl hl.1 rfl (Nat.le_of_ble_eq_true rfl) dX2_talks_31 ⟨Nat.le_refl _, Nat.le_refl _⟩) hP hD hS hA [0] rfl (fun r _ H locs hq hP hS => ?_)
    subst hq
    refine g_beq (tgt := 39) F dX2_talks_34 (by decide) (fun k1 => ?_) (fun k1 => ?_)
    · refine lv_aload_n F.1 F.2.1 dX2_talks_39 rfl (lv_at hl 1 rfl) ?_
      refine g_get F hX hP hin2 0 rfl rfl 6 (by decide) (mm 1 rfl) rfl dX2_talks_40 ?_
      refine lv_iload_n F.1 F.2.1 dX2_talks_43 rfl (lv_at hl 2 rfl) ?_
      refine g_iald F hX hP 1 rfl (j := j) (rfl) (by omega) (by decide) dX2_talks_44 ?_
      by_cases k2 : (ki j) = 1
      · refine g_top 1 k2 ?_
        refine lv_tableIn (tgt := 80) F.1 F.2.1 dX2_talks_45 (by decide) (by decide) rfl (by decide) ?_
        refine lv_iconst (v := 5) F.1 F.2.1 dX2_talks_80 (by decide) ?_
        refine lv_iload_n F.1 F.2.1 dX2_talks_81 rfl (lv_at hl 0 rfl) ?_
        refine lv_iadd F.1 F.2.1 dX2_talks_82 ?_
        exact g_reti F hr hlk (vp_nar_int _) hS hP hD (()) (rfl) (by simp [taC, k1, k2]) dX2_talks_83
      by_cases k3 : (ki j) = 2
      · refine g_top 2 k3 ?_
        refine lv_tableIn (tgt := 84) F.1 F.2.1 dX2_talks_45 (by decide) (by decide) rfl (by decide) ?_
        refine lv_iconst (v := 4) F.1 F.2.1 dX2_talks_84 (by decide) ?_
        exact g_reti F hr hlk (vp_nar_int _) hS hP hD (()) (rfl) (by simp [taC, k1, k2, k3]) dX2_talks_85
      by_cases k4 : (ki j) = 3
      · refine g_top 3 k4 ?_
        refine lv_tableIn (tgt := 86) F.1 F.2.1 dX2_talks_45 (by decide) (by decide) rfl (by decide) ?_
        refine lv_iconst (v := 1) F.1 F.2.1 dX2_talks_86 (by decide) ?_
        exact g_reti F hr hlk (vp_nar_int _) hS hP hD (()) (rfl) (by simp [taC, k1, k2, k3, k4]) dX2_talks_87
      by_cases k5 : (ki j) = 4
      · refine g_top 4 k5 ?_
        refine lv_tableIn (tgt := 80) F.1 F.2.1 dX2_talks_45 (by decide) (by decide) rfl (by decide) ?_
        refine lv_iconst (v := 5) F.1 F.2.1 dX2_talks_80 (by decide) ?_
        refine lv_iload_n F.1 F.2.1 dX2_talks_81 rfl (lv_at hl 0 rfl) ?_
        refine lv_iadd F.1 F.2.1 dX2_talks_82 ?_
        exact g_reti F hr hlk (vp_nar_int _) hS hP hD (()) (rfl) (by simp [taC, k1, k2, k3, k4, k5]) dX2_talks_83
      by_cases k6 : (ki j) = 5
      · refine g_top 5 k6 ?_
        refine lv_tableIn (tgt := 88) F.1 F.2.1 dX2_talks_45 (by decide) (by decide) rfl (by decide) ?_
        refine lv_iconst (v := 3) F.1 F.2.1 dX2_talks_88 (by decide) ?_
        exact g_reti F hr hlk (vp_nar_int _) hS hP hD (()) (rfl) (by simp [taC, k1, k2, k3, k4, k5, k6]) dX2_talks_89
      refine lv_tableOut (tgt := 90) F.1 F.2.1 dX2_talks_45 (t_out (ki j) 1 5 (fun kk h1 h2 => by rcases (show kk = 1 ∨ kk = 2 ∨ kk = 3 ∨ kk = 4 ∨ kk = 5 by omega) with rfl | rfl | rfl | rfl | rfl <;> assumption)) (by decide) ?_
      refine lv_iconst (v := 2) F.1 F.2.1 dX2_talks_90 (by decide) ?_
      exact g_reti F hr hlk (vp_nar_int _) hS hP hD (()) (rfl) (by simp [taC, k1, k2, k3, k4, k5, k6]) dX2_talks_91
    · refine lv_iload_n F.1 F.2.1 dX2_talks_37 rfl (lv_at hl 0 rfl) ?_
      exact g_reti F hr hlk (vp_nar_int _) hS hP hD (()) (rfl) (by simp [taC, k1]) dX2_talks_38
  refine lv_icmp_ne (tgt := 21) F.1 F.2.1 dX2_talks_7 (by decide) (fun k7 => ?_) (fun k7 => ?_)
  · refine lv_iconst (v := 0) F.1 F.2.1 dX2_talks_21 (by decide) ?_
    refine g_top (bi (rg mi (ki j))) (by simp [rg, bi, k7]) ?_
    exact jn22 _ _ _ hP hD hS (lv_sub hl [0, 1, 2] rfl)
  · refine lv_aload_n F.1 F.2.1 dX2_talks_10 rfl (lv_at hl 0 rfl) ?_
    refine g_goIr (g_runV (As := []) (rest := []) F hX hP hD hS hA (c_X2_isBell l E h mi fo wi sp P wa qn qk qp qq qc H.size) (cwV 0 F.2.2.2.2 gX2_talks_X2_isBell rfl rfl rfl (by decide +kernel) ⟨Nat.le_of_ble_eq_true rfl, Nat.le_of_ble_eq_true rfl⟩) [0] rfl rfl (q0 := 0) (ci := 2) rfl rfl rfl hl.1 rfl (Nat.le_of_ble_eq_true rfl) dX2_talks_11 ⟨Nat.le_refl _, Nat.le_refl _⟩) hP hD hS hA [0] rfl (fun r _ H locs hq hP hS => ?_)
    subst hq
    refine g_beq (tgt := 21) F dX2_talks_14 (by decide) (fun k8 => ?_) (fun k8 => ?_)
    · refine lv_iconst (v := 0) F.1 F.2.1 dX2_talks_21 (by decide) ?_
      refine g_top (bi (rg mi (ki j))) (by simp [rg, bi, k7, k8]) ?_
      exact jn22 _ _ _ hP hD hS (lv_sub hl [0, 1, 2] rfl)
    · refine lv_iconst (v := 1) F.1 F.2.1 dX2_talks_17 (by decide) ?_
      refine lv_goto (tgt := 22) F.1 F.2.1 dX2_talks_18 (by decide) ?_
      refine g_top (bi (rg mi (ki j))) (by simp [rg, bi, k7, k8]) ?_
      exact jn22 _ _ _ hP hD hS (lv_sub hl [0, 1, 2] rfl)
set_option maxHeartbeats 4000000 in
set_option maxRecDepth 100000 in
theorem c_X2_stepsOver (l : Launch) (E : gE) (h : Nat) (mi : Int32) (fo : Int32) (wi : Int32) (sp : Int32) (P : Nat) (wa : Int32) (qn : Nat) (qk : Nat) (qp : Nat) (qq : Nat) (qc : Nat) (j : Nat) (ki : Nat → Int32) (ca : Nat → Int32) (hj8 : j < 8) : gI l yX2_stepsOver wsX2_stepsOver ({ frames := 0, cells := 0, slots := 0, locals := 0 }) E [(h, .inr (2, [.int mi, .int fo, .int wi, .int sp, .ref qn, .int (nI P), .ref qk, .ref qp, .ref qq, .ref qc, .int wa])), (qk, .inl (eI E, 8, .inl ki)), (qc, .inl (eI E, 8, .inl ca))] (fun _ : Unit => [(h, .inr (2, [.int mi, .int fo, .int wi, .int sp, .ref qn, .int (nI P), .ref qk, .ref qp, .ref qq, .ref qc, .int wa])), (qk, .inl (eI E, 8, .inl ki)), (qc, .inl (eI E, 8, .inl ca))]) [.ref h, .int (nI j)] (fun (r : Int32) (_ : Unit) => r = bi (soC (ki j) (ca j))) := by
  have hin2 : ∀ w ∈ wsX20, w ∈ wsX2_stepsOver := (fun _ h => (List.mem_cons_of_mem _ (List.mem_append_right _ h)))
  refine gI.of (cc := cX2_stepsOver) (maxL := 2) (by decide) rfl (Nat.le_of_ble_eq_true rfl) ?_
  intro pG eG sG mG below meth cG A ls H locs F hr hlk hX hP hD hA hS hl
  have hl : lv_has ls 2 [(0, .ref h), (1, .int (nI j))] := hl
  refine lv_aload_n F.1 F.2.1 dX2_stepsOver_0 rfl (lv_at hl 0 rfl) ?_
  refine g_get F hX hP hin2 0 rfl rfl 6 (by decide) (mm 1 rfl) rfl dX2_stepsOver_1 ?_
  refine lv_iload_n F.1 F.2.1 dX2_stepsOver_4 rfl (lv_at hl 1 rfl) ?_
  refine g_iald F hX hP 1 rfl (j := j) (rfl) (by omega) (by decide) dX2_stepsOver_5 ?_
  by_cases k1 : (ki j) = 1
  · refine g_top 1 k1 ?_
    refine lv_tableIn (tgt := 40) F.1 F.2.1 dX2_stepsOver_6 (by decide) (by decide) rfl (by decide) ?_
    refine lv_iconst (v := 0) F.1 F.2.1 dX2_stepsOver_40 (by decide) ?_
    exact g_reti F hr hlk rfl hS hP hD (()) (rfl) (by simp [soC, bi, k1]) dX2_stepsOver_41
  by_cases k2 : (ki j) = 2
  · refine g_top 2 k2 ?_
    refine lv_tableIn (tgt := 60) F.1 F.2.1 dX2_stepsOver_6 (by decide) (by decide) rfl (by decide) ?_
    refine lv_aload_n F.1 F.2.1 dX2_stepsOver_60 rfl (lv_at hl 0 rfl) ?_
    refine g_get F hX hP hin2 0 rfl rfl 9 (by decide) (mm 2 rfl) rfl dX2_stepsOver_61 ?_
    refine lv_iload_n F.1 F.2.1 dX2_stepsOver_64 rfl (lv_at hl 1 rfl) ?_
    refine g_iald F hX hP 2 rfl (j := j) (rfl) (by omega) (by decide) dX2_stepsOver_65 ?_
    refine lv_iconst (v := 3) F.1 F.2.1 dX2_stepsOver_66 (by decide) ?_
    refine lv_icmp_lt (tgt := 74) F.1 F.2.1 dX2_stepsOver_67 (by decide) (fun k3 => ?_) (fun k3 => ?_)
    · refine lv_iconst (v := 0) F.1 F.2.1 dX2_stepsOver_74 (by decide) ?_
      exact g_reti F hr hlk rfl hS hP hD (()) (rfl) (by simp [soC, bi, k1, k2, k3]) dX2_stepsOver_75
    · refine lv_iconst (v := 1) F.1 F.2.1 dX2_stepsOver_70 (by decide) ?_
      refine lv_goto (tgt := 75) F.1 F.2.1 dX2_stepsOver_71 (by decide) ?_
      exact g_reti F hr hlk rfl hS hP hD (()) (rfl) (by simp [soC, bi, k1, k2, k3]) dX2_stepsOver_75
  by_cases k4 : (ki j) = 3
  · refine g_top 3 k4 ?_
    refine lv_tableIn (tgt := 42) F.1 F.2.1 dX2_stepsOver_6 (by decide) (by decide) rfl (by decide) ?_
    refine lv_iconst (v := 1) F.1 F.2.1 dX2_stepsOver_42 (by decide) ?_
    exact g_reti F hr hlk rfl hS hP hD (()) (rfl) (by simp [soC, bi, k1, k2, k4]) dX2_stepsOver_43
  by_cases k5 : (ki j) = 4
  · refine g_top 4 k5 ?_
    refine lv_tableIn (tgt := 40) F.1 F.2.1 dX2_stepsOver_6 (by decide) (by decide) rfl (by decide) ?_
    refine lv_iconst (v := 0) F.1 F.2.1 dX2_stepsOver_40 (by decide) ?_
    exact g_reti F hr hlk rfl hS hP hD (()) (rfl) (by simp [soC, bi, k1, k2, k4, k5]) dX2_stepsOver_41
  by_cases k6 : (ki j) = 5
  · refine g_top 5 k6 ?_
    refine lv_tableIn (tgt := 44) F.1 F.2.1 dX2_stepsOver_6 (by decide) (by decide) rfl (by decide) ?_
    refine lv_aload_n F.1 F.2.1 dX2_stepsOver_44 rfl (lv_at hl 0 rfl) ?_
    refine g_get F hX hP hin2 0 rfl rfl 9 (by decide) (mm 2 rfl) rfl dX2_stepsOver_45 ?_
    refine lv_iload_n F.1 F.2.1 dX2_stepsOver_48 rfl (lv_at hl 1 rfl) ?_
    refine g_iald F hX hP 2 rfl (j := j) (rfl) (by omega) (by decide) dX2_stepsOver_49 ?_
    refine lv_iconst (v := 1) F.1 F.2.1 dX2_stepsOver_50 (by decide) ?_
    refine lv_icmp_lt (tgt := 58) F.1 F.2.1 dX2_stepsOver_51 (by decide) (fun k7 => ?_) (fun k7 => ?_)
    · refine lv_iconst (v := 0) F.1 F.2.1 dX2_stepsOver_58 (by decide) ?_
      exact g_reti F hr hlk rfl hS hP hD (()) (rfl) (by simp [soC, bi, k1, k2, k4, k5, k6, k7]) dX2_stepsOver_59
    · refine lv_iconst (v := 1) F.1 F.2.1 dX2_stepsOver_54 (by decide) ?_
      refine lv_goto (tgt := 59) F.1 F.2.1 dX2_stepsOver_55 (by decide) ?_
      exact g_reti F hr hlk rfl hS hP hD (()) (rfl) (by simp [soC, bi, k1, k2, k4, k5, k6, k7]) dX2_stepsOver_59
  refine lv_tableOut (tgt := 60) F.1 F.2.1 dX2_stepsOver_6 (t_out (ki j) 1 5 (fun kk h1 h2 => by rcases (show kk = 1 ∨ kk = 2 ∨ kk = 3 ∨ kk = 4 ∨ kk = 5 by omega) with rfl | rfl | rfl | rfl | rfl <;> assumption)) (by decide) ?_
  refine lv_aload_n F.1 F.2.1 dX2_stepsOver_60 rfl (lv_at hl 0 rfl) ?_
  refine g_get F hX hP hin2 0 rfl rfl 9 (by decide) (mm 2 rfl) rfl dX2_stepsOver_61 ?_
  refine lv_iload_n F.1 F.2.1 dX2_stepsOver_64 rfl (lv_at hl 1 rfl) ?_
  refine g_iald F hX hP 2 rfl (j := j) (rfl) (by omega) (by decide) dX2_stepsOver_65 ?_
  refine lv_iconst (v := 3) F.1 F.2.1 dX2_stepsOver_66 (by decide) ?_
  refine lv_icmp_lt (tgt := 74) F.1 F.2.1 dX2_stepsOver_67 (by decide) (fun k8 => ?_) (fun k8 => ?_)
  · refine lv_iconst (v := 0) F.1 F.2.1 dX2_stepsOver_74 (by decide) ?_
    exact g_reti F hr hlk rfl hS hP hD (()) (rfl) (by simp [soC, bi, k1, k2, k4, k5, k6, k8]) dX2_stepsOver_75
  · refine lv_iconst (v := 1) F.1 F.2.1 dX2_stepsOver_70 (by decide) ?_
    refine lv_goto (tgt := 75) F.1 F.2.1 dX2_stepsOver_71 (by decide) ?_
    exact g_reti F hr hlk rfl hS hP hD (()) (rfl) (by simp [soC, bi, k1, k2, k4, k5, k6, k8]) dX2_stepsOver_75
set_option maxHeartbeats 4000000 in
set_option maxRecDepth 100000 in
theorem c_X2_whoIsIn (l : Launch) (E : gE) (h : Nat) (mi : Int32) (fo : Int32) (wi : Int32) (sp : Int32) (P : Nat) (wa : Int32) (qn : Nat) (qk : Nat) (qp : Nat) (qq : Nat) (qc : Nat) (pl : Nat → Int32) (hP8 : P ≤ 8) : gI l yX2_whoIsIn wsX2_whoIsIn ({ frames := 2, cells := 0, slots := 0, locals := 43 }) E [(h, .inr (2, [.int mi, .int fo, .int wi, .int sp, .ref qn, .int (nI P), .ref qk, .ref qp, .ref qq, .ref qc, .int wa])), (qp, .inl (eI E, 8, .inl pl))] (fun _ : Unit => [(h, .inr (2, [.int mi, .int fo, .int wi, .int sp, .ref qn, .int (nI P), .ref qk, .ref qp, .ref qq, .ref qc, .int wa])), (qp, .inl (eI E, 8, .inl pl))]) [.ref h] (fun (r : Int32) (_ : Unit) => r = whoC (fun j => tk (edC mi fo wi sp) wi (pl j)) P) := by
  have hin2 : ∀ w ∈ wsX20, w ∈ wsX2_whoIsIn := (fun _ h => (List.mem_cons_of_mem _ (List.mem_append_right _ h)))
  refine gI.of (cc := cX2_whoIsIn) (maxL := 4) (by decide) rfl (Nat.le_of_ble_eq_true rfl) ?_
  intro pG eG sG mG below meth cG A ls H locs F hr hlk hX hP hD hA hS hl
  have hl : lv_has ls 4 [(0, .ref h)] := hl
  refine lv_aload_n F.1 F.2.1 dX2_whoIsIn_0 rfl (lv_at hl 0 rfl) ?_
  refine g_goIr (g_runV (As := []) (rest := []) F hX hP hD hS hA (c_X2_edge l E h mi fo wi sp P wa qn qk qp qq qc H.size) (cwV 0 F.2.2.2.2 gX2_whoIsIn_X2_edge rfl rfl rfl (by decide +kernel) ⟨Nat.le_of_ble_eq_true rfl, Nat.le_of_ble_eq_true rfl⟩) [0] rfl rfl (q0 := 0) (ci := 2) rfl rfl rfl hl.1 rfl (Nat.le_of_ble_eq_true rfl) dX2_whoIsIn_1 ⟨Nat.le_refl _, Nat.le_refl _⟩) hP hD hS hA [0] rfl (fun r _ H locs hq hP hS => ?_)
  subst hq
  refine lv_istore_n (lv' := [(1, .int (edC mi fo wi sp)), (0, .ref h)]) F.1 F.2.1 dX2_whoIsIn_4 rfl hl (by decide) rfl (fun ls hl => ?_)
  refine lv_iconst (v := 0) F.1 F.2.1 dX2_whoIsIn_5 (by decide) ?_
  refine lv_istore_n (lv' := [(2, .int 0), (1, .int (edC mi fo wi sp)), (0, .ref h)]) F.1 F.2.1 dX2_whoIsIn_6 rfl hl (by decide) rfl (fun ls hl => ?_)
  refine lv_iconst (v := 0) F.1 F.2.1 dX2_whoIsIn_7 (by decide) ?_
  refine lv_istore_n (lv' := [(3, .int 0), (2, .int 0), (1, .int (edC mi fo wi sp)), (0, .ref h)]) F.1 F.2.1 dX2_whoIsIn_8 rfl hl (by decide) rfl (fun ls hl => ?_)
  have lp9 : ∀ (fu i : Nat), i ≤ P → P + 1 ≤ i + fu → ∀ (H : Heap) (locs : List Loc) (ls : Array Slot), va_P (eD E) vwCl [(h, .inr (2, [.int mi, .int fo, .int wi, .int sp, .ref qn, .int (nI P), .ref qk, .ref qp, .ref qq, .ref qc, .int wa])), (qp, .inl (eI E, 8, .inl pl))] H → va_D A [(h, .inr (2, [.int mi, .int fo, .int wi, .int sp, .ref qn, .int (nI P), .ref qk, .ref qp, .ref qq, .ref qc, .int wa])), (qp, .inl (eI E, 8, .inl pl))] → va_S A sG.heap H locs → lv_has ls 4 [(3, .int (nI i)), (2, .int (whoC (fun j => tk (edC mi fo wi sp) wi (pl j)) i)), (1, .int (edC mi fo wi sp)), (0, .ref h)] → W pG l eG { frames := 2, cells := 0, slots := 0, locals := 43 } sG mG [.ref h].toArray below meth cG H locs 0 0 (MQ below (va_Qi (fun (r : Int32) (_ : Unit) => r = whoC (fun j => tk (edC mi fo wi sp) wi (pl j)) P) (gR E (fun _ : Unit => [(h, .inr (2, [.int mi, .int fo, .int wi, .int sp, .ref qn, .int (nI P), .ref qk, .ref qp, .ref qq, .ref qc, .int wa])), (qp, .inl (eI E, 8, .inl pl))]) A) A) [.ref h].toArray sG 0 0 A) (F0 mG 9 ls []) := by
    intro fu
    induction fu with
    | zero => intro i h1 h2; exact absurd h2 (by omega)
    | succ fu ih =>
      intro i hi hin   H locs ls hP hD hS hl
      refine lv_iload_n F.1 F.2.1 dX2_whoIsIn_9 rfl (lv_at hl 0 rfl) ?_
      refine lv_aload_n F.1 F.2.1 dX2_whoIsIn_10 rfl (lv_at hl 3 rfl) ?_
      refine g_get F hX hP hin2 0 rfl rfl 5 (by decide) (mm 1 rfl) rfl dX2_whoIsIn_11 ?_
      refine lv_icmp_ge (tgt := 47) F.1 F.2.1 dX2_whoIsIn_14 (by decide) (fun k1 => ?_) (fun k1 => ?_)
      · have hiN : P = i := Nat.le_antisymm ((nI_leI (by omega) (by omega)).mp k1) hi
        subst hiN
        refine lv_iload_n F.1 F.2.1 dX2_whoIsIn_47 rfl (lv_at hl 1 rfl) ?_
        exact g_reti F hr hlk (vp_nar_int _) hS hP hD (()) (rfl) (rfl) dX2_whoIsIn_48
      · have hiN : i < P := Nat.lt_of_not_le (fun h => k1 (nI_le h (by omega)))
        refine lv_iload_n F.1 F.2.1 dX2_whoIsIn_17 rfl (lv_at hl 1 rfl) ?_
        refine lv_aload_n F.1 F.2.1 dX2_whoIsIn_18 rfl (lv_at hl 3 rfl) ?_
        refine lv_iload_n F.1 F.2.1 dX2_whoIsIn_19 rfl (lv_at hl 2 rfl) ?_
        refine lv_aload_n F.1 F.2.1 dX2_whoIsIn_20 rfl (lv_at hl 3 rfl) ?_
        refine g_get F hX hP hin2 0 rfl rfl 7 (by decide) (mm 2 rfl) rfl dX2_whoIsIn_21 ?_
        refine lv_iload_n F.1 F.2.1 dX2_whoIsIn_24 rfl (lv_at hl 0 rfl) ?_
        refine g_iald F hX hP 1 rfl (j := i) (rfl) (by omega) (by decide) dX2_whoIsIn_25 ?_
        refine g_goIr (g_runV (As := [.int (edC mi fo wi sp), .int (pl i)]) (rest := [.int (whoC (fun j => tk (edC mi fo wi sp) wi (pl j)) i)]) F hX hP hD hS hA (c_X2_takes l E h mi fo wi sp P wa qn qk qp qq qc (edC mi fo wi sp) (pl i) H.size) (cwV 2 F.2.2.2.2 gX2_whoIsIn_X2_takes rfl rfl rfl (by decide +kernel) ⟨Nat.le_of_ble_eq_true rfl, Nat.le_of_ble_eq_true rfl⟩) [0] rfl rfl (q0 := 0) (ci := 2) rfl rfl rfl hl.1 rfl (Nat.le_of_ble_eq_true rfl) dX2_whoIsIn_26 ⟨Nat.le_refl _, Nat.le_refl _⟩) hP hD hS hA [0] rfl (fun r _ H locs hq hP hS => ?_)
        subst hq
        have jn39 : ∀ (H : Heap) (locs : List Loc) (ls : Array Slot), va_P (eD E) vwCl [(h, .inr (2, [.int mi, .int fo, .int wi, .int sp, .ref qn, .int (nI P), .ref qk, .ref qp, .ref qq, .ref qc, .int wa])), (qp, .inl (eI E, 8, .inl pl))] H → va_D A [(h, .inr (2, [.int mi, .int fo, .int wi, .int sp, .ref qn, .int (nI P), .ref qk, .ref qp, .ref qq, .ref qc, .int wa])), (qp, .inl (eI E, 8, .inl pl))] → va_S A sG.heap H locs → lv_has ls 4 [(3, .int (nI i)), (2, .int (whoC (fun j => tk (edC mi fo wi sp) wi (pl j)) i)), (1, .int (edC mi fo wi sp)), (0, .ref h)] → W pG l eG { frames := 2, cells := 0, slots := 0, locals := 43 } sG mG [.ref h].toArray below meth cG H locs 0 0 (MQ below (va_Qi (fun (r : Int32) (_ : Unit) => r = whoC (fun j => tk (edC mi fo wi sp) wi (pl j)) P) (gR E (fun _ : Unit => [(h, .inr (2, [.int mi, .int fo, .int wi, .int sp, .ref qn, .int (nI P), .ref qk, .ref qp, .ref qq, .ref qc, .int wa])), (qp, .inl (eI E, 8, .inl pl))]) A) A) [.ref h].toArray sG 0 0 A) (F0 mG 39 ls [.int (bif tk (edC mi fo wi sp) wi (pl i) then 1 <<< (nI i &&& 31) else 0), .int (whoC (fun j => tk (edC mi fo wi sp) wi (pl j)) i)]) := by
          intro H locs ls hP hD hS hl
          refine lv_ior F.1 F.2.1 dX2_whoIsIn_39 ?_
          refine lv_istore_n (lv' := [(2, .int ((whoC (fun j => tk (edC mi fo wi sp) wi (pl j)) i) ||| (bif tk (edC mi fo wi sp) wi (pl i) then 1 <<< (nI i &&& 31) else 0))), (3, .int (nI i)), (1, .int (edC mi fo wi sp)), (0, .ref h)]) F.1 F.2.1 dX2_whoIsIn_40 rfl hl (by decide) rfl (fun ls hl => ?_)
          refine lv_iinc (v := nI (i + 1)) (lv' := [(3, .int (nI (i + 1))), (2, .int ((whoC (fun j => tk (edC mi fo wi sp) wi (pl j)) i) ||| (bif tk (edC mi fo wi sp) wi (pl i) then 1 <<< (nI i &&& 31) else 0))), (1, .int (edC mi fo wi sp)), (0, .ref h)]) F.1 F.2.1 dX2_whoIsIn_41 hl (k := 1) rfl (nI_1 _) (by decide) rfl (fun ls hl => ?_)
          refine lv_goto (tgt := 9) F.1 F.2.1 dX2_whoIsIn_44 (by decide) ?_
          exact ih (i + 1) (by omega) (by omega)  _ _ _ hP hD hS (lv_sub hl [0, 1, 2, 3] rfl)
        refine g_beq (tgt := 38) F dX2_whoIsIn_29 (by decide) (fun k2 => ?_) (fun k2 => ?_)
        · refine lv_iconst (v := 0) F.1 F.2.1 dX2_whoIsIn_38 (by decide) ?_
          refine g_top (bif tk (edC mi fo wi sp) wi (pl i) then 1 <<< (nI i &&& 31) else 0) (by simp only [k2, cond_true, cond_false]) ?_
          exact jn39 _ _ _ hP hD hS (lv_sub hl [0, 1, 2, 3] rfl)
        · refine lv_iconst (v := 1) F.1 F.2.1 dX2_whoIsIn_32 (by decide) ?_
          refine lv_iload_n F.1 F.2.1 dX2_whoIsIn_33 rfl (lv_at hl 0 rfl) ?_
          refine lv_ishl F.1 F.2.1 dX2_whoIsIn_34 ?_
          refine lv_goto (tgt := 39) F.1 F.2.1 dX2_whoIsIn_35 (by decide) ?_
          refine g_top (bif tk (edC mi fo wi sp) wi (pl i) then 1 <<< (nI i &&& 31) else 0) (by simp only [k2, cond_true, cond_false]) ?_
          exact jn39 _ _ _ hP hD hS (lv_sub hl [0, 1, 2, 3] rfl)
  exact lp9 (P + 1) 0 (by omega) (by omega)  _ _ _ hP hD hS (lv_sub hl [0, 1, 2, 3] rfl)
set_option maxHeartbeats 4000000 in
set_option maxRecDepth 100000 in
theorem c_X2_whoIsAt (l : Launch) (E : gE) (h : Nat) (mi : Int32) (fo : Int32) (wi : Int32) (sp : Int32) (P : Nat) (wa : Int32) (qn : Nat) (qk : Nat) (qp : Nat) (qq : Nat) (qc : Nat) (g : Int32) (pl : Nat → Int32) (hP8 : P ≤ 8) : gI l yX2_whoIsAt wsX2_whoIsAt ({ frames := 0, cells := 0, slots := 0, locals := 0 }) E [(h, .inr (2, [.int mi, .int fo, .int wi, .int sp, .ref qn, .int (nI P), .ref qk, .ref qp, .ref qq, .ref qc, .int wa])), (qp, .inl (eI E, 8, .inl pl))] (fun _ : Unit => [(h, .inr (2, [.int mi, .int fo, .int wi, .int sp, .ref qn, .int (nI P), .ref qk, .ref qp, .ref qq, .ref qc, .int wa])), (qp, .inl (eI E, 8, .inl pl))]) [.ref h, .int g] (fun (r : Int32) (_ : Unit) => r = whoC (fun j => decide (pl j = g)) P) := by
  have hin2 : ∀ w ∈ wsX20, w ∈ wsX2_whoIsAt := (fun _ h => (List.mem_cons_of_mem _ (List.mem_append_right _ h)))
  refine gI.of (cc := cX2_whoIsAt) (maxL := 4) (by decide) rfl (Nat.le_of_ble_eq_true rfl) ?_
  intro pG eG sG mG below meth cG A ls H locs F hr hlk hX hP hD hA hS hl
  have hl : lv_has ls 4 [(0, .ref h), (1, .int g)] := hl
  refine lv_iconst (v := 0) F.1 F.2.1 dX2_whoIsAt_0 (by decide) ?_
  refine lv_istore_n (lv' := [(2, .int 0), (0, .ref h), (1, .int g)]) F.1 F.2.1 dX2_whoIsAt_1 rfl hl (by decide) rfl (fun ls hl => ?_)
  refine lv_iconst (v := 0) F.1 F.2.1 dX2_whoIsAt_2 (by decide) ?_
  refine lv_istore_n (lv' := [(3, .int 0), (2, .int 0), (0, .ref h), (1, .int g)]) F.1 F.2.1 dX2_whoIsAt_3 rfl hl (by decide) rfl (fun ls hl => ?_)
  have lp4 : ∀ (fu i : Nat), i ≤ P → P + 1 ≤ i + fu → ∀ (H : Heap) (locs : List Loc) (ls : Array Slot), va_P (eD E) vwCl [(h, .inr (2, [.int mi, .int fo, .int wi, .int sp, .ref qn, .int (nI P), .ref qk, .ref qp, .ref qq, .ref qc, .int wa])), (qp, .inl (eI E, 8, .inl pl))] H → va_D A [(h, .inr (2, [.int mi, .int fo, .int wi, .int sp, .ref qn, .int (nI P), .ref qk, .ref qp, .ref qq, .ref qc, .int wa])), (qp, .inl (eI E, 8, .inl pl))] → va_S A sG.heap H locs → lv_has ls 4 [(3, .int (nI i)), (2, .int (whoC (fun j => decide (pl j = g)) i)), (0, .ref h), (1, .int g)] → W pG l eG { frames := 0, cells := 0, slots := 0, locals := 0 } sG mG [.ref h, .int g].toArray below meth cG H locs 0 0 (MQ below (va_Qi (fun (r : Int32) (_ : Unit) => r = whoC (fun j => decide (pl j = g)) P) (gR E (fun _ : Unit => [(h, .inr (2, [.int mi, .int fo, .int wi, .int sp, .ref qn, .int (nI P), .ref qk, .ref qp, .ref qq, .ref qc, .int wa])), (qp, .inl (eI E, 8, .inl pl))]) A) A) [.ref h, .int g].toArray sG 0 0 A) (F0 mG 4 ls []) := by
    intro fu
    induction fu with
    | zero => intro i h1 h2; exact absurd h2 (by omega)
    | succ fu ih =>
      intro i hi hin   H locs ls hP hD hS hl
      refine lv_iload_n F.1 F.2.1 dX2_whoIsAt_4 rfl (lv_at hl 0 rfl) ?_
      refine lv_aload_n F.1 F.2.1 dX2_whoIsAt_5 rfl (lv_at hl 2 rfl) ?_
      refine g_get F hX hP hin2 0 rfl rfl 5 (by decide) (mm 1 rfl) rfl dX2_whoIsAt_6 ?_
      refine lv_icmp_ge (tgt := 38) F.1 F.2.1 dX2_whoIsAt_9 (by decide) (fun k1 => ?_) (fun k1 => ?_)
      · have hiN : P = i := Nat.le_antisymm ((nI_leI (by omega) (by omega)).mp k1) hi
        subst hiN
        refine lv_iload_n F.1 F.2.1 dX2_whoIsAt_38 rfl (lv_at hl 1 rfl) ?_
        exact g_reti F hr hlk (vp_nar_int _) hS hP hD (()) (rfl) (rfl) dX2_whoIsAt_39
      · have hiN : i < P := Nat.lt_of_not_le (fun h => k1 (nI_le h (by omega)))
        refine lv_iload_n F.1 F.2.1 dX2_whoIsAt_12 rfl (lv_at hl 1 rfl) ?_
        refine lv_aload_n F.1 F.2.1 dX2_whoIsAt_13 rfl (lv_at hl 2 rfl) ?_
        refine g_get F hX hP hin2 0 rfl rfl 7 (by decide) (mm 2 rfl) rfl dX2_whoIsAt_14 ?_
        refine lv_iload_n F.1 F.2.1 dX2_whoIsAt_17 rfl (lv_at hl 0 rfl) ?_
        refine g_iald F hX hP 1 rfl (j := i) (rfl) (by omega) (by decide) dX2_whoIsAt_18 ?_
        refine lv_iload_n F.1 F.2.1 dX2_whoIsAt_19 rfl (lv_at hl 3 rfl) ?_
        have jn30 : ∀ (H : Heap) (locs : List Loc) (ls : Array Slot), va_P (eD E) vwCl [(h, .inr (2, [.int mi, .int fo, .int wi, .int sp, .ref qn, .int (nI P), .ref qk, .ref qp, .ref qq, .ref qc, .int wa])), (qp, .inl (eI E, 8, .inl pl))] H → va_D A [(h, .inr (2, [.int mi, .int fo, .int wi, .int sp, .ref qn, .int (nI P), .ref qk, .ref qp, .ref qq, .ref qc, .int wa])), (qp, .inl (eI E, 8, .inl pl))] → va_S A sG.heap H locs → lv_has ls 4 [(3, .int (nI i)), (2, .int (whoC (fun j => decide (pl j = g)) i)), (0, .ref h), (1, .int g)] → W pG l eG { frames := 0, cells := 0, slots := 0, locals := 0 } sG mG [.ref h, .int g].toArray below meth cG H locs 0 0 (MQ below (va_Qi (fun (r : Int32) (_ : Unit) => r = whoC (fun j => decide (pl j = g)) P) (gR E (fun _ : Unit => [(h, .inr (2, [.int mi, .int fo, .int wi, .int sp, .ref qn, .int (nI P), .ref qk, .ref qp, .ref qq, .ref qc, .int wa])), (qp, .inl (eI E, 8, .inl pl))]) A) A) [.ref h, .int g].toArray sG 0 0 A) (F0 mG 30 ls [.int (bif decide (pl i = g) then 1 <<< (nI i &&& 31) else 0), .int (whoC (fun j => decide (pl j = g)) i)]) := by
          intro H locs ls hP hD hS hl
          refine lv_ior F.1 F.2.1 dX2_whoIsAt_30 ?_
          refine lv_istore_n (lv' := [(2, .int ((whoC (fun j => decide (pl j = g)) i) ||| (bif decide (pl i = g) then 1 <<< (nI i &&& 31) else 0))), (3, .int (nI i)), (0, .ref h), (1, .int g)]) F.1 F.2.1 dX2_whoIsAt_31 rfl hl (by decide) rfl (fun ls hl => ?_)
          refine lv_iinc (v := nI (i + 1)) (lv' := [(3, .int (nI (i + 1))), (2, .int ((whoC (fun j => decide (pl j = g)) i) ||| (bif decide (pl i = g) then 1 <<< (nI i &&& 31) else 0))), (0, .ref h), (1, .int g)]) F.1 F.2.1 dX2_whoIsAt_32 hl (k := 1) rfl (nI_1 _) (by decide) rfl (fun ls hl => ?_)
          refine lv_goto (tgt := 4) F.1 F.2.1 dX2_whoIsAt_35 (by decide) ?_
          exact ih (i + 1) (by omega) (by omega)  _ _ _ hP hD hS (lv_sub hl [0, 1, 2, 3] rfl)
        refine lv_icmp_ne (tgt := 29) F.1 F.2.1 dX2_whoIsAt_20 (by decide) (fun k2 => ?_) (fun k2 => ?_)
        · refine lv_iconst (v := 0) F.1 F.2.1 dX2_whoIsAt_29 (by decide) ?_
          refine g_top (bif decide (pl i = g) then 1 <<< (nI i &&& 31) else 0) (by simp [k2]) ?_
          exact jn30 _ _ _ hP hD hS (lv_sub hl [0, 1, 2, 3] rfl)
        · refine lv_iconst (v := 1) F.1 F.2.1 dX2_whoIsAt_23 (by decide) ?_
          refine lv_iload_n F.1 F.2.1 dX2_whoIsAt_24 rfl (lv_at hl 0 rfl) ?_
          refine lv_ishl F.1 F.2.1 dX2_whoIsAt_25 ?_
          refine lv_goto (tgt := 30) F.1 F.2.1 dX2_whoIsAt_26 (by decide) ?_
          refine g_top (bif decide (pl i = g) then 1 <<< (nI i &&& 31) else 0) (by simp [k2]) ?_
          exact jn30 _ _ _ hP hD hS (lv_sub hl [0, 1, 2, 3] rfl)
  exact lp4 (P + 1) 0 (by omega) (by omega)  _ _ _ hP hD hS (lv_sub hl [0, 1, 2, 3] rfl)
set_option maxHeartbeats 4000000 in
set_option maxRecDepth 100000 in
theorem c_X2_loudness (l : Launch) (E : gE) (h : Nat) (mi : Int32) (fo : Int32) (wi : Int32) (sp : Int32) (P : Nat) (wa : Int32) (qn : Nat) (qk : Nat) (qp : Nat) (qq : Nat) (qc : Nat) (no : Nat → Int32) (ki : Nat → Int32) (pl : Nat → Int32) (hP8 : P ≤ 8) : gI l yX2_loudness wsX2_loudness ({ frames := 3, cells := 0, slots := 0, locals := 63 }) E [(h, .inr (2, [.int mi, .int fo, .int wi, .int sp, .ref qn, .int (nI P), .ref qk, .ref qp, .ref qq, .ref qc, .int wa])), (qn, .inl (eI E, 30, .inl no)), (qk, .inl (eI E, 8, .inl ki)), (qp, .inl (eI E, 8, .inl pl))] (fun _ : Unit => [(h, .inr (2, [.int mi, .int fo, .int wi, .int sp, .ref qn, .int (nI P), .ref qk, .ref qp, .ref qq, .ref qc, .int wa])), (qn, .inl (eI E, 30, .inl no)), (qk, .inl (eI E, 8, .inl ki)), (qp, .inl (eI E, 8, .inl pl))]) [.ref h] (fun (r : Int32) (_ : Unit) => r = sumF (sumF 0 (fun g => bif tk (edC mi fo wi sp) wi (nI g) then 0 else no g) 30) (fun j => taC mi wi (ki j) (pl j) (edC mi fo wi sp)) P) := by
  have hin2 : ∀ w ∈ wsX20, w ∈ wsX2_loudness := (fun _ h => (List.mem_cons_of_mem _ (List.mem_append_right _ h)))
  refine gI.of (cc := cX2_loudness) (maxL := 4) (by decide) rfl (Nat.le_of_ble_eq_true rfl) ?_
  intro pG eG sG mG below meth cG A ls H locs F hr hlk hX hP hD hA hS hl
  have hl : lv_has ls 4 [(0, .ref h)] := hl
  refine lv_aload_n F.1 F.2.1 dX2_loudness_0 rfl (lv_at hl 0 rfl) ?_
  refine g_goIr (g_runV (As := []) (rest := []) F hX hP hD hS hA (c_X2_edge l E h mi fo wi sp P wa qn qk qp qq qc H.size) (cwV 0 F.2.2.2.2 gX2_loudness_X2_edge rfl rfl rfl (by decide +kernel) ⟨Nat.le_of_ble_eq_true rfl, Nat.le_of_ble_eq_true rfl⟩) [0] rfl rfl (q0 := 0) (ci := 2) rfl rfl rfl hl.1 rfl (Nat.le_of_ble_eq_true rfl) dX2_loudness_1 ⟨Nat.le_refl _, Nat.le_refl _⟩) hP hD hS hA [0] rfl (fun r _ H locs hq hP hS => ?_)
  subst hq
  refine lv_istore_n (lv' := [(1, .int (edC mi fo wi sp)), (0, .ref h)]) F.1 F.2.1 dX2_loudness_4 rfl hl (by decide) rfl (fun ls hl => ?_)
  refine lv_iconst (v := 0) F.1 F.2.1 dX2_loudness_5 (by decide) ?_
  refine lv_istore_n (lv' := [(2, .int 0), (1, .int (edC mi fo wi sp)), (0, .ref h)]) F.1 F.2.1 dX2_loudness_6 rfl hl (by decide) rfl (fun ls hl => ?_)
  refine lv_iconst (v := 0) F.1 F.2.1 dX2_loudness_7 (by decide) ?_
  refine lv_istore_n (lv' := [(3, .int 0), (2, .int 0), (1, .int (edC mi fo wi sp)), (0, .ref h)]) F.1 F.2.1 dX2_loudness_8 rfl hl (by decide) rfl (fun ls hl => ?_)
  have lp9 : ∀ (fu i : Nat), i ≤ 30 → 30 + 1 ≤ i + fu → ∀ (H : Heap) (locs : List Loc) (ls : Array Slot), va_P (eD E) vwCl [(h, .inr (2, [.int mi, .int fo, .int wi, .int sp, .ref qn, .int (nI P), .ref qk, .ref qp, .ref qq, .ref qc, .int wa])), (qn, .inl (eI E, 30, .inl no)), (qk, .inl (eI E, 8, .inl ki)), (qp, .inl (eI E, 8, .inl pl))] H → va_D A [(h, .inr (2, [.int mi, .int fo, .int wi, .int sp, .ref qn, .int (nI P), .ref qk, .ref qp, .ref qq, .ref qc, .int wa])), (qn, .inl (eI E, 30, .inl no)), (qk, .inl (eI E, 8, .inl ki)), (qp, .inl (eI E, 8, .inl pl))] → va_S A sG.heap H locs → lv_has ls 4 [(3, .int (nI i)), (2, .int (sumF 0 (fun g => bif tk (edC mi fo wi sp) wi (nI g) then 0 else no g) i)), (1, .int (edC mi fo wi sp)), (0, .ref h)] → W pG l eG { frames := 3, cells := 0, slots := 0, locals := 63 } sG mG [.ref h].toArray below meth cG H locs 0 0 (MQ below (va_Qi (fun (r : Int32) (_ : Unit) => r = sumF (sumF 0 (fun g => bif tk (edC mi fo wi sp) wi (nI g) then 0 else no g) 30) (fun j => taC mi wi (ki j) (pl j) (edC mi fo wi sp)) P) (gR E (fun _ : Unit => [(h, .inr (2, [.int mi, .int fo, .int wi, .int sp, .ref qn, .int (nI P), .ref qk, .ref qp, .ref qq, .ref qc, .int wa])), (qn, .inl (eI E, 30, .inl no)), (qk, .inl (eI E, 8, .inl ki)), (qp, .inl (eI E, 8, .inl pl))]) A) A) [.ref h].toArray sG 0 0 A) (F0 mG 9 ls []) := by
    intro fu
    induction fu with
    | zero => intro i h1 h2; exact absurd h2 (by omega)
    | succ fu ih =>
      intro i hi hin   H locs ls hP hD hS hl
      refine lv_iload_n F.1 F.2.1 dX2_loudness_9 rfl (lv_at hl 0 rfl) ?_
      refine lv_bipush (v := 30) F.1 F.2.1 dX2_loudness_10 (by decide) ?_
      refine lv_icmp_ge (tgt := 43) F.1 F.2.1 dX2_loudness_12 (by decide) (fun k1 => ?_) (fun k1 => ?_)
      · have hiN : 30 = i := Nat.le_antisymm ((nI_leI (by omega) (by omega)).mp k1) hi
        subst hiN
        refine lv_iconst (v := 0) F.1 F.2.1 dX2_loudness_43 (by decide) ?_
        refine lv_istore_n (lv' := [(3, .int 0), (2, .int (sumF 0 (fun g => bif tk (edC mi fo wi sp) wi (nI g) then 0 else no g) 30)), (1, .int (edC mi fo wi sp)), (0, .ref h)]) F.1 F.2.1 dX2_loudness_44 rfl hl (by decide) rfl (fun ls hl => ?_)
        have lp45 : ∀ (fu i : Nat), i ≤ P → P + 1 ≤ i + fu → ∀ (H : Heap) (locs : List Loc) (ls : Array Slot), va_P (eD E) vwCl [(h, .inr (2, [.int mi, .int fo, .int wi, .int sp, .ref qn, .int (nI P), .ref qk, .ref qp, .ref qq, .ref qc, .int wa])), (qn, .inl (eI E, 30, .inl no)), (qk, .inl (eI E, 8, .inl ki)), (qp, .inl (eI E, 8, .inl pl))] H → va_D A [(h, .inr (2, [.int mi, .int fo, .int wi, .int sp, .ref qn, .int (nI P), .ref qk, .ref qp, .ref qq, .ref qc, .int wa])), (qn, .inl (eI E, 30, .inl no)), (qk, .inl (eI E, 8, .inl ki)), (qp, .inl (eI E, 8, .inl pl))] → va_S A sG.heap H locs → lv_has ls 4 [(3, .int (nI i)), (2, .int (sumF (sumF 0 (fun g => bif tk (edC mi fo wi sp) wi (nI g) then 0 else no g) 30) (fun j => taC mi wi (ki j) (pl j) (edC mi fo wi sp)) i)), (1, .int (edC mi fo wi sp)), (0, .ref h)] → W pG l eG { frames := 3, cells := 0, slots := 0, locals := 63 } sG mG [.ref h].toArray below meth cG H locs 0 0 (MQ below (va_Qi (fun (r : Int32) (_ : Unit) => r = sumF (sumF 0 (fun g => bif tk (edC mi fo wi sp) wi (nI g) then 0 else no g) 30) (fun j => taC mi wi (ki j) (pl j) (edC mi fo wi sp)) P) (gR E (fun _ : Unit => [(h, .inr (2, [.int mi, .int fo, .int wi, .int sp, .ref qn, .int (nI P), .ref qk, .ref qp, .ref qq, .ref qc, .int wa])), (qn, .inl (eI E, 30, .inl no)), (qk, .inl (eI E, 8, .inl ki)), (qp, .inl (eI E, 8, .inl pl))]) A) A) [.ref h].toArray sG 0 0 A) (F0 mG 45 ls []) := by
          intro fu
          induction fu with
          | zero => intro i h1 h2; exact absurd h2 (by omega)
          | succ fu ih =>
            intro i hi hin   H locs ls hP hD hS hl
            refine lv_iload_n F.1 F.2.1 dX2_loudness_45 rfl (lv_at hl 0 rfl) ?_
            refine lv_aload_n F.1 F.2.1 dX2_loudness_46 rfl (lv_at hl 3 rfl) ?_
            refine g_get F hX hP hin2 0 rfl rfl 5 (by decide) (mm 2 rfl) rfl dX2_loudness_47 ?_
            refine lv_icmp_ge (tgt := 68) F.1 F.2.1 dX2_loudness_50 (by decide) (fun k2 => ?_) (fun k2 => ?_)
            · have hiN : P = i := Nat.le_antisymm ((nI_leI (by omega) (by omega)).mp k2) hi
              subst hiN
              refine lv_iload_n F.1 F.2.1 dX2_loudness_68 rfl (lv_at hl 1 rfl) ?_
              exact g_reti F hr hlk (vp_nar_int _) hS hP hD (()) (rfl) (rfl) dX2_loudness_69
            · have hiN : i < P := Nat.lt_of_not_le (fun h => k2 (nI_le h (by omega)))
              refine lv_iload_n F.1 F.2.1 dX2_loudness_53 rfl (lv_at hl 1 rfl) ?_
              refine lv_aload_n F.1 F.2.1 dX2_loudness_54 rfl (lv_at hl 3 rfl) ?_
              refine lv_iload_n F.1 F.2.1 dX2_loudness_55 rfl (lv_at hl 0 rfl) ?_
              refine lv_iload_n F.1 F.2.1 dX2_loudness_56 rfl (lv_at hl 2 rfl) ?_
              refine g_goIr (g_runV (As := [.int (nI i), .int (edC mi fo wi sp)]) (rest := [.int (sumF (sumF 0 (fun g => bif tk (edC mi fo wi sp) wi (nI g) then 0 else no g) 30) (fun j => taC mi wi (ki j) (pl j) (edC mi fo wi sp)) i)]) F hX hP hD hS hA (c_X2_talks l E h mi fo wi sp P wa qn qk qp qq qc i (edC mi fo wi sp) ki pl (by omega) H.size) (cwV 2 F.2.2.2.2 gX2_loudness_X2_talks rfl rfl rfl (by decide +kernel) ⟨Nat.le_of_ble_eq_true rfl, Nat.le_of_ble_eq_true rfl⟩) [0, 2, 3] rfl rfl (q0 := 0) (ci := 2) rfl rfl rfl hl.1 rfl (Nat.le_of_ble_eq_true rfl) dX2_loudness_57 ⟨Nat.le_refl _, Nat.le_refl _⟩) hP hD hS hA [0, 2, 3] rfl (fun r _ H locs hq hP hS => ?_)
              subst hq
              refine lv_iadd F.1 F.2.1 dX2_loudness_60 ?_
              refine lv_istore_n (lv' := [(2, .int ((sumF (sumF 0 (fun g => bif tk (edC mi fo wi sp) wi (nI g) then 0 else no g) 30) (fun j => taC mi wi (ki j) (pl j) (edC mi fo wi sp)) i) + (taC mi wi (ki i) (pl i) (edC mi fo wi sp)))), (3, .int (nI i)), (1, .int (edC mi fo wi sp)), (0, .ref h)]) F.1 F.2.1 dX2_loudness_61 rfl hl (by decide) rfl (fun ls hl => ?_)
              refine lv_iinc (v := nI (i + 1)) (lv' := [(3, .int (nI (i + 1))), (2, .int ((sumF (sumF 0 (fun g => bif tk (edC mi fo wi sp) wi (nI g) then 0 else no g) 30) (fun j => taC mi wi (ki j) (pl j) (edC mi fo wi sp)) i) + (taC mi wi (ki i) (pl i) (edC mi fo wi sp)))), (1, .int (edC mi fo wi sp)), (0, .ref h)]) F.1 F.2.1 dX2_loudness_62 hl (k := 1) rfl (nI_1 _) (by decide) rfl (fun ls hl => ?_)
              refine lv_goto (tgt := 45) F.1 F.2.1 dX2_loudness_65 (by decide) ?_
              exact ih (i + 1) (by omega) (by omega)  _ _ _ hP hD hS (lv_sub hl [0, 1, 2, 3] rfl)
        exact lp45 (P + 1) 0 (by omega) (by omega)  _ _ _ hP hD hS (lv_sub hl [0, 1, 2, 3] rfl)
      · have hiN : i < 30 := Nat.lt_of_not_le (fun h => k1 (nI_le h (by omega)))
        refine lv_iload_n F.1 F.2.1 dX2_loudness_15 rfl (lv_at hl 1 rfl) ?_
        refine lv_aload_n F.1 F.2.1 dX2_loudness_16 rfl (lv_at hl 3 rfl) ?_
        refine lv_iload_n F.1 F.2.1 dX2_loudness_17 rfl (lv_at hl 2 rfl) ?_
        refine lv_iload_n F.1 F.2.1 dX2_loudness_18 rfl (lv_at hl 0 rfl) ?_
        refine g_goIr (g_runV (As := [.int (edC mi fo wi sp), .int (nI i)]) (rest := [.int (sumF 0 (fun g => bif tk (edC mi fo wi sp) wi (nI g) then 0 else no g) i)]) F hX hP hD hS hA (c_X2_takes l E h mi fo wi sp P wa qn qk qp qq qc (edC mi fo wi sp) (nI i) H.size) (cwV 2 F.2.2.2.2 gX2_loudness_X2_takes rfl rfl rfl (by decide +kernel) ⟨Nat.le_of_ble_eq_true rfl, Nat.le_of_ble_eq_true rfl⟩) [0] rfl rfl (q0 := 0) (ci := 2) rfl rfl rfl hl.1 rfl (Nat.le_of_ble_eq_true rfl) dX2_loudness_19 ⟨Nat.le_refl _, Nat.le_refl _⟩) hP hD hS hA [0] rfl (fun r _ H locs hq hP hS => ?_)
        subst hq
        have jn35 : ∀ (H : Heap) (locs : List Loc) (ls : Array Slot), va_P (eD E) vwCl [(h, .inr (2, [.int mi, .int fo, .int wi, .int sp, .ref qn, .int (nI P), .ref qk, .ref qp, .ref qq, .ref qc, .int wa])), (qn, .inl (eI E, 30, .inl no)), (qk, .inl (eI E, 8, .inl ki)), (qp, .inl (eI E, 8, .inl pl))] H → va_D A [(h, .inr (2, [.int mi, .int fo, .int wi, .int sp, .ref qn, .int (nI P), .ref qk, .ref qp, .ref qq, .ref qc, .int wa])), (qn, .inl (eI E, 30, .inl no)), (qk, .inl (eI E, 8, .inl ki)), (qp, .inl (eI E, 8, .inl pl))] → va_S A sG.heap H locs → lv_has ls 4 [(3, .int (nI i)), (2, .int (sumF 0 (fun g => bif tk (edC mi fo wi sp) wi (nI g) then 0 else no g) i)), (1, .int (edC mi fo wi sp)), (0, .ref h)] → W pG l eG { frames := 3, cells := 0, slots := 0, locals := 63 } sG mG [.ref h].toArray below meth cG H locs 0 0 (MQ below (va_Qi (fun (r : Int32) (_ : Unit) => r = sumF (sumF 0 (fun g => bif tk (edC mi fo wi sp) wi (nI g) then 0 else no g) 30) (fun j => taC mi wi (ki j) (pl j) (edC mi fo wi sp)) P) (gR E (fun _ : Unit => [(h, .inr (2, [.int mi, .int fo, .int wi, .int sp, .ref qn, .int (nI P), .ref qk, .ref qp, .ref qq, .ref qc, .int wa])), (qn, .inl (eI E, 30, .inl no)), (qk, .inl (eI E, 8, .inl ki)), (qp, .inl (eI E, 8, .inl pl))]) A) A) [.ref h].toArray sG 0 0 A) (F0 mG 35 ls [.int (bif tk (edC mi fo wi sp) wi (nI i) then 0 else no i), .int (sumF 0 (fun g => bif tk (edC mi fo wi sp) wi (nI g) then 0 else no g) i)]) := by
          intro H locs ls hP hD hS hl
          refine lv_iadd F.1 F.2.1 dX2_loudness_35 ?_
          refine lv_istore_n (lv' := [(2, .int ((sumF 0 (fun g => bif tk (edC mi fo wi sp) wi (nI g) then 0 else no g) i) + (bif tk (edC mi fo wi sp) wi (nI i) then 0 else no i))), (3, .int (nI i)), (1, .int (edC mi fo wi sp)), (0, .ref h)]) F.1 F.2.1 dX2_loudness_36 rfl hl (by decide) rfl (fun ls hl => ?_)
          refine lv_iinc (v := nI (i + 1)) (lv' := [(3, .int (nI (i + 1))), (2, .int ((sumF 0 (fun g => bif tk (edC mi fo wi sp) wi (nI g) then 0 else no g) i) + (bif tk (edC mi fo wi sp) wi (nI i) then 0 else no i))), (1, .int (edC mi fo wi sp)), (0, .ref h)]) F.1 F.2.1 dX2_loudness_37 hl (k := 1) rfl (nI_1 _) (by decide) rfl (fun ls hl => ?_)
          refine lv_goto (tgt := 9) F.1 F.2.1 dX2_loudness_40 (by decide) ?_
          exact ih (i + 1) (by omega) (by omega)  _ _ _ hP hD hS (lv_sub hl [0, 1, 2, 3] rfl)
        refine g_beq (tgt := 29) F dX2_loudness_22 (by decide) (fun k3 => ?_) (fun k3 => ?_)
        · refine lv_aload_n F.1 F.2.1 dX2_loudness_29 rfl (lv_at hl 3 rfl) ?_
          refine g_get F hX hP hin2 0 rfl rfl 4 (by decide) (mm 1 rfl) rfl dX2_loudness_30 ?_
          refine lv_iload_n F.1 F.2.1 dX2_loudness_33 rfl (lv_at hl 0 rfl) ?_
          refine g_iald F hX hP 1 rfl (j := i) (rfl) (by omega) (by decide) dX2_loudness_34 ?_
          refine g_top (bif tk (edC mi fo wi sp) wi (nI i) then 0 else no i) (by simp only [k3, cond_true, cond_false]) ?_
          exact jn35 _ _ _ hP hD hS (lv_sub hl [0, 1, 2, 3] rfl)
        · refine lv_iconst (v := 0) F.1 F.2.1 dX2_loudness_25 (by decide) ?_
          refine lv_goto (tgt := 35) F.1 F.2.1 dX2_loudness_26 (by decide) ?_
          refine g_top (bif tk (edC mi fo wi sp) wi (nI i) then 0 else no i) (by simp only [k3, cond_true, cond_false]) ?_
          exact jn35 _ _ _ hP hD hS (lv_sub hl [0, 1, 2, 3] rfl)
  exact lp9 (30 + 1) 0 (by omega) (by omega)  _ _ _ hP hD hS (lv_sub hl [0, 1, 2, 3] rfl)
set_option maxHeartbeats 4000000 in
set_option maxRecDepth 100000 in
theorem c_X3_sum (l : Launch) (E : gE) (a : Nat) (n : Nat) (z : Nat) (f : Nat → Int32) (hnz : n ≤ z ∧ z < 2 ^ 31) : gI l yX3_sum wsX3_sum ({ frames := 0, cells := 0, slots := 0, locals := 0 }) E [(a, .inl (eI E, z, .inl f))] (fun _ : Unit => [(a, .inl (eI E, z, .inl f))]) [.ref a, .int (nI n)] (fun (r : Int32) (_ : Unit) => r = sumF 0 f n) := by
  refine gI.of (cc := cX3_sum) (maxL := 4) (by decide) rfl (Nat.le_of_ble_eq_true rfl) ?_
  intro pG eG sG mG below meth cG A ls H locs F hr hlk hX hP hD hA hS hl
  have hl : lv_has ls 4 [(0, .ref a), (1, .int (nI n))] := hl
  refine lv_iconst (v := 0) F.1 F.2.1 dX3_sum_0 (by decide) ?_
  refine lv_istore_n (lv' := [(2, .int 0), (0, .ref a), (1, .int (nI n))]) F.1 F.2.1 dX3_sum_1 rfl hl (by decide) rfl (fun ls hl => ?_)
  refine lv_iconst (v := 0) F.1 F.2.1 dX3_sum_2 (by decide) ?_
  refine lv_istore_n (lv' := [(3, .int 0), (2, .int 0), (0, .ref a), (1, .int (nI n))]) F.1 F.2.1 dX3_sum_3 rfl hl (by decide) rfl (fun ls hl => ?_)
  have lp4 : ∀ (fu i : Nat), i ≤ n → n + 1 ≤ i + fu → ∀ (H : Heap) (locs : List Loc) (ls : Array Slot), va_P (eD E) vwCl [(a, .inl (eI E, z, .inl f))] H → va_D A [(a, .inl (eI E, z, .inl f))] → va_S A sG.heap H locs → lv_has ls 4 [(3, .int (nI i)), (2, .int (sumF 0 f i)), (0, .ref a), (1, .int (nI n))] → W pG l eG { frames := 0, cells := 0, slots := 0, locals := 0 } sG mG [.ref a, .int (nI n)].toArray below meth cG H locs 0 0 (MQ below (va_Qi (fun (r : Int32) (_ : Unit) => r = sumF 0 f n) (gR E (fun _ : Unit => [(a, .inl (eI E, z, .inl f))]) A) A) [.ref a, .int (nI n)].toArray sG 0 0 A) (F0 mG 4 ls []) := by
    intro fu
    induction fu with
    | zero => intro i h1 h2; exact absurd h2 (by omega)
    | succ fu ih =>
      intro i hi hin   H locs ls hP hD hS hl
      refine lv_iload_n F.1 F.2.1 dX3_sum_4 rfl (lv_at hl 0 rfl) ?_
      refine lv_iload_n F.1 F.2.1 dX3_sum_5 rfl (lv_at hl 3 rfl) ?_
      refine lv_icmp_ge (tgt := 21) F.1 F.2.1 dX3_sum_6 (by decide) (fun k1 => ?_) (fun k1 => ?_)
      · have hiN : n = i := Nat.le_antisymm ((nI_leI (by omega) (by omega)).mp k1) hi
        subst hiN
        refine lv_iload_n F.1 F.2.1 dX3_sum_21 rfl (lv_at hl 1 rfl) ?_
        exact g_reti F hr hlk (vp_nar_int _) hS hP hD (()) (rfl) (rfl) dX3_sum_22
      · have hiN : i < n := Nat.lt_of_not_le (fun h => k1 (nI_le h (by omega)))
        refine lv_iload_n F.1 F.2.1 dX3_sum_9 rfl (lv_at hl 1 rfl) ?_
        refine lv_aload_n F.1 F.2.1 dX3_sum_10 rfl (lv_at hl 2 rfl) ?_
        refine lv_iload_n F.1 F.2.1 dX3_sum_11 rfl (lv_at hl 0 rfl) ?_
        refine g_iald F hX hP 0 rfl (j := i) (rfl) (by omega) (by omega) dX3_sum_12 ?_
        refine lv_iadd F.1 F.2.1 dX3_sum_13 ?_
        refine lv_istore_n (lv' := [(2, .int ((sumF 0 f i) + (f i))), (3, .int (nI i)), (0, .ref a), (1, .int (nI n))]) F.1 F.2.1 dX3_sum_14 rfl hl (by decide) rfl (fun ls hl => ?_)
        refine lv_iinc (v := nI (i + 1)) (lv' := [(3, .int (nI (i + 1))), (2, .int ((sumF 0 f i) + (f i))), (0, .ref a), (1, .int (nI n))]) F.1 F.2.1 dX3_sum_15 hl (k := 1) rfl (nI_1 _) (by decide) rfl (fun ls hl => ?_)
        refine lv_goto (tgt := 4) F.1 F.2.1 dX3_sum_18 (by decide) ?_
        exact ih (i + 1) (by omega) (by omega)  _ _ _ hP hD hS (lv_sub hl [0, 1, 2, 3] rfl)
  exact lp4 (n + 1) 0 (by omega) (by omega)  _ _ _ hP hD hS (lv_sub hl [0, 1, 2, 3] rfl)
