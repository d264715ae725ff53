/-! words of the JDK, the class's tape -/
def gA (l : Launch) (y : MethodName) (wy : List Cond) (rm : Room) (E : gE) (ws : va_W) (av : List Value) (post : Nat → Prop) : Prop :=
  ∀ sz : Nat, Met l y wy rm (va_Pc av (gP E ws sz)) (va_Qr (S := Unit) (fun _ => True) (fun _ a t => post a ∧ va_P (eD E) vwCl ws t.heap ∧ va_D (va_A ws sz) ws) (va_A ws sz)) 0 0 (va_A ws sz)
theorem gA.of {l : Launch} {y : MethodName} {wy w0 : List Cond} {rm : Room} {E : gE} {ws : va_W} {av : List Value} {post : Nat → Prop} {cc : ByteArray} {maxL : Nat} {rt : FieldType} (hy : plainName y.cls = true) (hw : wy = Cond.code y cc maxL (some rt) :: w0) (hlen : (lg_sl av).length ≤ maxL)
    (body : ∀ (p : Program) (e : Env) (s : State) (m : MethodId) (below : List Frame) (meth : Method) (c : Code) (A : Nat → Prop) (ls : Array Slot) (H : Heap) (locs : List Loc), CallFix p m c cc maxL s av.toArray wy y.cls → meth.sig.returnType = some rt → meth.locks = false → gX E A s s.heap → va_P (eD E) vwCl ws H → va_D A ws → (∀ q, s.heap.size ≤ q → A q) → va_S A s.heap H locs → lv_has ls maxL (lv_args 0 av) →
      W p l e rm s m av.toArray below meth c H locs 0 0 (MQ below (va_Qr (S := Unit) (fun _ => True) (fun _ a t => post a ∧ va_P (eD E) vwCl ws t.heap ∧ va_D A ws) A) av.toArray s 0 0 A) (F0 m 0 ls [])) : gA l y wy rm E ws av post := by
  intro sz
  refine Met.ofW (cc := cc) (maxL := maxL) (ret := some rt) hy hw ?_
  intro p e s m args below meth c s₁ B hml hv
  obtain ⟨rfl, hsz, hP, hX, hD0⟩ := hv
  subst hsz
  have hown : s.vm.findClass y.cls = some m.cls := findClass_of_methodNamed B.named
  have hl := lv_entry av (n := maxL) hlen
  rw [lg_entry_eq]
  exact body p e s m below meth c _ _ s.heap [] ⟨B.exec, B.bytes, hml, hown, atoms_spec (ws := wy) B.pre⟩ B.returns B.notSynchronized hX hP hD0.self (fun q h => Or.inr h) va_S.rf hl
section GW3
variable {p : Program} {l : Launch} {e : Env} {R : Room} {s : State} {m : MethodId} {args : Array Value} {below : List Frame} {meth : Method} {c : Code} {H : Heap} {locs : List Loc} {cells slots : Nat} {Q : State → Prop}
variable {cc : ByteArray} {pc nL : Nat} {ls : Array Slot} {rest st : List Value} {E : gE} {A : Nat → Prop} {ws wc wr : va_W} {Ts : List Cond} {own : String}
variable {y : MethodName} {wy : List Cond} {rm : Room} {bytes : ByteArray} {maxL n index mc ms : Nat} {ret : Option FieldType} {As : List Value}
theorem g_runVK (F : CallFix p m c cc nL s args Ts own) (hX : gX E A s s.heap) (hP : va_P (eD E) vwCl ws H) (hD : va_D A ws) (hS : va_S A s.heap H locs) (hA : ∀ q, s.heap.size ≤ q → A q) {Qc : Array Value → State → Outcome → State → Prop} {free : Addr → Prop} {k : Nat}
    (hM : Met l y wy rm (va_Pc (.ref (eK E k) :: As) (gP E wc H.size)) Qc mc ms free) (cw : CallW R s args own RJ0 index y bytes maxL ret wy rm mc ms n) (isC : List Nat) (hC : isC.map (fun i => ws[i]?) = wc.map some) (hnd : va_nd isC = true) (hk : k < 11) (hn : As.length = n) (hsz : ls.size = nL) (hstack : st = As.reverse ++ .ref (eK E k) :: rest) (hroom : (rest.map fun v => v.category).sum ≤ 8) (hdg : decode cc pc = .ok (.invokevirtual index, 3)) (hf : cells + mc ≤ R.cells ∧ slots + ms ≤ R.slots) :
    va_Run p l e R s m args below meth c H locs cells slots mc ms (F0 m pc ls st) rest (Qc (Value.ref (eK E k) :: As).toArray) free :=
  va_runV F hM cw ⟨gP.blind, vk_recv hX.2.2.2.1 hk hS, fun U hU hW => ⟨rfl, g_give hX hP hD hS hA isC hC hnd U hU hW⟩⟩ rfl hn hsz hstack (lv_room hroom) hdg hf
theorem g_goRr {post : Nat → Prop} {a : Array Value} (hr : va_Run p l e R s m args below meth c H locs cells slots 0 0 (F0 m pc ls st) rest (va_Qr (S := Unit) (fun _ => True) (fun _ r t => post r ∧ va_P (eD E) vwCl wc t.heap ∧ va_D (va_A wc H.size) wc) (va_A wc H.size) a) (va_A wc H.size)) (hP : va_P (eD E) vwCl ws H) (hD : va_D A ws) (hS : va_S A s.heap H locs) (hA : ∀ q, s.heap.size ≤ q → A q) (isC : List Nat) (hC : isC.map (fun i => ws[i]?) = wc.map some)
    (kk : ∀ (r : Nat) (H1 : Heap) (locs1 : List Loc), post r → va_P (eD E) vwCl ws H1 → va_S A s.heap H1 locs1 → W p l e R s m args below meth c H1 locs1 cells slots Q (F0 m (pc + 3) ls (.ref r :: rest))) : W p l e R s m args below meth c H locs cells slots Q (F0 m pc ls st) := by
  have hFc := va_free hD hS hA isC hC
  refine va_callr hr hS (fun q _ h => hFc q h) hFc (fun u r t H1 locs1 ht hvm hw hB hz1 hk1 hS1 => ?_)
  exact kk r H1 locs1 hB.1 (g_same (S := Unit) (u := ()) hP hD isC hC ht hk1 hB.2) hS1
theorem g_goVr {S : Type} {post : S → Prop} {a : Array Value} (hr : va_Run p l e R s m args below meth c H locs cells slots 0 0 (F0 m pc ls st) rest (va_Qv post (gR E (fun _ : S => wc) (va_A wc H.size)) (va_A wc H.size) a) (va_A wc H.size)) (hP : va_P (eD E) vwCl ws H) (hD : va_D A ws) (hS : va_S A s.heap H locs) (hA : ∀ q, s.heap.size ≤ q → A q) (isC : List Nat) (hC : isC.map (fun i => ws[i]?) = wc.map some)
    (kk : ∀ (H1 : Heap) (locs1 : List Loc), va_P (eD E) vwCl ws H1 → va_S A s.heap H1 locs1 → W p l e R s m args below meth c H1 locs1 cells slots Q (F0 m (pc + 3) ls rest)) : W p l e R s m args below meth c H locs cells slots Q (F0 m pc ls st) := by
  have hFc := va_free hD hS hA isC hC
  refine va_callv hr hS (fun q _ h => hFc q h) hFc (fun u t H1 locs1 ht hvm hw hB hz1 hk1 hS1 => ?_)
  exact kk H1 locs1 (g_same hP hD isC hC ht hk1 hB) hS1
theorem g_retr {post : Nat → Prop} {w ws : va_W} {a : Nat} {nm : String} (F : CallFix p m c cc nL s args Ts own) (hr : meth.sig.returnType = some (.object nm)) (hlk : meth.locks = false) (hS : va_S A s.heap H locs) (hP : va_P (eD E) vwCl w H) (hD : va_D A w) (u : Unit) (hw : w = ws) (hq : post a) (hdg : decode cc pc = .ok (.areturn, 1)) :
    W p l e R s m args below meth c H locs 0 0 (MQ below (va_Qr (S := Unit) (fun _ => True) (fun _ a t => post a ∧ va_P (eD E) vwCl ws t.heap ∧ va_D A ws) A) args s 0 0 A) (F0 m pc ls [.ref a]) := by
  subst hw
  exact W.aret F.1 F.2.1 hr (Or.inl ⟨nm, rfl⟩) (Or.inr ⟨a, rfl⟩) (fun t ht hW => ⟨⟨(), a, rfl, trivial, hq, by rw [ht]; exact hP, hD⟩, hS.F ht⟩) hS.2.2 hdg hlk
end GW3
set_option maxHeartbeats 4000000 in
set_option maxRecDepth 100000 in
theorem c_J0_coder_7d493 (l : Launch) (E : gE) (k : Nat) (hk : k < 11) : gI l yJ0_coder_7d493 wsJ0_coder_7d493 ({ frames := 0, cells := 0, slots := 0, locals := 0 }) E [] (fun _ : Unit => []) [.ref (eK E k)] (fun (r : Int32) (_ : Unit) => r = 0) := by
  refine gI.of (cc := cJ0_coder_7d493) (maxL := 1) (by decide) rfl (Nat.le_of_ble_eq_true rfl) ?_
  intro pG eG sG mG below meth cG A ls H locs F hr hlk hX hP hD hA hS hl
  have hl : lv_has ls 1 [(0, .ref (eK E k))] := hl
  refine va_gets F.1 F.2.1 hX.2.2.2.2.2.2.1 hS F.2.2.2.1 (F.2.2.2.2 _ (mm 1 rfl)) (fun _ h => h) dJ0_coder_7d493_0 ?_
  refine lv_if_eq (tgt := 13) F.1 F.2.1 dJ0_coder_7d493_3 (by decide) (fun k1 => ?_) (fun k1 => ?_)
  · exact absurd k1 (by decide)
  · refine lv_aload_n F.1 F.2.1 dJ0_coder_7d493_6 rfl (lv_at hl 0 rfl) ?_
    refine vk_getf F.1 F.2.1 (hX.2.2.2.1.1 k hk).2.1 hS F.2.2.2.1 (F.2.2.2.2 _ (mm 2 rfl)) (fun _ h => h) dJ0_coder_7d493_7 ?_
    refine lv_goto (tgt := 14) F.1 F.2.1 dJ0_coder_7d493_10 (by decide) ?_
    exact g_reti F hr hlk rfl hS hP hD (()) (rfl) (rfl) dJ0_coder_7d493_14
set_option maxHeartbeats 4000000 in
set_option maxRecDepth 100000 in
theorem c_J0_length_8abf5 (l : Launch) (E : gE) (k : Nat) (hk : k < 11) : gI l yJ0_length_8abf5 wsJ0_length_8abf5 ({ frames := 1, cells := 0, slots := 0, locals := 20 }) E [] (fun _ : Unit => []) [.ref (eK E k)] (fun (r : Int32) (_ : Unit) => r = nI (sLen.getD k 0)) := by
  refine gI.of (cc := cJ0_length_8abf5) (maxL := 1) (by decide) rfl (Nat.le_of_ble_eq_true rfl) ?_
  intro pG eG sG mG below meth cG A ls H locs F hr hlk hX hP hD hA hS hl
  have hl : lv_has ls 1 [(0, .ref (eK E k))] := hl
  refine lv_aload_n F.1 F.2.1 dJ0_length_8abf5_0 rfl (lv_at hl 0 rfl) ?_
  refine vk_getf F.1 F.2.1 (hX.2.2.2.1.1 k hk).2.2.1 hS F.2.2.2.1 (F.2.2.2.2 _ (mm 1 rfl)) (fun _ h => h) dJ0_length_8abf5_1 ?_
  refine va_tlen F.1 F.2.1 (hX.2.2.2.1.1 k hk).2.2.2 hS (v := nI (sLen.getD k 0)) rfl dJ0_length_8abf5_4 ?_
  refine lv_aload_n F.1 F.2.1 dJ0_length_8abf5_5 rfl (lv_at hl 0 rfl) ?_
  refine g_goIr (g_runVK (As := []) (rest := [.int (nI (sLen.getD k 0))]) F hX hP hD hS hA (c_J0_coder_7d493 l E k (by first | assumption | decide) H.size) (cwV 0 F.2.2.2.2 gJ0_length_8abf5_J0_coder_7d493 rfl rfl rfl (by decide +kernel) ⟨Nat.le_of_ble_eq_true rfl, Nat.le_of_ble_eq_true rfl⟩) [] rfl rfl hk rfl hl.1 rfl (Nat.le_of_ble_eq_true rfl) dJ0_length_8abf5_6 ⟨Nat.le_refl _, Nat.le_refl _⟩) hP hD hS hA [] rfl (fun r _ H locs hq hP hS => ?_)
  subst hq
  refine lv_ishr F.1 F.2.1 dJ0_length_8abf5_9 ?_
  refine g_top (nI (sLen.getD k 0)) (sc_shr0 (Nat.lt_of_le_of_lt (sLen_6 k hk) (by decide))) ?_
  exact g_reti F hr hlk (vp_nar_int _) hS hP hD (()) (rfl) (rfl) dJ0_length_8abf5_10
set_option maxHeartbeats 4000000 in
set_option maxRecDepth 100000 in
theorem c_J0_isLatin1_aae02 (l : Launch) (E : gE) (k : Nat) (hk : k < 11) : gI l yJ0_isLatin1_aae02 wsJ0_isLatin1_aae02 ({ frames := 0, cells := 0, slots := 0, locals := 0 }) E [] (fun _ : Unit => []) [.ref (eK E k)] (fun (r : Int32) (_ : Unit) => r = 1) := by
  refine gI.of (cc := cJ0_isLatin1_aae02) (maxL := 1) (by decide) rfl (Nat.le_of_ble_eq_true rfl) ?_
  intro pG eG sG mG below meth cG A ls H locs F hr hlk hX hP hD hA hS hl
  have hl : lv_has ls 1 [(0, .ref (eK E k))] := hl
  refine va_gets F.1 F.2.1 hX.2.2.2.2.2.2.1 hS F.2.2.2.1 (F.2.2.2.2 _ (mm 1 rfl)) (fun _ h => h) dJ0_isLatin1_aae02_0 ?_
  refine lv_if_eq (tgt := 17) F.1 F.2.1 dJ0_isLatin1_aae02_3 (by decide) (fun k1 => ?_) (fun k1 => ?_)
  · exact absurd k1 (by decide)
  · refine lv_aload_n F.1 F.2.1 dJ0_isLatin1_aae02_6 rfl (lv_at hl 0 rfl) ?_
    refine vk_getf F.1 F.2.1 (hX.2.2.2.1.1 k hk).2.1 hS F.2.2.2.1 (F.2.2.2.2 _ (mm 2 rfl)) (fun _ h => h) dJ0_isLatin1_aae02_7 ?_
    refine lv_if_ne (tgt := 17) F.1 F.2.1 dJ0_isLatin1_aae02_10 (by decide) (fun k2 => ?_) (fun k2 => ?_)
    · exact absurd rfl k2
    · refine lv_iconst (v := 1) F.1 F.2.1 dJ0_isLatin1_aae02_13 (by decide) ?_
      refine lv_goto (tgt := 18) F.1 F.2.1 dJ0_isLatin1_aae02_14 (by decide) ?_
      exact g_reti F hr hlk rfl hS hP hD (()) (rfl) (rfl) dJ0_isLatin1_aae02_18
set_option maxHeartbeats 4000000 in
set_option maxRecDepth 100000 in
theorem c_J3_n (l : Launch) (E : gE) (j : Nat) (n : Nat) (hj : j < n) (hn : n < 2 ^ 31) : gI l yJ3_checkIndex_8e157 wsJ3_checkIndex_8e157 ({ frames := 0, cells := 0, slots := 0, locals := 0 }) E [] (fun _ : Unit => []) [.int (nI j), .int (nI n), .null] (fun (r : Int32) (_ : Unit) => r = nI j) := by
  refine gI.of (cc := cJ3_checkIndex_8e157) (maxL := 3) (by decide) rfl (Nat.le_of_ble_eq_true rfl) ?_
  intro pG eG sG mG below meth cG A ls H locs F hr hlk hX hP hD hA hS hl
  have hl : lv_has ls 3 [(0, .int (nI j)), (1, .int (nI n)), (2, .null)] := hl
  refine lv_iload_n F.1 F.2.1 dJ3_checkIndex_8e157_0 rfl (lv_at hl 0 rfl) ?_
  refine lv_if_lt (tgt := 9) F.1 F.2.1 dJ3_checkIndex_8e157_1 (by decide) (fun k1 => ?_) (fun k1 => ?_)
  · exact absurd k1 (nI_pos (by omega))
  · refine lv_iload_n F.1 F.2.1 dJ3_checkIndex_8e157_4 rfl (lv_at hl 0 rfl) ?_
    refine lv_iload_n F.1 F.2.1 dJ3_checkIndex_8e157_5 rfl (lv_at hl 1 rfl) ?_
    refine lv_icmp_lt (tgt := 16) F.1 F.2.1 dJ3_checkIndex_8e157_6 (by decide) (fun k2 => ?_) (fun k2 => ?_)
    · refine lv_iload_n F.1 F.2.1 dJ3_checkIndex_8e157_16 rfl (lv_at hl 0 rfl) ?_
      exact g_reti F hr hlk (vp_nar_int _) hS hP hD (()) (rfl) (rfl) dJ3_checkIndex_8e157_17
    · exact absurd (nI_lt hj hn) k2
set_option maxHeartbeats 4000000 in
set_option maxRecDepth 100000 in
theorem c_J3_r (l : Launch) (E : gE) (j : Nat) (n : Nat) (bf : Nat) (hj : j < n) (hn : n < 2 ^ 31) : gI l yJ3_checkIndex_8e157 wsJ3_checkIndex_8e157 ({ frames := 0, cells := 0, slots := 0, locals := 0 }) E [] (fun _ : Unit => []) [.int (nI j), .int (nI n), .ref bf] (fun (r : Int32) (_ : Unit) => r = nI j) := by
  refine gI.of (cc := cJ3_checkIndex_8e157) (maxL := 3) (by decide) rfl (Nat.le_of_ble_eq_true rfl) ?_
  intro pG eG sG mG below meth cG A ls H locs F hr hlk hX hP hD hA hS hl
  have hl : lv_has ls 3 [(0, .int (nI j)), (1, .int (nI n)), (2, .ref bf)] := hl
  refine lv_iload_n F.1 F.2.1 dJ3_checkIndex_8e157_0 rfl (lv_at hl 0 rfl) ?_
  refine lv_if_lt (tgt := 9) F.1 F.2.1 dJ3_checkIndex_8e157_1 (by decide) (fun k1 => ?_) (fun k1 => ?_)
  · exact absurd k1 (nI_pos (by omega))
  · refine lv_iload_n F.1 F.2.1 dJ3_checkIndex_8e157_4 rfl (lv_at hl 0 rfl) ?_
    refine lv_iload_n F.1 F.2.1 dJ3_checkIndex_8e157_5 rfl (lv_at hl 1 rfl) ?_
    refine lv_icmp_lt (tgt := 16) F.1 F.2.1 dJ3_checkIndex_8e157_6 (by decide) (fun k2 => ?_) (fun k2 => ?_)
    · refine lv_iload_n F.1 F.2.1 dJ3_checkIndex_8e157_16 rfl (lv_at hl 0 rfl) ?_
      exact g_reti F hr hlk (vp_nar_int _) hS hP hD (()) (rfl) (rfl) dJ3_checkIndex_8e157_17
    · exact absurd (nI_lt hj hn) k2
set_option maxHeartbeats 4000000 in
set_option maxRecDepth 100000 in
theorem c_J0_checkIndex_df160 (l : Launch) (E : gE) (j : Nat) (n : Nat) (hj : j < n) (hn : n < 2 ^ 31) : gV l yJ0_checkIndex_df160 wsJ0_checkIndex_df160 ({ frames := 1, cells := 0, slots := 0, locals := 22 }) E [] (fun _ : Unit => []) [.int (nI j), .int (nI n)] (fun (_ : Unit) => True) := by
  refine gV.of (cc := cJ0_checkIndex_df160) (maxL := 2) (by decide) rfl (Nat.le_of_ble_eq_true rfl) ?_
  intro pG eG sG mG below meth cG A ls H locs F hr hlk hX hP hD hA hS hl
  have hl : lv_has ls 2 [(0, .int (nI j)), (1, .int (nI n))] := hl
  refine lv_iload_n F.1 F.2.1 dJ0_checkIndex_df160_0 rfl (lv_at hl 0 rfl) ?_
  refine lv_iload_n F.1 F.2.1 dJ0_checkIndex_df160_1 rfl (lv_at hl 1 rfl) ?_
  rcases hX.2.2.2.2.2.2.2 with hZ | ⟨bf, hZ⟩
  · refine va_gets F.1 F.2.1 hZ hS F.2.2.2.1 (F.2.2.2.2 _ (mm 1 rfl)) (fun _ h => h) dJ0_checkIndex_df160_2 ?_
    refine g_goIr (g_runS (As := [.int (nI j), .int (nI n), .null]) (rest := []) F hX hP hD hS hA (c_J3_n l E j n (by first | assumption | omega) (by first | assumption | omega) H.size) (va_cwS 3 F.2.2.2.2 gJ0_checkIndex_df160_J3_checkIndex_8e157 rfl rfl rfl (by decide +kernel) ⟨Nat.le_of_ble_eq_true rfl, Nat.le_of_ble_eq_true rfl⟩) [] rfl rfl rfl hl.1 rfl (Nat.le_of_ble_eq_true rfl) dJ0_checkIndex_df160_5 ⟨Nat.le_refl _, Nat.le_refl _⟩) hP hD hS hA [] rfl (fun r _ H locs hq hP hS => ?_)
    subst hq
    refine lv_pop F.1 F.2.1 dJ0_checkIndex_df160_8 rfl ?_
    exact g_retv F hr hlk hS hP hD (()) (rfl) (trivial) dJ0_checkIndex_df160_9
  · refine va_gets F.1 F.2.1 hZ hS F.2.2.2.1 (F.2.2.2.2 _ (mm 1 rfl)) (fun _ h => h) dJ0_checkIndex_df160_2 ?_
    refine g_goIr (g_runS (As := [.int (nI j), .int (nI n), .ref bf]) (rest := []) F hX hP hD hS hA (c_J3_r l E j n bf (by first | assumption | omega) (by first | assumption | omega) H.size) (va_cwS 3 F.2.2.2.2 gJ0_checkIndex_df160_J3_checkIndex_8e157 rfl rfl rfl (by decide +kernel) ⟨Nat.le_of_ble_eq_true rfl, Nat.le_of_ble_eq_true rfl⟩) [] rfl rfl rfl hl.1 rfl (Nat.le_of_ble_eq_true rfl) dJ0_checkIndex_df160_5 ⟨Nat.le_refl _, Nat.le_refl _⟩) hP hD hS hA [] rfl (fun r _ H locs hq hP hS => ?_)
    subst hq
    refine lv_pop F.1 F.2.1 dJ0_checkIndex_df160_8 rfl ?_
    exact g_retv F hr hlk hS hP hD (()) (rfl) (trivial) dJ0_checkIndex_df160_9
set_option maxHeartbeats 4000000 in
set_option maxRecDepth 100000 in
theorem c_J1_charAt_3b067 (l : Launch) (E : gE) (k : Nat) (j : Nat) (hk : k < 11) (hj : j < sLen.getD k 0) : gI l yJ1_charAt_3b067 wsJ1_charAt_3b067 ({ frames := 2, cells := 0, slots := 0, locals := 43 }) E [] (fun _ : Unit => []) [.ref (eV E k), .int (nI j)] (fun (r : Int32) (_ : Unit) => r = wch k j &&& 255) := by
  have h6 := sLen_6 k hk
  refine gI.of (cc := cJ1_charAt_3b067) (maxL := 2) (by decide) rfl (Nat.le_of_ble_eq_true rfl) ?_
  intro pG eG sG mG below meth cG A ls H locs F hr hlk hX hP hD hA hS hl
  have hl : lv_has ls 2 [(0, .ref (eV E k)), (1, .int (nI j))] := hl
  refine lv_iload_n F.1 F.2.1 dJ1_charAt_3b067_0 rfl (lv_at hl 1 rfl) ?_
  refine lv_aload_n F.1 F.2.1 dJ1_charAt_3b067_1 rfl (lv_at hl 0 rfl) ?_
  refine va_tlen F.1 F.2.1 (hX.2.2.2.1.1 k hk).2.2.2 hS (v := nI (sLen.getD k 0)) rfl dJ1_charAt_3b067_2 ?_
  refine g_goVr (g_runS (As := [.int (nI j), .int (nI (sLen.getD k 0))]) (rest := []) F hX hP hD hS hA (c_J0_checkIndex_df160 l E j (sLen.getD k 0) (by first | assumption | omega) (by first | assumption | omega) H.size) (va_cwS 2 F.2.2.2.2 gJ1_charAt_3b067_J0_checkIndex_df160 rfl rfl rfl (by decide +kernel) ⟨Nat.le_of_ble_eq_true rfl, Nat.le_of_ble_eq_true rfl⟩) [] rfl rfl rfl hl.1 rfl (Nat.le_of_ble_eq_true rfl) dJ1_charAt_3b067_3 ⟨Nat.le_refl _, Nat.le_refl _⟩) hP hD hS hA [] rfl (fun H locs hP hS => ?_)
  refine lv_aload_n F.1 F.2.1 dJ1_charAt_3b067_6 rfl (lv_at hl 0 rfl) ?_
  refine lv_iload_n F.1 F.2.1 dJ1_charAt_3b067_7 rfl (lv_at hl 1 rfl) ?_
  refine va_tb F.1 F.2.1 (hX.2.2.2.1.1 k hk).2.2.2 hS (i := nI j) (vp_in_nI (hj) (by omega)) (v := .int (wch k j)) (by rw [nI_clamp (by omega)]; rfl) dJ1_charAt_3b067_8 ?_
  refine lv_sipush (v := 255) F.1 F.2.1 dJ1_charAt_3b067_9 (by decide) ?_
  refine lv_iand F.1 F.2.1 dJ1_charAt_3b067_12 ?_
  refine lv_i2c (v := (((wch k j) &&& 255 : Int32).toUInt32 % 65536).toInt32) F.1 F.2.1 dJ1_charAt_3b067_13 rfl ?_
  refine g_top (wch k j &&& 255) (sc_c2 _) ?_
  exact g_reti F hr hlk (sc_nar _) hS hP hD (()) (rfl) (rfl) dJ1_charAt_3b067_14
set_option maxHeartbeats 4000000 in
set_option maxRecDepth 100000 in
theorem c_J0_charAt_5068e (l : Launch) (E : gE) (k : Nat) (j : Nat) (hk : k < 11) (hj : j < sLen.getD k 0) : gI l yJ0_charAt_5068e wsJ0_charAt_5068e ({ frames := 3, cells := 0, slots := 0, locals := 64 }) E [] (fun _ : Unit => []) [.ref (eK E k), .int (nI j)] (fun (r : Int32) (_ : Unit) => r = wch k j &&& 255) := by
  refine gI.of (cc := cJ0_charAt_5068e) (maxL := 2) (by decide) rfl (Nat.le_of_ble_eq_true rfl) ?_
  intro pG eG sG mG below meth cG A ls H locs F hr hlk hX hP hD hA hS hl
  have hl : lv_has ls 2 [(0, .ref (eK E k)), (1, .int (nI j))] := hl
  refine lv_aload_n F.1 F.2.1 dJ0_charAt_5068e_0 rfl (lv_at hl 0 rfl) ?_
  refine g_goIr (g_runVK (As := []) (rest := []) F hX hP hD hS hA (c_J0_isLatin1_aae02 l E k (by first | assumption | decide) H.size) (cwV 0 F.2.2.2.2 gJ0_charAt_5068e_J0_isLatin1_aae02 rfl rfl rfl (by decide +kernel) ⟨Nat.le_of_ble_eq_true rfl, Nat.le_of_ble_eq_true rfl⟩) [] rfl rfl hk rfl hl.1 rfl (Nat.le_of_ble_eq_true rfl) dJ0_charAt_5068e_1 ⟨Nat.le_refl _, Nat.le_refl _⟩) hP hD hS hA [] rfl (fun r _ H locs hq hP hS => ?_)
  subst hq
  refine lv_if_eq (tgt := 16) F.1 F.2.1 dJ0_charAt_5068e_4 (by decide) (fun k1 => ?_) (fun k1 => ?_)
  · exact absurd k1 (by decide)
  · refine lv_aload_n F.1 F.2.1 dJ0_charAt_5068e_7 rfl (lv_at hl 0 rfl) ?_
    refine vk_getf F.1 F.2.1 (hX.2.2.2.1.1 k hk).2.2.1 hS F.2.2.2.1 (F.2.2.2.2 _ (mm 1 rfl)) (fun _ h => h) dJ0_charAt_5068e_8 ?_
    refine lv_iload_n F.1 F.2.1 dJ0_charAt_5068e_11 rfl (lv_at hl 1 rfl) ?_
    refine g_goIr (g_runS (As := [.ref (eV E k), .int (nI j)]) (rest := []) F hX hP hD hS hA (c_J1_charAt_3b067 l E k j (by first | assumption | decide) (by first | assumption | omega) H.size) (va_cwS 2 F.2.2.2.2 gJ0_charAt_5068e_J1_charAt_3b067 rfl rfl rfl (by decide +kernel) ⟨Nat.le_of_ble_eq_true rfl, Nat.le_of_ble_eq_true rfl⟩) [] rfl rfl rfl hl.1 rfl (Nat.le_of_ble_eq_true rfl) dJ0_charAt_5068e_12 ⟨Nat.le_refl _, Nat.le_refl _⟩) hP hD hS hA [] rfl (fun r _ H locs hq hP hS => ?_)
    subst hq
    exact g_reti F hr hlk (sc_nar _) hS hP hD (()) (rfl) (rfl) dJ0_charAt_5068e_15
set_option maxHeartbeats 4000000 in
set_option maxRecDepth 100000 in
theorem c_X1_nameOf (l : Launch) (E : gE) (k : Nat) (hk6 : k < 6) : gA l yX1_nameOf wsX1_nameOf ({ frames := 0, cells := 0, slots := 0, locals := 0 }) E [] [.int (nI k)] (fun (r : Nat) => r = eK E k) := by
  refine gA.of (cc := cX1_nameOf) (maxL := 1) (by decide) rfl (Nat.le_of_ble_eq_true rfl) ?_
  intro pG eG sG mG below meth cG A ls H locs F hr hlk hX hP hD hA hS hl
  have hl : lv_has ls 1 [(0, .int (nI k))] := hl
  refine lv_iload_n F.1 F.2.1 dX1_nameOf_0 rfl (lv_at hl 0 rfl) ?_
  by_cases k1 : (nI k) = 1
  · refine g_top 1 k1 ?_
    refine lv_tableIn (tgt := 36) F.1 F.2.1 dX1_nameOf_1 (by decide) (by decide) rfl (by decide) ?_
    refine va_ldcS F.1 F.2.1 F.2.2.2.1 (hX.2.2.1 1 (by decide)) dX1_nameOf_36 ?_
    exact g_retr F hr hlk hS hP hD () rfl (by rw [(nI_eq (a := k) (b := 1) (by omega) (by decide)).mp k1]) dX1_nameOf_38
  by_cases k2 : (nI k) = 2
  · refine g_top 2 k2 ?_
    refine lv_tableIn (tgt := 39) F.1 F.2.1 dX1_nameOf_1 (by decide) (by decide) rfl (by decide) ?_
    refine va_ldcS F.1 F.2.1 F.2.2.2.1 (hX.2.2.1 2 (by decide)) dX1_nameOf_39 ?_
    exact g_retr F hr hlk hS hP hD () rfl (by rw [(nI_eq (a := k) (b := 2) (by omega) (by decide)).mp k2]) dX1_nameOf_41
  by_cases k3 : (nI k) = 3
  · refine g_top 3 k3 ?_
    refine lv_tableIn (tgt := 42) F.1 F.2.1 dX1_nameOf_1 (by decide) (by decide) rfl (by decide) ?_
    refine va_ldcS F.1 F.2.1 F.2.2.2.1 (hX.2.2.1 3 (by decide)) dX1_nameOf_42 ?_
    exact g_retr F hr hlk hS hP hD () rfl (by rw [(nI_eq (a := k) (b := 3) (by omega) (by decide)).mp k3]) dX1_nameOf_44
  by_cases k4 : (nI k) = 4
  · refine g_top 4 k4 ?_
    refine lv_tableIn (tgt := 45) F.1 F.2.1 dX1_nameOf_1 (by decide) (by decide) rfl (by decide) ?_
    refine va_ldcS F.1 F.2.1 F.2.2.2.1 (hX.2.2.1 4 (by decide)) dX1_nameOf_45 ?_
    exact g_retr F hr hlk hS hP hD () rfl (by rw [(nI_eq (a := k) (b := 4) (by omega) (by decide)).mp k4]) dX1_nameOf_47
  by_cases k5 : (nI k) = 5
  · refine g_top 5 k5 ?_
    refine lv_tableIn (tgt := 48) F.1 F.2.1 dX1_nameOf_1 (by decide) (by decide) rfl (by decide) ?_
    refine va_ldcS F.1 F.2.1 F.2.2.2.1 (hX.2.2.1 5 (by decide)) dX1_nameOf_48 ?_
    exact g_retr F hr hlk hS hP hD () rfl (by rw [(nI_eq (a := k) (b := 5) (by omega) (by decide)).mp k5]) dX1_nameOf_50
  refine lv_tableOut (tgt := 51) F.1 F.2.1 dX1_nameOf_1 (t_out (nI k) 1 5 (fun kk h1 h2 => by rcases (show kk = 1 ∨ kk = 2 ∨ kk = 3 ∨ kk = 4 ∨ kk = 5 by omega) with rfl | rfl | rfl | rfl | rfl <;> assumption)) (by decide) ?_
  refine va_ldcS F.1 F.2.1 F.2.2.2.1 (hX.2.2.1 0 (by decide)) dX1_nameOf_51 ?_
  exact g_retr F hr hlk hS hP hD () rfl (by have q1 : k ≠ 1 := fun e => k1 (by rw [e]; rfl); have q2 : k ≠ 2 := fun e => k2 (by rw [e]; rfl); have q3 : k ≠ 3 := fun e => k3 (by rw [e]; rfl); have q4 : k ≠ 4 := fun e => k4 (by rw [e]; rfl); have q5 : k ≠ 5 := fun e => k5 (by rw [e]; rfl); rw [show k = 0 by omega]) dX1_nameOf_53
