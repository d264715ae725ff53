/-! constructors -/
def gN (l : Launch) (y : MethodName) (wy : List Cond) (rm : Room) (E : gE) {S : Type} (ws : va_W) (ws' : S → va_W) (av : List Value) (mc ms : Nat) : Prop :=
  ∀ sz : Nat, Met l y wy rm (va_Pc av (fun U => gP E ws sz U ∧ va_AO RX0 U)) (va_Qv (fun _ : S => True) (gR E ws' (va_A ws sz)) (va_A ws sz)) mc ms (va_A ws sz)
theorem gN.blind {E : gE} {ws : va_W} {sz : Nat} {av : List Value} : FrameBlind (va_Pc av (fun U => gP E ws sz U ∧ va_AO RX0 U)) := by
  intro a U g mk q
  obtain ⟨q0, ⟨q1, qP, qX, qD⟩, qo⟩ := q
  exact ⟨q0, ⟨q1, qP, qX.call g mk a, qD⟩, va_AO.moved (u := U) (U := U.calling g mk a) (Vm.Alike.refl U.vm) qo⟩
theorem gN.of {l : Launch} {y : MethodName} {wy w0 : List Cond} {rm : Room} {E : gE} {S : Type} {ws : va_W} {ws' : S → va_W} {av : List Value} {mc ms : Nat} {cc : ByteArray} {maxL : Nat} (hy : plainName y.cls = true) (hw : wy = Cond.code y cc maxL none :: w0) (hlen : (lg_sl av).length ≤ maxL) (hyn : y.name = "<init>")
    (body : ∀ (p : Program) (e : Env) (s : State) (m : MethodId) (below : List Frame) (meth : Method) (c : Code) (A : Nat → Prop) (ls : Array Slot) (H : Heap) (locs : List Loc), CallFix p m c cc maxL s av.toArray wy y.cls → meth.sig.returnType = none → meth.locks = false → meth.name = "<init>" → gX E A s s.heap → va_AO RX0 s → va_P (eD E) vwCl ws H → va_D A ws → (∀ q, s.heap.size ≤ q → A q) → va_S A s.heap H locs → lv_has ls maxL (lv_args 0 av) →
      W p l e rm s m av.toArray below meth c H locs 0 0 (MQ below (va_Qv (fun _ : S => True) (gR E ws' A) A) av.toArray s mc ms A) (F0 m 0 ls [])) : gN l y wy rm E ws ws' av mc ms := by
  intro sz
  refine Met.ofW (cc := cc) (maxL := maxL) (ret := none) hy hw ?_
  intro p e s m args below meth c s₁ B hml hv
  obtain ⟨rfl, ⟨hsz, hP, hX, hD0⟩, hAO⟩ := hv
  subst hsz
  have hown : s.vm.findClass y.cls = some m.cls := findClass_of_methodNamed B.named
  have hin : meth.name = y.name := (name_of_methodNamed B.named B.method).1
  have hl := lv_entry av (n := maxL) hlen
  rw [lg_entry_eq]
  exact body p e s m below meth c _ _ s.heap [] ⟨B.exec, B.bytes, hml, hown, atoms_spec (ws := wy) B.pre⟩ B.returns B.notSynchronized (hin.trans hyn) hX hAO hP hD0.self (fun q h => Or.inr h) va_S.rf hl
section GWN
variable {p : Program} {l : Launch} {e : Env} {R : Room} {s : State} {m : MethodId} {args : Array Value} {below : List Frame} {meth : Method} {c : Code} {H : Heap} {locs : List Loc} {cells slots : Nat} {Q : State → Prop}
variable {cc : ByteArray} {pc nL : Nat} {ls : Array Slot} {rest st : List Value} {E : gE} {A : Nat → Prop} {ws wc wr : va_W} {Ts : List Cond} {own : String}
variable {y : MethodName} {wy : List Cond} {rm : Room} {bytes : ByteArray} {maxL n index mc ms : Nat} {ret : Option FieldType} {As : List Value} {b : Nat}
theorem g_new (F : CallFix p m c cc nL s args Ts own) (hX : gX E A s s.heap) (hP : va_P (eD E) vwCl ws H) (hD : va_D A ws) (hS : va_S A s.heap H locs) (hA : ∀ q, s.heap.size ≤ q → A q) {C : String} {T : u_T} {N ci : Nat} (hin : ∀ w ∈ u_ws C T N, w ∈ Ts) (ty : Nat → FieldType) (hty : ∀ k, k < N → parseFieldDescriptor (T k).2.2.1 = some (ty k)) (hcl : Cond.classLink own index C ∈ Ts) (hinst : Cond.instantiable C N ∈ Ts) (hini : Cond.initialized C ∈ Ts) (hc : vwCl[ci]? = some (C, T, N)) {fs : List Value} (hfs : ∀ j, j < N → defaultValue (ty j) = vp_V fs j) (hcells : cells + 1 ≤ R.cells) (hslots : slots + N ≤ R.slots) (hdg : decode cc pc = .ok (.new index, 3))
    (kk : ∀ (q : Nat) (H1 : Heap), va_P (eD E) vwCl (ws ++ [(q, .inr (ci, fs))]) H1 → va_D A (ws ++ [(q, .inr (ci, fs))]) → va_S A s.heap H1 locs → W p l e R s m args below meth c H1 locs (cells + 1) (slots + N) Q (F0 m (pc + 3) ls (.ref q :: rest))) : W p l e R s m args below meth c H locs cells slots Q (F0 m pc ls rest) :=
  va_new F.1 F.2.1 F.2.2.2.2 hin ty hty F.2.2.2.1 (F.2.2.2.2 _ hcl) (F.2.2.2.2 _ hinst) (F.2.2.2.2 _ hini) hX.1 hP hD hS hA hc hfs hcells hslots hdg kk
theorem g_newI (F : CallFix p m c cc nL s args Ts own) (hX : gX E A s s.heap) (hP : va_P (eD E) vwCl ws H) (hD : va_D A ws) (hS : va_S A s.heap H locs) (hA : ∀ q, s.heap.size ≤ q → A q) (harr : Cond.arrayClass .int ∈ Ts) {x : Int32} {N : Nat} (hn : ¬ x < 0 ∧ x.toNatClampNeg = N) (hbytes : N * componentBytes .int ≤ 536870912) (hcells : cells + 1 ≤ R.cells) (hslots : slots + N ≤ R.slots) (hdg : decode cc pc = .ok (.newarray .int, 2))
    (kk : ∀ (q : Nat) (H1 : Heap), va_P (eD E) vwCl (ws ++ [(q, .inl (eI E, N, .inl (fun _ => 0)))]) H1 → va_D A (ws ++ [(q, .inl (eI E, N, .inl (fun _ => 0)))]) → va_S A s.heap H1 locs → W p l e R s m args below meth c H1 locs (cells + 1) (slots + N) Q (F0 m (pc + 2) ls (.ref q :: rest))) : W p l e R s m args below meth c H locs cells slots Q (F0 m pc ls (.int x :: rest)) := by
  refine va_newa (atype := .int) (ty := .int) (a0 := (N, .inl (fun _ => 0))) F.1 F.2.1 (F.2.2.2.2 _ harr) rfl hX.1 hP hD hS hA (fun _ => rfl) hn.1 hn.2 hbytes hcells hslots hdg (fun q cA H1 hK1 hP1 hD1 hS1 => ?_)
  have h1 : s.vm.findClass "[I" = some cA := va_nm_int (hK1.2 3 (cA, .int) rfl).2
  have h2 : s.vm.findClass "[I" = some (eI E) := va_nm_int (hX.1.2 0 (eI E, .int) rfl).2
  have e1 : cA = eI E := Option.some.inj (h1.symm.trans h2)
  subst e1
  exact kk q H1 hP1 hD1 hS1
theorem g_newJ (F : CallFix p m c cc nL s args Ts own) (hX : gX E A s s.heap) (hP : va_P (eD E) vwCl ws H) (hD : va_D A ws) (hS : va_S A s.heap H locs) (hA : ∀ q, s.heap.size ≤ q → A q) (harr : Cond.arrayClass .long ∈ Ts) {x : Int32} {N : Nat} (hn : ¬ x < 0 ∧ x.toNatClampNeg = N) (hbytes : N * componentBytes .long ≤ 536870912) (hcells : cells + 1 ≤ R.cells) (hslots : slots + N ≤ R.slots) (hdg : decode cc pc = .ok (.newarray .long, 2))
    (kk : ∀ (q : Nat) (H1 : Heap), va_P (eD E) vwCl (ws ++ [(q, .inl (eJ E, N, .inr (.inl (fun _ => 0))))]) H1 → va_D A (ws ++ [(q, .inl (eJ E, N, .inr (.inl (fun _ => 0))))]) → va_S A s.heap H1 locs → W p l e R s m args below meth c H1 locs (cells + 1) (slots + N) Q (F0 m (pc + 2) ls (.ref q :: rest))) : W p l e R s m args below meth c H locs cells slots Q (F0 m pc ls (.int x :: rest)) := by
  refine va_newa (atype := .long) (ty := .long) (a0 := (N, .inr (.inl (fun _ => 0)))) F.1 F.2.1 (F.2.2.2.2 _ harr) rfl hX.1 hP hD hS hA (fun _ => rfl) hn.1 hn.2 hbytes hcells hslots hdg (fun q cA H1 hK1 hP1 hD1 hS1 => ?_)
  have h1 : s.vm.findClass "[J" = some cA := va_nm_long (hK1.2 3 (cA, .long) rfl).2
  have h2 : s.vm.findClass "[J" = some (eJ E) := va_nm_long (hX.1.2 1 (eJ E, .long) rfl).2
  have e1 : cA = eJ E := Option.some.inj (h1.symm.trans h2)
  subst e1
  exact kk q H1 hP1 hD1 hS1
theorem g_newS (F : CallFix p m c cc nL s args Ts own) (hX : gX E A s s.heap) (hAO : va_AO RX0 s) (hP : va_P (eD E) vwCl ws H) (hD : va_D A ws) (hS : va_S A s.heap H locs) (hA : ∀ q, s.heap.size ≤ q → A q) (hcl : Cond.classLink own index RX0 ∈ Ts) {x : Int32} {N : Nat} (hn : ¬ x < 0 ∧ x.toNatClampNeg = N) (hbytes : N * 4 ≤ 536870912) (hcells : cells + 1 ≤ R.cells) (hslots : slots + N ≤ R.slots) (hdg : decode cc pc = .ok (.anewarray index, 3))
    (kk : ∀ (q : Nat) (H1 : Heap), va_P (eD E) vwCl (ws ++ [(q, .inl (eS E, N, .inr (.inr (.inr (.inr (fun _ => none))))))]) H1 → va_D A (ws ++ [(q, .inl (eS E, N, .inr (.inr (.inr (.inr (fun _ => none))))))]) → va_S A s.heap H1 locs → W p l e R s m args below meth c H1 locs (cells + 1) (slots + N) Q (F0 m (pc + 3) ls (.ref q :: rest))) : W p l e R s m args below meth c H locs cells slots Q (F0 m pc ls (.int x :: rest)) := by
  refine va_newq (C := RX0) F.1 F.2.1 F.2.2.2.1 (F.2.2.2.2 _ hcl) hAO hX.1 hP hD hS hA hn.1 hn.2 hbytes hcells hslots hdg (fun q cA H1 hK1 hP1 hD1 hS1 => ?_)
  obtain ⟨-, -, -, -, -, h1⟩ := (hK1.2 3 (cA, .object RX0) rfl).2
  obtain ⟨-, -, -, -, -, h2⟩ := (hX.1.2 2 (eS E, .object RX0) rfl).2
  have e1 : cA = eS E := Option.some.inj (h1.symm.trans h2)
  subst e1
  exact kk q H1 hP1 hD1 hS1
theorem g_aast (F : CallFix p m c cc nL s args Ts own) (hX : gX E A s s.heap) (hP : va_P (eD E) vwCl ws H) (hD : va_D A ws) (hS : va_S A s.heap H locs) (q0 qk : Nat) {a N v : Nat} {vs : List Value} {f : Nat → Option Nat} {T : u_T} {M : Nat} (ha : ws[q0]? = some (a, .inl (eS E, N, .inr (.inr (.inr (.inr f)))))) (hv : ws[qk]? = some (v, .inr (0, vs))) (hc : vwCl[0]? = some (RX0, T, M)) {i : Int32} {j : Nat} (hi : i = nI j) (hj : j < N) (hN : N < 2 ^ 31) (hdg : decode cc pc = .ok (.aastore, 1))
    (kk : ∀ (H1 : Heap) (locs1 : List Loc), va_P (eD E) vwCl (ws.set q0 (a, .inl (eS E, N, .inr (.inr (.inr (.inr (va_up f j (some v)))))))) H1 → va_D A (ws.set q0 (a, .inl (eS E, N, .inr (.inr (.inr (.inr (va_up f j (some v)))))))) → va_S A s.heap H1 locs1 → W p l e R s m args below meth c H1 locs1 cells slots Q (F0 m (pc + 1) ls rest)) : W p l e R s m args below meth c H locs cells slots Q (F0 m pc ls (.ref v :: .int i :: .ref a :: rest)) := by
  subst hi
  refine va_astq F.1 F.2.1 hX.1 hP hD hS q0 2 qk 0 (r := (RX0, T, M)) ha rfl hv hc (vp_in_nI hj hN) hdg ?_
  rw [nI_clamp (Nat.lt_trans hj hN)]
  exact kk
theorem g_oinit (F : CallFix p m c cc nL s args Ts own) {lv : List (Nat × Value)} (hl : lv_has ls nL lv) (hlink : Cond.methodLink own index Lib.objectInit ∈ Ts) (hinst : Cond.instanceMethod Lib.objectInit ∈ Ts) (hcode : Cond.code Lib.objectInit ⟨#[0xb1]⟩ 1 none ∈ Ts) {a : Nat} (hframes : 1 ≤ R.frames) (hlocals : (rest.map fun v => v.category).sum + 12 ≤ R.locals) (hdg : decode cc pc = .ok (.invokespecial index, 3))
    (kk : W p l e R s m args below meth c H locs cells slots Q (F0 m (pc + 3) ls rest)) : W p l e R s m args below meth c H locs cells slots Q (F0 m pc ls (.ref a :: rest)) := by
  refine W.objInit F.1 F.2.1 F.2.2.2.1 (F.2.2.2.2 _ hlink) (F.2.2.2.2 _ hinst) (F.2.2.2.2 _ hcode) rfl (by rw [F.2.2.1]; exact hl.1) rfl hdg hframes (by show 2 * 0 + _ + 12 ≤ _; omega) ?_
  exact kk
theorem g_putF (F : CallFix p m c cc nL s args Ts own) (hX : gX E A s s.heap) (hP : va_P (eD E) vwCl ws H) (hD : va_D A ws) (hS : va_S A s.heap H locs) (hnm0 : meth.name = "<init>") {C : String} {T : u_T} {N ci a : Nat} (hin : ∀ w ∈ u_ws C T N, w ∈ Ts) (ty0 : Nat → FieldType) (hty : ∀ k, k < N → parseFieldDescriptor (T k).2.2.1 = some (ty0 k)) (hnm : ∀ a, a < N → ∀ b, b < N → a ≠ b → (T a).2.1 ≠ (T b).2.1) (q0 : Nat) {fs : List Value} (he : ws[q0]? = some (a, .inr (ci, fs))) (hc : vwCl[ci]? = some (C, T, N)) (k : Nat) (hk : k < N) (hlink : Cond.fieldLink own index (T k).1 (T k).2.1 (T k).2.2.1 ∈ Ts) (hfin : (T k).2.2.2 = true) (hdecl : (T k).1 = own) {v : Value} (hn : narrow (ty0 k) v = v) (hfit : fits (ty0 k) v = true) (hl : k < fs.length) (hdg : decode cc pc = .ok (.putfield index, 3))
    (kk : ∀ (H1 : Heap) (locs1 : List Loc), va_P (eD E) vwCl (ws.set q0 (a, .inr (ci, fs.set k v))) H1 → va_D A (ws.set q0 (a, .inr (ci, fs.set k v))) → va_S A s.heap H1 locs1 → W p l e R s m args below meth c H1 locs1 cells slots Q (F0 m (pc + 3) ls rest)) : W p l e R s m args below meth c H locs cells slots Q (F0 m pc ls (v :: .ref a :: rest)) :=
  va_putF F.1 F.2.1 F.2.2.2.2 hin ty0 hty hnm F.2.2.2.1 hX.1 hP hD hS q0 he hc k hk (F.2.2.2.2 _ hlink) (fun _ h => h) hfin hnm0 hdecl (hty k hk) hn hfit hl hdg kk
theorem g_runI (F : CallFix p m c cc nL s args Ts own) (hX : gX E A s s.heap) (hAO : va_AO RX0 s) (hP : va_P (eD E) vwCl ws H) (hD : va_D A ws) (hS : va_S A s.heap H locs) (hA : ∀ q, s.heap.size ≤ q → A q) {Qc : Array Value → State → Outcome → State → Prop} {free : Addr → Prop}
    (hM : Met l y wy rm (va_Pc (.ref b :: As) (fun U => gP E wc H.size U ∧ va_AO RX0 U)) Qc mc ms free) (cw : CallB R s args own index y bytes maxL none wy rm mc ms n ∧ y.name = "<init>" ∧ (Cond.instanceMethod y).before args s = true) (isC : List Nat) (hC : isC.map (fun i => ws[i]?) = wc.map some) (hnd : va_nd isC = true) (hn : As.length = n) (hsz : ls.size = nL) (hstack : st = As.reverse ++ .ref b :: rest) (hroom : (rest.map fun v => v.category).sum ≤ 8) (hdg : decode cc pc = .ok (.invokespecial index, 3)) (hf : cells + mc ≤ R.cells ∧ slots + ms ≤ R.slots) :
    va_Run p l e R s m args below meth c H locs cells slots mc ms (F0 m pc ls st) rest (Qc (Value.ref b :: As).toArray) free :=
  va_runI F hM cw ⟨gN.blind, fun U hU hW => ⟨rfl, g_give hX hP hD hS hA isC hC hnd U hU hW, va_AO.moved hW.alike hAO⟩⟩ rfl hn hsz hstack (lv_room hroom) hdg hf
theorem g_goN {S : Type} {ws' : S → va_W} {a : Array Value} (hr : va_Run p l e R s m args below meth c H locs cells slots mc ms (F0 m pc ls st) rest (va_Qv (fun _ : S => True) (gR E ws' (va_A wc H.size)) (va_A wc H.size) a) (va_A wc H.size)) (hP : va_P (eD E) vwCl ws H) (hD : va_D A ws) (hS : va_S A s.heap H locs) (hA : ∀ q, s.heap.size ≤ q → A q) (isC isR : List Nat) (hC : isC.map (fun i => ws[i]?) = wc.map some) (hR : isR.map (fun i => ws[i]?) = wr.map some) (hn : va_nd isR = true) (hdis : ∀ i ∈ isR, i ∉ isC)
    (kk : ∀ (u : S) (H1 : Heap) (locs1 : List Loc), va_P (eD E) vwCl (wr ++ ws' u) H1 → va_D A (wr ++ ws' u) → va_S A s.heap H1 locs1 → W p l e R s m args below meth c H1 locs1 (cells + mc) (slots + ms) Q (F0 m (pc + 3) ls rest)) : W p l e R s m args below meth c H locs cells slots Q (F0 m pc ls st) := by
  have hFc := va_free hD hS hA isC hC
  refine va_callv hr hS (fun q _ h => hFc q h) hFc (fun u t H1 locs1 ht hvm hw hB hz1 hk1 hS1 => ?_)
  obtain ⟨hP2, hD2⟩ := g_back hP hD hS hA isC isR hC hR hn hdis ht hk1 hB
  exact kk u H1 locs1 hP2 hD2 hS1
theorem g_retn {S : Type} {ws' : S → va_W} {w : va_W} (F : CallFix p m c cc nL s args Ts own) (hr : meth.sig.returnType = none) (hlk : meth.locks = false) (hS : va_S A s.heap H locs) (hP : va_P (eD E) vwCl w H) (hD : va_D A w) (u : S) (hw : w = ws' u) (hdg : decode cc pc = .ok (.return_, 1)) :
    W p l e R s m args below meth c H locs cells slots (MQ below (va_Qv (fun _ : S => True) (gR E ws' A) A) args s cells slots A) (F0 m pc ls []) := by
  subst hw
  exact W.vret F.1 F.2.1 hr (fun t ht hW => ⟨⟨u, rfl, trivial, by rw [ht]; exact hP, hD⟩, hS.F ht⟩) hS.2.2 hdg hlk
end GWN
def no0 (g : Nat) : Int32 := nI (4 * g % 7)
theorem no_rem {i : Nat} (h : i < 30) : (4 : Int32) * nI i - (4 : Int32) * nI i / 7 * 7 = no0 i := by
  have e : (4 : Int32) * nI i = nI (4 * i) := pk_mul 4 i
  rw [e]
  exact pk_rem (a := 4 * i) (d := 7) (by omega) (by decide) (by decide)
def mi0 : Nat → Int32 := upd (upd (upd (fun _ => 0) 1 30) 2 3) 3 1
def moI (i n : Nat) : Int32 := if 5 ≤ n ∧ n < 5 + i then no0 (n - 5) else mi0 n
theorem moI_0 : mi0 = moI 0 := funext fun n => (if_neg (by omega)).symm
theorem moI_s (i : Nat) (x : Int32) (h : x = no0 i) : upd (moI i) (5 + i) x = moI (i + 1) := funext fun n => by
  unfold upd moI
  by_cases e : n = 5 + i
  · rw [if_pos e, if_pos (by omega), h, show n - 5 = i by omega]
  · rw [if_neg e]
    by_cases c : 5 ≤ n ∧ n < 5 + i
    · rw [if_pos c, if_pos (by omega)]
    · rw [if_neg c, if_neg (by omega)]
