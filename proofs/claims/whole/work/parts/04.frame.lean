/-! the frame: what all contracts share -/
abbrev gE : Type := va_G × ClassId × ClassId × ClassId × (Nat → Nat) × (Nat → Nat) × Nat
abbrev eD (E : gE) : va_G := E.1
abbrev eI (E : gE) : ClassId := E.2.1
abbrev eJ (E : gE) : ClassId := E.2.2.1
abbrev eS (E : gE) : ClassId := E.2.2.2.1
abbrev eK (E : gE) : Nat → Nat := E.2.2.2.2.1
abbrev eV (E : gE) : Nat → Nat := E.2.2.2.2.2.1
abbrev eN (E : gE) : Nat := E.2.2.2.2.2.2
abbrev gT (E : gE) : List (ClassId × FieldType) := [(eI E, .int), (eJ E, .long), (eS E, .object RX0)]
/-- the words, in one order for both: walker pedlar child dog doctor runner at house four wide pace -/
def sIdx : List Nat := [133, 123, 125, 127, 129, 131, 66, 53, 79, 84, 89]
def sTx : List String := ["walker", "pedlar", "child", "dog", "doctor", "runner", "at", "house", "four", "wide", "pace"]
def sLen : List Nat := [6, 6, 5, 3, 6, 6, 2, 5, 4, 4, 4]
def sByt : List (List Int32) := [[119, 97, 108, 107, 101, 114], [112, 101, 100, 108, 97, 114], [99, 104, 105, 108, 100], [100, 111, 103], [100, 111, 99, 116, 111, 114], [114, 117, 110, 110, 101, 114], [97, 116], [104, 111, 117, 115, 101], [102, 111, 117, 114], [119, 105, 100, 101], [112, 97, 99, 101]]
/-- the reference's row of names: seven places a word -/
def nmF (j : Nat) : Int32 := (sByt.getD (j / 7) []).getD (j % 7) 0
def nmV (j : Nat) : Value := .int (nmF j)
def gX (E : gE) (A : Nat → Prop) (U : State) (H : Heap) : Prop :=
  va_K (eD E) vwCl (gT E) U ∧
  (va_Nw (.methodLinkNest RX1 112 yX3_isWithin RX3) U ∧ va_Nw (.methodLinkNest RX2 112 yX3_sum RX3) U ∧ va_Nw (.methodLinkNest RX2 75 yX3_held RX3) U ∧ va_Nw (.methodLinkNest RX2 83 yX3_isWithin RX3) U) ∧
  (∀ i : Nat, i < 11 → vk_R RX1 (sIdx.getD i 0) (sTx.getD i "") (eK E i) U) ∧
  vk_S 11 sLen sByt (eK E) (eV E) A U H ∧ va_Z RX4 "NAMES" "[I" (.ref (eN E)) A U H ∧ va_T .int (eN E) 77 nmV A U H ∧ va_Z "java/lang/String" "COMPACT_STRINGS" "Z" (.int 1) A U H ∧ va_Zq "jdk/internal/util/Preconditions" "SIOOBE_FORMATTER" "Ljava/util/function/BiFunction;" A U H
theorem gX.warm {E : gE} {A : Nat → Prop} {s U : State} {H : Heap} (hW : s.WarmedH U.vm) (h : gX E A s H) : gX E A U H := by
  obtain ⟨h1, ⟨a, b, c, d⟩, h3, h4, h5, h6, h7, h8⟩ := h
  exact ⟨va_K.moved hW.alike h1, ⟨va_Nw.warmM hW a, va_Nw.warmM hW b, va_Nw.warmM hW c, va_Nw.warmM hW d⟩, fun i hi => vk_R.warm hW (h3 i hi), vk_S.moved hW.alike h4, va_Z.moved hW.alike h5, va_T.moved hW.alike h6, va_Z.moved hW.alike h7, va_Zq.moved hW.alike h8⟩
theorem gX.call {E : gE} {A : Nat → Prop} {U : State} {H : Heap} (g : JFrame) (mk : MethodId) (a : Array Value) (h : gX E A U H) : gX E A (U.calling g mk a) H := by
  obtain ⟨h1, ⟨n1, n2, n3, n4⟩, h3, h4, h5, h6, h7, h8⟩ := h
  have hv : U.vm.Alike (U.calling g mk a).vm := Vm.Alike.refl U.vm
  exact ⟨va_K.moved hv h1, ⟨va_Nw.same rfl rfl n1, va_Nw.same rfl rfl n2, va_Nw.same rfl rfl n3, va_Nw.same rfl rfl n4⟩, fun i hi => vk_R.same (u := U) rfl (h3 i hi), vk_S.moved hv h4, va_Z.moved hv h5, va_T.moved hv h6, va_Z.moved hv h7, va_Zq.moved hv h8⟩
theorem gX.kept {E : gE} {A : Nat → Prop} {U : State} {H H1 : Heap} (hq : ∀ a : Nat, a < H.size → ¬ A a → H1[a]? = H[a]?) (h : gX E A U H) : gX E A U H1 := by
  obtain ⟨h1, h2, h3, h4, h5, h6, h7, h8⟩ := h
  exact ⟨h1, h2, h3, h4.kept hq, h5.kept hq, h6.kept hq, h7.kept hq, h8.kept hq⟩
theorem gX.narrow {E : gE} {A B : Nat → Prop} {U : State} {H : Heap} (hAB : ∀ q, B q → A q) (h : gX E A U H) : gX E B U H := by
  obtain ⟨h1, h2, h3, h4, h5, h6, h7, h8⟩ := h
  exact ⟨h1, h2, h3, h4.narrow hAB, h5.narrow hAB, h6.narrow hAB, h7.narrow hAB, h8.narrow hAB⟩
def gP (E : gE) (ws : va_W) (sz : Nat) (U : State) : Prop := U.heap.size = sz ∧ va_P (eD E) vwCl ws U.heap ∧ gX E (va_A ws sz) U U.heap ∧ va_D (fun _ => True) ws
theorem gP.blind {E : gE} {ws : va_W} {sz : Nat} {av : List Value} : FrameBlind (va_Pc av (gP E ws sz)) := by
  intro a U g mk q
  obtain ⟨q0, q1, qP, qX, qD⟩ := q
  exact ⟨q0, q1, qP, qX.call g mk a, qD⟩
def gR (E : gE) {S : Type} (ws' : S → va_W) (A : Nat → Prop) (u : S) (t : State) : Prop := va_P (eD E) vwCl (ws' u) t.heap ∧ va_D A (ws' u)
/-- contracts: of a method that answers an int (or a truth), a long, nothing -/
def gI (l : Launch) (y : MethodName) (wy : List Cond) (rm : Room) (E : gE) {S : Type} (ws : va_W) (ws' : S → va_W) (av : List Value) (post : Int32 → S → Prop) : Prop :=
  ∀ sz : Nat, Met l y wy rm (va_Pc av (gP E ws sz)) (va_Qi post (gR E ws' (va_A ws sz)) (va_A ws sz)) 0 0 (va_A ws sz)
def gL (l : Launch) (y : MethodName) (wy : List Cond) (rm : Room) (E : gE) {S : Type} (ws : va_W) (ws' : S → va_W) (av : List Value) (post : Int64 → S → Prop) : Prop :=
  ∀ sz : Nat, Met l y wy rm (va_Pc av (gP E ws sz)) (va_Ql post (gR E ws' (va_A ws sz)) (va_A ws sz)) 0 0 (va_A ws sz)
def gV (l : Launch) (y : MethodName) (wy : List Cond) (rm : Room) (E : gE) {S : Type} (ws : va_W) (ws' : S → va_W) (av : List Value) (post : S → Prop) : Prop :=
  ∀ sz : Nat, Met l y wy rm (va_Pc av (gP E ws sz)) (va_Qv post (gR E ws' (va_A ws sz)) (va_A ws sz)) 0 0 (va_A ws sz)
theorem gI.of {l : Launch} {y : MethodName} {wy w0 : List Cond} {rm : Room} {E : gE} {S : Type} {ws : va_W} {ws' : S → va_W} {av : List Value} {post : Int32 → S → Prop} {cc : ByteArray} {maxL : Nat} {rt : FieldType} (hy : plainName y.cls = true) (hw : wy = Cond.code y cc maxL (some rt) :: w0) (hlen : (lg_sl av).length ≤ maxL)
    (body : ∀ (p : Program) (e : Env) (s : State) (m : MethodId) (below : List Frame) (meth : Method) (c : Code) (A : Nat → Prop) (ls : Array Slot) (H : Heap) (locs : List Loc), CallFix p m c cc maxL s av.toArray wy y.cls → meth.sig.returnType = some rt → meth.locks = false → gX E A s s.heap → va_P (eD E) vwCl ws H → va_D A ws → (∀ q, s.heap.size ≤ q → A q) → va_S A s.heap H locs → lv_has ls maxL (lv_args 0 av) →
      W p l e rm s m av.toArray below meth c H locs 0 0 (MQ below (va_Qi post (gR E ws' A) A) av.toArray s 0 0 A) (F0 m 0 ls [])) : gI l y wy rm E ws ws' av post := by
  intro sz
  refine Met.ofW (cc := cc) (maxL := maxL) (ret := some rt) hy hw ?_
  intro p e s m args below meth c s₁ B hml hv
  obtain ⟨rfl, hsz, hP, hX, hD0⟩ := hv
  subst hsz
  have hown : s.vm.findClass y.cls = some m.cls := findClass_of_methodNamed B.named
  have hl := lv_entry av (n := maxL) hlen
  rw [lg_entry_eq]
  exact body p e s m below meth c _ _ s.heap [] ⟨B.exec, B.bytes, hml, hown, atoms_spec (ws := wy) B.pre⟩ B.returns B.notSynchronized hX hP hD0.self (fun q h => Or.inr h) va_S.rf hl
theorem gL.of {l : Launch} {y : MethodName} {wy w0 : List Cond} {rm : Room} {E : gE} {S : Type} {ws : va_W} {ws' : S → va_W} {av : List Value} {post : Int64 → S → Prop} {cc : ByteArray} {maxL : Nat} {rt : FieldType} (hy : plainName y.cls = true) (hw : wy = Cond.code y cc maxL (some rt) :: w0) (hlen : (lg_sl av).length ≤ maxL)
    (body : ∀ (p : Program) (e : Env) (s : State) (m : MethodId) (below : List Frame) (meth : Method) (c : Code) (A : Nat → Prop) (ls : Array Slot) (H : Heap) (locs : List Loc), CallFix p m c cc maxL s av.toArray wy y.cls → meth.sig.returnType = some rt → meth.locks = false → gX E A s s.heap → va_P (eD E) vwCl ws H → va_D A ws → (∀ q, s.heap.size ≤ q → A q) → va_S A s.heap H locs → lv_has ls maxL (lv_args 0 av) →
      W p l e rm s m av.toArray below meth c H locs 0 0 (MQ below (va_Ql post (gR E ws' A) A) av.toArray s 0 0 A) (F0 m 0 ls [])) : gL l y wy rm E ws ws' av post := by
  intro sz
  refine Met.ofW (cc := cc) (maxL := maxL) (ret := some rt) hy hw ?_
  intro p e s m args below meth c s₁ B hml hv
  obtain ⟨rfl, hsz, hP, hX, hD0⟩ := hv
  subst hsz
  have hown : s.vm.findClass y.cls = some m.cls := findClass_of_methodNamed B.named
  have hl := lv_entry av (n := maxL) hlen
  rw [lg_entry_eq]
  exact body p e s m below meth c _ _ s.heap [] ⟨B.exec, B.bytes, hml, hown, atoms_spec (ws := wy) B.pre⟩ B.returns B.notSynchronized hX hP hD0.self (fun q h => Or.inr h) va_S.rf hl
theorem gV.of {l : Launch} {y : MethodName} {wy w0 : List Cond} {rm : Room} {E : gE} {S : Type} {ws : va_W} {ws' : S → va_W} {av : List Value} {post : S → Prop} {cc : ByteArray} {maxL : Nat} (hy : plainName y.cls = true) (hw : wy = Cond.code y cc maxL none :: w0) (hlen : (lg_sl av).length ≤ maxL)
    (body : ∀ (p : Program) (e : Env) (s : State) (m : MethodId) (below : List Frame) (meth : Method) (c : Code) (A : Nat → Prop) (ls : Array Slot) (H : Heap) (locs : List Loc), CallFix p m c cc maxL s av.toArray wy y.cls → meth.sig.returnType = none → meth.locks = false → gX E A s s.heap → va_P (eD E) vwCl ws H → va_D A ws → (∀ q, s.heap.size ≤ q → A q) → va_S A s.heap H locs → lv_has ls maxL (lv_args 0 av) →
      W p l e rm s m av.toArray below meth c H locs 0 0 (MQ below (va_Qv post (gR E ws' A) A) av.toArray s 0 0 A) (F0 m 0 ls [])) : gV l y wy rm E ws ws' av post := by
  intro sz
  refine Met.ofW (cc := cc) (maxL := maxL) (ret := none) hy hw ?_
  intro p e s m args below meth c s₁ B hml hv
  obtain ⟨rfl, hsz, hP, hX, hD0⟩ := hv
  subst hsz
  have hown : s.vm.findClass y.cls = some m.cls := findClass_of_methodNamed B.named
  have hl := lv_entry av (n := maxL) hlen
  rw [lg_entry_eq]
  exact body p e s m below meth c _ _ s.heap [] ⟨B.exec, B.bytes, hml, hown, atoms_spec (ws := wy) B.pre⟩ B.returns B.notSynchronized hX hP hD0.self (fun q h => Or.inr h) va_S.rf hl
theorem fm_of {α β : Type} {f : β → Option α} : ∀ (is : List β) (l : List α), is.map f = l.map some → is.filterMap f = l
  | [], [], _ => rfl
  | [], _ :: _, h => by cases h
  | _ :: _, [], h => by cases h
  | i :: is, a :: l, h => by
    simp only [List.map_cons, List.cons.injEq] at h
    rw [List.filterMap_cons, h.1, fm_of is l h.2]
def bi (b : Bool) : Int32 := bif b then 1 else 0
theorem bi_t : bi true = 1 := rfl
theorem bi_f : bi false = 0 := rfl
theorem bi_fit (b : Bool) : fits .boolean (.int (bi b)) = true := by cases b <;> rfl
theorem bi_nar (b : Bool) : narrow .boolean (.int (bi b)) = .int (bi b) := by cases b <;> rfl
theorem mm {α : Type} {l : List α} {w : α} (i : Nat) (h : l[i]? = some w) : w ∈ l := List.mem_of_getElem? h
def iMin (x y : Int32) : Int32 := if y < x then y else x
def iMax (x y : Int32) : Int32 := if x < y then y else x
section GW
variable {p : Program} {l : Launch} {e : Env} {R : Room} {s : State} {m : MethodId} {args : Array Value} {below : List Frame} {meth : Method} {c : Code} {H : Heap} {locs : List Loc} {cells slots : Nat} {Q : State → Prop}
variable {cc : ByteArray} {pc nL : Nat} {ls : Array Slot} {rest st : List Value} {E : gE} {A : Nat → Prop} {ws wc wr : va_W} {Ts : List Cond} {own : String}
variable {y : MethodName} {wy : List Cond} {rm : Room} {bytes : ByteArray} {maxL n index mc ms : Nat} {ret : Option FieldType} {As : List Value} {b : Nat} {C : String}
/-- the value on top under another name -/
theorem g_top {x : Int32} (x2 : Int32) (h : x = x2) (k : W p l e R s m args below meth c H locs cells slots Q (F0 m pc ls (.int x2 :: rest))) : W p l e R s m args below meth c H locs cells slots Q (F0 m pc ls (.int x :: rest)) := by
  subst h; exact k
theorem g_topl {x : Int64} (x2 : Int64) (h : x = x2) (k : W p l e R s m args below meth c H locs cells slots Q (F0 m pc ls (.long x2 :: rest))) : W p l e R s m args below meth c H locs cells slots Q (F0 m pc ls (.long x :: rest)) := by
  subst h; exact k
/-- branches on a truth -/
theorem g_beq (F : CallFix p m c cc nL s args Ts own) {t : Bool} {off : Int} {tgt : Nat} (hdg : decode cc pc = .ok (.ifCond .eq off, 3)) (ht : (pc : Int) + off = (tgt : Int))
    (kt : t = false → W p l e R s m args below meth c H locs cells slots Q (F0 m tgt ls rest)) (kf : t = true → W p l e R s m args below meth c H locs cells slots Q (F0 m (pc + 3) ls rest)) : W p l e R s m args below meth c H locs cells slots Q (F0 m pc ls (.int (bi t) :: rest)) := by
  refine lv_if_eq F.1 F.2.1 hdg ht (fun h => ?_) (fun h => ?_)
  · cases t
    · exact kt rfl
    · exact absurd h (by decide)
  · cases t
    · exact absurd rfl h
    · exact kf rfl
theorem g_bne (F : CallFix p m c cc nL s args Ts own) {t : Bool} {off : Int} {tgt : Nat} (hdg : decode cc pc = .ok (.ifCond .ne off, 3)) (ht : (pc : Int) + off = (tgt : Int))
    (kt : t = true → W p l e R s m args below meth c H locs cells slots Q (F0 m tgt ls rest)) (kf : t = false → W p l e R s m args below meth c H locs cells slots Q (F0 m (pc + 3) ls rest)) : W p l e R s m args below meth c H locs cells slots Q (F0 m pc ls (.int (bi t) :: rest)) := by
  refine lv_if_ne F.1 F.2.1 hdg ht (fun h => ?_) (fun h => ?_)
  · cases t
    · exact absurd rfl h
    · exact kt rfl
  · cases t
    · exact kf rfl
    · exact absurd h (by decide)
/-- a field read, written -/
theorem g_get (F : CallFix p m c cc nL s args Ts own) (hX : gX E A s s.heap) (hP : va_P (eD E) vwCl ws H) {C : String} {T : u_T} {N ci index a : Nat} (hin : ∀ w ∈ u_ws C T N, w ∈ Ts) (q0 : Nat) {fs : List Value} (he : ws[q0]? = some (a, .inr (ci, fs))) (hc : vwCl[ci]? = some (C, T, N)) (k : Nat) (hk : k < N) (hlink : Cond.fieldLink own index (T k).1 (T k).2.1 (T k).2.2.1 ∈ Ts) {v : Value} (hv : fs[k]? = some v) (hdg : decode cc pc = .ok (.getfield index, 3))
    (kk : W p l e R s m args below meth c H locs cells slots Q (F0 m (pc + 3) ls (v :: rest))) : W p l e R s m args below meth c H locs cells slots Q (F0 m pc ls (.ref a :: rest)) :=
  va_get F.1 F.2.1 F.2.2.2.2 hin F.2.2.2.1 hX.1 hP q0 he hc k hk (F.2.2.2.2 _ hlink) (fun _ h => h) hv hdg kk
theorem g_put (F : CallFix p m c cc nL s args Ts own) (hX : gX E A s s.heap) (hP : va_P (eD E) vwCl ws H) (hD : va_D A ws) (hS : va_S A s.heap H locs) {C : String} {T : u_T} {N ci index a : Nat} (hin : ∀ w ∈ u_ws C T N, w ∈ Ts) (ty0 : Nat → FieldType) (hty : ∀ k, k < N → parseFieldDescriptor (T k).2.2.1 = some (ty0 k)) (hnm : ∀ a, a < N → ∀ b, b < N → a ≠ b → (T a).2.1 ≠ (T b).2.1) (q0 : Nat) {fs : List Value} (he : ws[q0]? = some (a, .inr (ci, fs))) (hc : vwCl[ci]? = some (C, T, N)) (k : Nat) (hk : k < N) (hlink : Cond.fieldLink own index (T k).1 (T k).2.1 (T k).2.2.1 ∈ Ts) (hfin : (T k).2.2.2 = false) {v : Value} (hn : narrow (ty0 k) v = v) (hfit : fits (ty0 k) v = true) (hl : k < fs.length) (hdg : decode cc pc = .ok (.putfield index, 3))
    (kk : ∀ (H1 : Heap) (locs1 : List Loc), va_P (eD E) vwCl (ws.set q0 (a, .inr (ci, fs.set k v))) H1 → va_D A (ws.set q0 (a, .inr (ci, fs.set k v))) → va_S A s.heap H1 locs1 → W p l e R s m args below meth c H1 locs1 cells slots Q (F0 m (pc + 3) ls rest)) : W p l e R s m args below meth c H locs cells slots Q (F0 m pc ls (v :: .ref a :: rest)) :=
  va_put F.1 F.2.1 F.2.2.2.2 hin ty0 hty hnm F.2.2.2.1 hX.1 hP hD hS q0 he hc k hk (F.2.2.2.2 _ hlink) (fun _ h => h) hfin (hty k hk) hn hfit hl hdg kk
theorem g_iald (F : CallFix p m c cc nL s args Ts own) (hX : gX E A s s.heap) (hP : va_P (eD E) vwCl ws H) (q0 : Nat) {a N : Nat} {f : Nat → Int32} (ha : ws[q0]? = some (a, .inl (eI E, N, .inl f))) {i : Int32} {j : Nat} (hi : i = nI j) (hj : j < N) (hN : N < 2 ^ 31) (hdg : decode cc pc = .ok (.iaload, 1))
    (kk : W p l e R s m args below meth c H locs cells slots Q (F0 m (pc + 1) ls (.int (f j) :: rest))) : W p l e R s m args below meth c H locs cells slots Q (F0 m pc ls (.int i :: .ref a :: rest)) := by
  subst hi
  refine va_iald F.1 F.2.1 hX.1 hP q0 0 ha rfl (vp_in_nI hj hN) hdg ?_
  rw [nI_clamp (Nat.lt_trans hj hN)]
  exact kk
theorem g_lald (F : CallFix p m c cc nL s args Ts own) (hX : gX E A s s.heap) (hP : va_P (eD E) vwCl ws H) (q0 : Nat) {a N : Nat} {f : Nat → Int64} (ha : ws[q0]? = some (a, .inl (eJ E, N, .inr (.inl f)))) {i : Int32} {j : Nat} (hi : i = nI j) (hj : j < N) (hN : N < 2 ^ 31) (hdg : decode cc pc = .ok (.laload, 1))
    (kk : W p l e R s m args below meth c H locs cells slots Q (F0 m (pc + 1) ls (.long (f j) :: rest))) : W p l e R s m args below meth c H locs cells slots Q (F0 m pc ls (.int i :: .ref a :: rest)) := by
  subst hi
  refine va_lald F.1 F.2.1 hX.1 hP q0 1 ha rfl (vp_in_nI hj hN) hdg ?_
  rw [nI_clamp (Nat.lt_trans hj hN)]
  exact kk
theorem g_iast (F : CallFix p m c cc nL s args Ts own) (hX : gX E A s s.heap) (hP : va_P (eD E) vwCl ws H) (hD : va_D A ws) (hS : va_S A s.heap H locs) (q0 : Nat) {a N : Nat} {f : Nat → Int32} (ha : ws[q0]? = some (a, .inl (eI E, N, .inl f))) {i x : Int32} {j : Nat} (hi : i = nI j) (hj : j < N) (hN : N < 2 ^ 31) (hdg : decode cc pc = .ok (.iastore, 1))
    (kk : ∀ (H1 : Heap) (locs1 : List Loc), va_P (eD E) vwCl (ws.set q0 (a, .inl (eI E, N, .inl (upd f j x)))) H1 → va_D A (ws.set q0 (a, .inl (eI E, N, .inl (upd f j x)))) → va_S A s.heap H1 locs1 → W p l e R s m args below meth c H1 locs1 cells slots Q (F0 m (pc + 1) ls rest)) : W p l e R s m args below meth c H locs cells slots Q (F0 m pc ls (.int x :: .int i :: .ref a :: rest)) := by
  subst hi
  refine va_iast F.1 F.2.1 hX.1 hP hD hS q0 0 ha rfl (vp_in_nI hj hN) hdg ?_
  rw [nI_clamp (Nat.lt_trans hj hN)]
  exact kk
theorem g_last (F : CallFix p m c cc nL s args Ts own) (hX : gX E A s s.heap) (hP : va_P (eD E) vwCl ws H) (hD : va_D A ws) (hS : va_S A s.heap H locs) (q0 : Nat) {a N : Nat} {f : Nat → Int64} (ha : ws[q0]? = some (a, .inl (eJ E, N, .inr (.inl f)))) {i : Int32} {x : Int64} {j : Nat} (hi : i = nI j) (hj : j < N) (hN : N < 2 ^ 31) (hdg : decode cc pc = .ok (.lastore, 1))
    (kk : ∀ (H1 : Heap) (locs1 : List Loc), va_P (eD E) vwCl (ws.set q0 (a, .inl (eJ E, N, .inr (.inl (vp_updL f j x))))) H1 → va_D A (ws.set q0 (a, .inl (eJ E, N, .inr (.inl (vp_updL f j x))))) → va_S A s.heap H1 locs1 → W p l e R s m args below meth c H1 locs1 cells slots Q (F0 m (pc + 1) ls rest)) : W p l e R s m args below meth c H locs cells slots Q (F0 m pc ls (.long x :: .int i :: .ref a :: rest)) := by
  subst hi
  refine va_last F.1 F.2.1 hX.1 hP hD hS q0 1 ha rfl (vp_in_nI hj hN) hdg ?_
  rw [nI_clamp (Nat.lt_trans hj hN)]
  exact kk
/-- calls: what the callee gets -/
theorem g_give (hX : gX E A s s.heap) (hP : va_P (eD E) vwCl ws H) (hD : va_D A ws) (hS : va_S A s.heap H locs) (hA : ∀ q, s.heap.size ≤ q → A q) (isC : List Nat) (hC : isC.map (fun i => ws[i]?) = wc.map some) (hnd : va_nd isC = true) :
    ∀ U : State, U.heap = H → s.WarmedH U.vm → gP E wc H.size U := by
  intro U hU hW
  have hFc := va_free hD hS hA isC hC
  refine ⟨by rw [hU], by rw [hU]; exact hP.sub isC (fm_of isC wc hC), ?_, (hD.sub isC hnd hC).weaken (fun _ _ _ _ => trivial)⟩
  rw [hU]
  exact ((hX.kept (fun a h1 h2 => hS.2.1 a h1 h2)).narrow hFc).warm hW
theorem g_runV (F : CallFix p m c cc nL s args Ts own) (hX : gX E A s s.heap) (hP : va_P (eD E) vwCl ws H) (hD : va_D A ws) (hS : va_S A s.heap H locs) (hA : ∀ q, s.heap.size ≤ q → A q) {Qc : Array Value → State → Outcome → State → Prop} {free : Addr → Prop} {mc ms : Nat}
    (hM : Met l y wy rm (va_Pc (.ref b :: As) (gP E wc H.size)) Qc mc ms free) (cw : CallW R s args own C index y bytes maxL ret wy rm mc ms n) (isC : List Nat) (hC : isC.map (fun i => ws[i]?) = wc.map some) (hnd : va_nd isC = true) {ci q0 N : Nat} {T : u_T} {fs : List Value} (hc : vwCl[ci]? = some (C, T, N)) (hb0 : ws[q0]? = some (b, .inr (ci, fs))) (hn : As.length = n) (hsz : ls.size = nL) (hstack : st = As.reverse ++ .ref b :: rest) (hroom : (rest.map fun v => v.category).sum ≤ 8) (hdg : decode cc pc = .ok (.invokevirtual index, 3)) (hf : cells + mc ≤ R.cells ∧ slots + ms ≤ R.slots) :
    va_Run p l e R s m args below meth c H locs cells slots mc ms (F0 m pc ls st) rest (Qc (Value.ref b :: As).toArray) free :=
  va_runV F hM cw ⟨gP.blind, va_recv hX.1 hP hc hb0, fun U hU hW => ⟨rfl, g_give hX hP hD hS hA isC hC hnd U hU hW⟩⟩ rfl hn hsz hstack (lv_room hroom) hdg hf
theorem g_runS (F : CallFix p m c cc nL s args Ts own) (hX : gX E A s s.heap) (hP : va_P (eD E) vwCl ws H) (hD : va_D A ws) (hS : va_S A s.heap H locs) (hA : ∀ q, s.heap.size ≤ q → A q) {Qc : Array Value → State → Outcome → State → Prop} {free : Addr → Prop} {mc ms : Nat}
    (hM : Met l y wy rm (va_Pc As (gP E wc H.size)) Qc mc ms free) (cw : CallB R s args own index y bytes maxL ret wy rm mc ms n ∧ (Cond.static y).before args s = true) (isC : List Nat) (hC : isC.map (fun i => ws[i]?) = wc.map some) (hnd : va_nd isC = true) (hn : As.length = n) (hsz : ls.size = nL) (hstack : st = As.reverse ++ rest) (hroom : (rest.map fun v => v.category).sum ≤ 8) (hdg : decode cc pc = .ok (.invokestatic index, 3)) (hf : cells + mc ≤ R.cells ∧ slots + ms ≤ R.slots) :
    va_Run p l e R s m args below meth c H locs cells slots mc ms (F0 m pc ls st) rest (Qc As.toArray) free :=
  va_runS F hM cw ⟨gP.blind, fun U hU hW => ⟨rfl, g_give hX hP hD hS hA isC hC hnd U hU hW⟩⟩ rfl hn hsz hstack (lv_room hroom) hdg hf
theorem g_runSN (F : CallFix p m c cc nL s args Ts own) (hX : gX E A s s.heap) (hP : va_P (eD E) vwCl ws H) (hD : va_D A ws) (hS : va_S A s.heap H locs) (hA : ∀ q, s.heap.size ≤ q → A q) {Qc : Array Value → State → Outcome → State → Prop} {free : Addr → Prop} {host : String} {mc ms : Nat}
    (hM : Met l y wy rm (va_Pc As (gP E wc H.size)) Qc mc ms free) (cw : va_CN R s args own index y host bytes maxL ret wy rm mc ms n ∧ (Cond.static y).before args s = true ∧ True) (isC : List Nat) (hC : isC.map (fun i => ws[i]?) = wc.map some) (hnd : va_nd isC = true) (hn : As.length = n) (hsz : ls.size = nL) (hstack : st = As.reverse ++ rest) (hroom : (rest.map fun v => v.category).sum ≤ 8) (hdg : decode cc pc = .ok (.invokestatic index, 3)) (hf : cells + mc ≤ R.cells ∧ slots + ms ≤ R.slots) :
    va_Run p l e R s m args below meth c H locs cells slots mc ms (F0 m pc ls st) rest (Qc As.toArray) free :=
  va_runSN F hM cw ⟨gP.blind, fun U hU hW => ⟨rfl, g_give hX hP hD hS hA isC hC hnd U hU hW⟩⟩ rfl hn hsz hstack (lv_room hroom) hdg hf
/-- calls: what comes back; the rest is as it was -/
theorem g_back {S : Type} {ws' : S → va_W} {u : S} {t : State} {H1 : Heap} (hP : va_P (eD E) vwCl ws H) (hD : va_D A ws) (hS : va_S A s.heap H locs) (hA : ∀ q, s.heap.size ≤ q → A q) (isC isR : List Nat) (hC : isC.map (fun i => ws[i]?) = wc.map some) (hR : isR.map (fun i => ws[i]?) = wr.map some) (hn : va_nd isR = true) (hdis : ∀ i ∈ isR, i ∉ isC) (ht : t.heap = H1) (hk : ∀ q : Nat, q < H.size → ¬ va_A wc H.size q → H1[q]? = H[q]?) (hB : gR E ws' (va_A wc H.size) u t) : va_P (eD E) vwCl (wr ++ ws' u) H1 ∧ va_D A (wr ++ ws' u) := by
  obtain ⟨hP1, hD1⟩ := hB
  rw [ht] at hP1
  exact va_join hP hD isC isR hC hR hn hdis hk (va_free hD hS hA isC hC) hP1 hD1
theorem g_goI {S : Type} {post : Int32 → S → Prop} {ws' : S → va_W} {a : Array Value} (hr : va_Run p l e R s m args below meth c H locs cells slots 0 0 (F0 m pc ls st) rest (va_Qi post (gR E ws' (va_A wc H.size)) (va_A wc H.size) a) (va_A wc H.size)) (hP : va_P (eD E) vwCl ws H) (hD : va_D A ws) (hS : va_S A s.heap H locs) (hA : ∀ q, s.heap.size ≤ q → A q) (isC isR : List Nat) (hC : isC.map (fun i => ws[i]?) = wc.map some) (hR : isR.map (fun i => ws[i]?) = wr.map some) (hn : va_nd isR = true) (hdis : ∀ i ∈ isR, i ∉ isC)
    (kk : ∀ (r : Int32) (u : S) (H1 : Heap) (locs1 : List Loc), post r u → va_P (eD E) vwCl (wr ++ ws' u) H1 → va_D A (wr ++ ws' u) → va_S A s.heap H1 locs1 → W p l e R s m args below meth c H1 locs1 cells slots Q (F0 m (pc + 3) ls (.int r :: rest))) : W p l e R s m args below meth c H locs cells slots Q (F0 m pc ls st) := by
  have hFc := va_free hD hS hA isC hC
  refine va_calli hr hS (fun q _ h => hFc q h) hFc (fun r u t H1 locs1 ht hvm hw hB hz1 hk1 hS1 => ?_)
  obtain ⟨hP2, hD2⟩ := g_back hP hD hS hA isC isR hC hR hn hdis ht hk1 hB
  exact kk r u H1 locs1 hw hP2 hD2 hS1
theorem g_goL {S : Type} {post : Int64 → S → Prop} {ws' : S → va_W} {a : Array Value} (hr : va_Run p l e R s m args below meth c H locs cells slots 0 0 (F0 m pc ls st) rest (va_Ql post (gR E ws' (va_A wc H.size)) (va_A wc H.size) a) (va_A wc H.size)) (hP : va_P (eD E) vwCl ws H) (hD : va_D A ws) (hS : va_S A s.heap H locs) (hA : ∀ q, s.heap.size ≤ q → A q) (isC isR : List Nat) (hC : isC.map (fun i => ws[i]?) = wc.map some) (hR : isR.map (fun i => ws[i]?) = wr.map some) (hn : va_nd isR = true) (hdis : ∀ i ∈ isR, i ∉ isC)
    (kk : ∀ (r : Int64) (u : S) (H1 : Heap) (locs1 : List Loc), post r u → va_P (eD E) vwCl (wr ++ ws' u) H1 → va_D A (wr ++ ws' u) → va_S A s.heap H1 locs1 → W p l e R s m args below meth c H1 locs1 cells slots Q (F0 m (pc + 3) ls (.long r :: rest))) : W p l e R s m args below meth c H locs cells slots Q (F0 m pc ls st) := by
  have hFc := va_free hD hS hA isC hC
  refine va_calll hr hS (fun q _ h => hFc q h) hFc (fun r u t H1 locs1 ht hvm hw hB hz1 hk1 hS1 => ?_)
  obtain ⟨hP2, hD2⟩ := g_back hP hD hS hA isC isR hC hR hn hdis ht hk1 hB
  exact kk r u H1 locs1 hw hP2 hD2 hS1
theorem g_goV {S : Type} {post : S → Prop} {ws' : S → va_W} {a : Array Value} (hr : va_Run p l e R s m args below meth c H locs cells slots 0 0 (F0 m pc ls st) rest (va_Qv post (gR E ws' (va_A wc H.size)) (va_A wc H.size) a) (va_A wc H.size)) (hP : va_P (eD E) vwCl ws H) (hD : va_D A ws) (hS : va_S A s.heap H locs) (hA : ∀ q, s.heap.size ≤ q → A q) (isC isR : List Nat) (hC : isC.map (fun i => ws[i]?) = wc.map some) (hR : isR.map (fun i => ws[i]?) = wr.map some) (hn : va_nd isR = true) (hdis : ∀ i ∈ isR, i ∉ isC)
    (kk : ∀ (u : S) (H1 : Heap) (locs1 : List Loc), post u → va_P (eD E) vwCl (wr ++ ws' u) H1 → va_D A (wr ++ ws' u) → va_S A s.heap H1 locs1 → W p l e R s m args below meth c H1 locs1 cells slots Q (F0 m (pc + 3) ls rest)) : W p l e R s m args below meth c H locs cells slots Q (F0 m pc ls st) := by
  have hFc := va_free hD hS hA isC hC
  refine va_callv hr hS (fun q _ h => hFc q h) hFc (fun u t H1 locs1 ht hvm hw hB hz1 hk1 hS1 => ?_)
  obtain ⟨hP2, hD2⟩ := g_back hP hD hS hA isC isR hC hR hn hdis ht hk1 hB
  exact kk u H1 locs1 hw hP2 hD2 hS1
/-- a call that changes nothing -/
theorem g_same {S : Type} {u : S} {t : State} {H1 : Heap} (hP : va_P (eD E) vwCl ws H) (hD : va_D A ws) (isC : List Nat) (hC : isC.map (fun i => ws[i]?) = wc.map some) (ht : t.heap = H1) (hk : ∀ q : Nat, q < H.size → ¬ va_A wc H.size q → H1[q]? = H[q]?) (hB : gR E (fun _ : S => wc) (va_A wc H.size) u t) : va_P (eD E) vwCl ws H1 := by
  obtain ⟨hP1, -⟩ := hB
  rw [ht] at hP1
  intro k q hq
  by_cases hin : ∃ (j : Nat) (x : va_E), wc[j]? = some (q.1, x)
  · obtain ⟨j, x, hj⟩ := hin
    have h1 : (wc.map some)[j]? = some (some (q.1, x)) := by rw [List.getElem?_map, hj]; rfl
    rw [← hC, List.getElem?_map] at h1
    cases hi : isC[j]? with
    | none => rw [hi] at h1; cases h1
    | some i =>
      rw [hi] at h1
      have h2 : ws[i]? = some (q.1, x) := Option.some.inj h1
      have e : k = i := hD.1 k i q (q.1, x) hq h2 rfl
      subst e
      rw [hq] at h2
      exact hP1 j q (hj.trans h2.symm)
  · exact (hP k q hq).kept (hk q.1 ((hP k q hq).lt) (fun h => by
      rcases h with h | h
      · exact hin h
      · exact absurd ((hP k q hq).lt) (Nat.not_lt.mpr h)))
theorem g_goIr {S : Type} {post : Int32 → S → Prop} {a : Array Value} (hr : va_Run p l e R s m args below meth c H locs cells slots 0 0 (F0 m pc ls st) rest (va_Qi post (gR E (fun _ : S => wc) (va_A wc H.size)) (va_A wc H.size) a) (va_A wc H.size)) (hP : va_P (eD E) vwCl ws H) (hD : va_D A ws) (hS : va_S A s.heap H locs) (hA : ∀ q, s.heap.size ≤ q → A q) (isC : List Nat) (hC : isC.map (fun i => ws[i]?) = wc.map some)
    (kk : ∀ (r : Int32) (u : S) (H1 : Heap) (locs1 : List Loc), post r u → va_P (eD E) vwCl ws H1 → va_S A s.heap H1 locs1 → W p l e R s m args below meth c H1 locs1 cells slots Q (F0 m (pc + 3) ls (.int r :: rest))) : W p l e R s m args below meth c H locs cells slots Q (F0 m pc ls st) := by
  have hFc := va_free hD hS hA isC hC
  refine va_calli hr hS (fun q _ h => hFc q h) hFc (fun r u t H1 locs1 ht hvm hw hB hz1 hk1 hS1 => ?_)
  exact kk r u H1 locs1 hw (g_same hP hD isC hC ht hk1 hB) hS1
theorem g_goLr {S : Type} {post : Int64 → S → Prop} {a : Array Value} (hr : va_Run p l e R s m args below meth c H locs cells slots 0 0 (F0 m pc ls st) rest (va_Ql post (gR E (fun _ : S => wc) (va_A wc H.size)) (va_A wc H.size) a) (va_A wc H.size)) (hP : va_P (eD E) vwCl ws H) (hD : va_D A ws) (hS : va_S A s.heap H locs) (hA : ∀ q, s.heap.size ≤ q → A q) (isC : List Nat) (hC : isC.map (fun i => ws[i]?) = wc.map some)
    (kk : ∀ (r : Int64) (u : S) (H1 : Heap) (locs1 : List Loc), post r u → va_P (eD E) vwCl ws H1 → va_S A s.heap H1 locs1 → W p l e R s m args below meth c H1 locs1 cells slots Q (F0 m (pc + 3) ls (.long r :: rest))) : W p l e R s m args below meth c H locs cells slots Q (F0 m pc ls st) := by
  have hFc := va_free hD hS hA isC hC
  refine va_calll hr hS (fun q _ h => hFc q h) hFc (fun r u t H1 locs1 ht hvm hw hB hz1 hk1 hS1 => ?_)
  exact kk r u H1 locs1 hw (g_same hP hD isC hC ht hk1 hB) hS1
/-- ends -/
theorem g_reti {S : Type} {post : Int32 → S → Prop} {ws' : S → va_W} {w : va_W} {v : Int32} {ty : FieldType} (F : CallFix p m c cc nL s args Ts own) (hr : meth.sig.returnType = some ty) (hlk : meth.locks = false) (hn : narrow ty (.int v) = .int v) (hS : va_S A s.heap H locs) (hP : va_P (eD E) vwCl w H) (hD : va_D A w) (u : S) (hw : w = ws' u) (hq : post v u) (hdg : decode cc pc = .ok (.ireturn, 1)) :
    W p l e R s m args below meth c H locs 0 0 (MQ below (va_Qi post (gR E ws' A) A) args s 0 0 A) (F0 m pc ls [.int v]) := by
  subst hw
  exact W.zret F.1 F.2.1 hr hn (fun t ht hW => ⟨⟨v, u, rfl, hq, by rw [ht]; exact hP, hD⟩, hS.F ht⟩) hS.2.2 hdg hlk
theorem g_retl {S : Type} {post : Int64 → S → Prop} {ws' : S → va_W} {w : va_W} {v : Int64} (F : CallFix p m c cc nL s args Ts own) (hr : meth.sig.returnType = some .long) (hlk : meth.locks = false) (hS : va_S A s.heap H locs) (hP : va_P (eD E) vwCl w H) (hD : va_D A w) (u : S) (hw : w = ws' u) (hq : post v u) (hdg : decode cc pc = .ok (.lreturn, 1)) :
    W p l e R s m args below meth c H locs 0 0 (MQ below (va_Ql post (gR E ws' A) A) args s 0 0 A) (F0 m pc ls [.long v]) := by
  subst hw
  exact W.lret F.1 F.2.1 hr (fun t ht hW => ⟨⟨v, u, rfl, hq, by rw [ht]; exact hP, hD⟩, hS.F ht⟩) hS.2.2 hdg hlk
theorem g_retv {S : Type} {post : S → Prop} {ws' : S → va_W} {w : va_W} (F : CallFix p m c cc nL s args Ts own) (hr : meth.sig.returnType = none) (hlk : meth.locks = false) (hS : va_S A s.heap H locs) (hP : va_P (eD E) vwCl w H) (hD : va_D A w) (u : S) (hw : w = ws' u) (hq : post u) (hdg : decode cc pc = .ok (.return_, 1)) :
    W p l e R s m args below meth c H locs 0 0 (MQ below (va_Qv post (gR E ws' A) A) args s 0 0 A) (F0 m pc ls []) := by
  subst hw
  exact W.vret F.1 F.2.1 hr (fun t ht hW => ⟨⟨u, rfl, hq, by rw [ht]; exact hP, hD⟩, hS.F ht⟩) hS.2.2 hdg hlk
/-- Math.min, Math.max, arraycopy, rows of references -/
theorem g_mmin (F : CallFix p m c cc nL s args Ts own) {lv : List (Nat × Value)} (hl : lv_has ls nL lv) {index : Nat} (hlink : Cond.methodLink own index Lib.Math.min.name ∈ Ts) (hstat : Cond.static Lib.Math.min.name ∈ Ts) (hini : Cond.initialized "java/lang/Math" ∈ Ts) (hcode : Cond.code Lib.Math.min.name Lib.Math.min.code 2 (some .int) ∈ Ts) (hframes : 1 ≤ R.frames) (hlocals : (rest.map fun v => v.category).sum + 13 ≤ R.locals) {x y : Int32} (hdg : decode cc pc = .ok (.invokestatic index, 3))
    (kk : W p l e R s m args below meth c H locs 0 0 Q (F0 m (pc + 3) ls (.int (iMin x y) :: rest))) : W p l e R s m args below meth c H locs 0 0 Q (F0 m pc ls (.int y :: .int x :: rest)) :=
  va_mmin F.1 F.2.1 (F.2.2.1.trans hl.1.symm) F.2.2.2.1 (F.2.2.2.2 _ hlink) (F.2.2.2.2 _ hstat) (F.2.2.2.2 _ hini) (F.2.2.2.2 _ hcode) hframes hlocals (Nat.zero_le _) (Nat.zero_le _) hdg kk
theorem g_mmax (F : CallFix p m c cc nL s args Ts own) {lv : List (Nat × Value)} (hl : lv_has ls nL lv) {index : Nat} (hlink : Cond.methodLink own index Lib.Math.max.name ∈ Ts) (hstat : Cond.static Lib.Math.max.name ∈ Ts) (hini : Cond.initialized "java/lang/Math" ∈ Ts) (hcode : Cond.code Lib.Math.max.name Lib.Math.max.code 2 (some .int) ∈ Ts) (hframes : 1 ≤ R.frames) (hlocals : (rest.map fun v => v.category).sum + 13 ≤ R.locals) {x y : Int32} (hdg : decode cc pc = .ok (.invokestatic index, 3))
    (kk : W p l e R s m args below meth c H locs 0 0 Q (F0 m (pc + 3) ls (.int (iMax x y) :: rest))) : W p l e R s m args below meth c H locs 0 0 Q (F0 m pc ls (.int y :: .int x :: rest)) :=
  va_mmax F.1 F.2.1 (F.2.2.1.trans hl.1.symm) F.2.2.2.1 (F.2.2.2.2 _ hlink) (F.2.2.2.2 _ hstat) (F.2.2.2.2 _ hini) (F.2.2.2.2 _ hcode) hframes hlocals (Nat.zero_le _) (Nat.zero_le _) hdg kk
theorem g_aald (F : CallFix p m c cc nL s args Ts own) (hX : gX E A s s.heap) (hP : va_P (eD E) vwCl ws H) (q0 : Nat) {a N : Nat} {f : Nat → Option Nat} (ha : ws[q0]? = some (a, .inl (eS E, N, .inr (.inr (.inr (.inr f)))))) {i : Int32} {j : Nat} (hi : i = nI j) (hj : j < N) (hN : N < 2 ^ 31) {v : Nat} (hf : f j = some v) (hdg : decode cc pc = .ok (.aaload, 1))
    (kk : W p l e R s m args below meth c H locs cells slots Q (F0 m (pc + 1) ls (.ref v :: rest))) : W p l e R s m args below meth c H locs cells slots Q (F0 m pc ls (.int i :: .ref a :: rest)) := by
  subst hi
  refine va_aldq F.1 F.2.1 hX.1 hP q0 2 ha rfl (vp_in_nI hj hN) hdg ?_
  rw [nI_clamp (Nat.lt_trans hj hN), hf]
  exact kk
theorem g_copyi (F : CallFix p m c cc nL s args Ts own) {lv : List (Nat × Value)} (hl : lv_has ls nL lv) (hX : gX E A s s.heap) {index : Nat} (hlink : Cond.methodLink own index arraycopyName ∈ Ts) (hnat : Cond.native arraycopyName ∈ Ts) (hstat : Cond.static arraycopyName ∈ Ts) (hini : Cond.initialized "java/lang/System" ∈ Ts) (hP : va_P (eD E) vwCl ws H) (hD : va_D A ws) (hS : va_S A s.heap H locs) (q0 q1 : Nat) {a a0 n0 n1 : Nat} {f g : Nat → Int32} (ha0 : ws[q0]? = some (a0, .inl (eI E, n0, .inl f))) (ha1 : ws[q1]? = some (a, .inl (eI E, n1, .inl g))) {x y z : Int32} {sp dp n : Nat} (hx : x = nI sp) (hy : y = nI dp) (hz : z = nI n) (h4 : sp + n ≤ n0 ∧ n0 < 2 ^ 31) (h5 : dp + n ≤ n1 ∧ n1 < 2 ^ 31) (hframes : 1 ≤ R.frames) (hlocals : (rest.map fun v => v.category).sum + 18 ≤ R.locals) (hdg : decode cc pc = .ok (.invokestatic index, 3))
    (kk : ∀ (H1 : Heap) (locs1 : List Loc), va_P (eD E) vwCl (ws.set q1 (a, .inl (eI E, n1, .inl (va_cpy f g sp dp n)))) H1 → va_D A (ws.set q1 (a, .inl (eI E, n1, .inl (va_cpy f g sp dp n)))) → va_S A s.heap H1 locs1 → W p l e R s m args below meth c H1 locs1 cells slots Q (F0 m (pc + 3) ls rest)) : W p l e R s m args below meth c H locs cells slots Q (F0 m pc ls (.int z :: .int y :: .ref a :: .int x :: .ref a0 :: rest)) := by
  subst hx; subst hy; subst hz
  have e1 : (nI sp).toNatClampNeg = sp := nI_clamp (by omega)
  have e2 : (nI dp).toNatClampNeg = dp := nI_clamp (by omega)
  have e3 : (nI n).toNatClampNeg = n := nI_clamp (by omega)
  refine va_copyi F.1 F.2.1 (F.2.2.1.trans hl.1.symm) F.2.2.2.1 (F.2.2.2.2 _ hlink) (F.2.2.2.2 _ hnat) (F.2.2.2.2 _ hstat) (F.2.2.2.2 _ hini) hX.1 hP hD hS q0 q1 0 0 ha0 ha1 rfl rfl rfl (nI_pos (by omega)) (nI_pos (by omega)) (nI_pos (by omega)) (by rw [e1, e3]; exact h4.1) (by rw [e2, e3]; exact h5.1) (fun _ _ => rfl) hframes (by rw [show nativeFrameWords "java/lang/System" "arraycopy" 5 = 7 from by decide]; exact hlocals) hdg ?_
  rw [e1, e2, e3]
  exact kk
end GW
theorem t_out (x : Int32) (lo hi : Int) (h : ∀ k : Int, lo ≤ k → k ≤ hi → ¬ x = Int32.ofInt k) : x.toInt < lo ∨ hi < x.toInt := by
  rcases Int.lt_or_le x.toInt lo with a | a
  · exact Or.inl a
  · rcases Int.lt_or_le hi x.toInt with b | b
    · exact Or.inr b
    · exact absurd (Int32.ofInt_toInt x).symm (h x.toInt a b)
