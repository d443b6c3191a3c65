/-! ===== the base: one parameter G for classes, array classes, statics, strings; one precondition; calls ===== -/
abbrev GT : Type := va_G × (Nat → Nat) × (Nat → Nat) × (Nat → Nat) × (Nat → Nat)
abbrev tyG (G : GT) : List (ClassId × FieldType) := [(G.2.1 0, .byte), (G.2.1 1, .char), (G.2.1 2, .int), (G.2.1 3, .long)]
def nestL : List (String × Nat × MethodName × String) := [(RX6, 11, yX3_init, "GateSums"), (RX3, 11, yX5_init, "GateSums"), (RX6, 18, yX0_init, "GateSums"), (RX6, 28, yX1_init, "GateSums"), (RX6, 38, yX4_init, "GateSums"), (RX4, 23, yX2_init, "GateSums"), (RX0, 38, yX6_put, "GateSums"), (RX0, 83, yX6_at, "GateSums"), (RX4, 76, yX6_setOf, "GateSums"), (RX2, 26, yX6_at, "GateSums"), (RX2, 38, yX6_put, "GateSums"), (RX4, 64, yX6_at, "GateSums"), (RX4, 59, yX6_put, "GateSums")]
def NW (U : State) : Prop := ∀ (k : Nat) (q : String × Nat × MethodName × String), nestL[k]? = some q → va_Nw (.methodLinkNest q.1 q.2.1 q.2.2.1 q.2.2.2) U
theorem NW.warm {s U : State} (hW : s.WarmedH U.vm) (h : NW s) : NW U := fun k q hq => va_Nw.warmM hW (h k q hq)
theorem NW.same {u U : State} (hv : u.vm = U.vm) (h : NW u) : NW U := fun k q hq => va_Nw.same rfl hv (h k q hq)
def stL : List (String × String × String × FieldType × List Value) := [
  ("GateSums$Columns", "INPUT_COLUMNS", "[J", .long, [.long (-6148914691236517206), .long (-3689348814741910324), .long (-1085102592571150096), .long (-71777214294589696), .long (-281470681808896), .long (-4294967296)]),
  ("GateSums$Stages", "TASK_OF_A", "[I", .int, [.int 1, .int 0, .int 0, .int 3]),
  ("GateSums$Stages", "TASK_OF_B", "[I", .int, [.int 1, .int 0, .int 1, .int (-1)]),
  ("GateSums$Stages", "OF_ONE", "[I", .int, [.int 1, .int 0, .int 0, .int 0, .int 1, .int 1, .int 1, .int 0]),
  ("GateSums$Stages", "OF_X", "[I", .int, [.int (-1), .int 0, .int 1, .int 1, .int 0, .int (-1), .int (-1), .int 1]),
  ("GateSums$Stages", "OF_Y", "[I", .int, [.int 0, .int 0, .int 1, .int 1, .int 0, .int (-1), .int (-1), .int 0]),
  ("GateSums$Stages", "OF_BOTH", "[I", .int, [.int 0, .int 1, .int (-1), .int (-2), .int (-1), .int 1, .int 2, .int (-1)])]
def strL : List (Nat × String × List Int32) := [(44, "in", [105, 110]), (64, "g", [103]), (107, "not", [110, 111, 116]), (109, "and", [97, 110, 100]), (111, "or", [111, 114]), (113, "xor", [120, 111, 114]), (115, "nand", [110, 97, 110, 100]), (117, "nor", [110, 111, 114]), (119, "xnor", [120, 110, 111, 114]), (121, "but", [98, 117, 116]), (80, "out", [111, 117, 116]), (85, "task", [116, 97, 115, 107]), (123, "sum", [115, 117, 109]), (125, "product", [112, 114, 111, 100, 117, 99, 116]), (127, "square", [115, 113, 117, 97, 114, 101]), (129, "triple", [116, 114, 105, 112, 108, 101])]
def EVs (G : GT) (A : Nat → Prop) (U : State) (H : Heap) : Prop := ∀ (k : Nat) (q : String × String × String × FieldType × List Value), stL[k]? = some q → va_Z q.1 q.2.1 q.2.2.1 (.ref (G.2.2.1 k)) A U H ∧ va_T q.2.2.2.1 (G.2.2.1 k) q.2.2.2.2.length (fun j => q.2.2.2.2.getD j .null) A U H
def EVt (G : GT) (U : State) : Prop := ∀ (k : Nat) (q : Nat × String × List Int32), strL[k]? = some q → vk_R RX3 q.1 q.2.1 (G.2.2.2.1 k) U
def EV (G : GT) (A : Nat → Prop) (U : State) (H : Heap) : Prop := EVs G A U H ∧ vk_S 16 (strL.map fun q => q.2.2.length) (strL.map fun q => q.2.2) G.2.2.2.1 G.2.2.2.2 A U H ∧ EVt G U ∧ va_Z "java/lang/String" "COMPACT_STRINGS" "Z" (.int 1) A U H ∧ va_Zq "jdk/internal/util/Preconditions" "SIOOBE_FORMATTER" "Ljava/util/function/BiFunction;" A U H
abbrev slen (k : Nat) : Nat := (strL.map fun q => q.2.2.length).getD k 0
abbrev sbyt (k j : Nat) : Int32 := ((strL.map fun q => q.2.2).getD k []).getD j 0
theorem EV.to {G : GT} {A B : Nat → Prop} {s U : State} {H : Heap} {locs : List Loc} (h : EV G A s s.heap) (hS : va_S A s.heap H locs) (hAB : ∀ q, B q → A q) (hW : s.WarmedH U.vm) : EV G B U H := by
  refine ⟨fun k q hq => ⟨?_, ?_⟩, ?_, fun k q hq => vk_R.warm hW (h.2.2.1 k q hq), ?_, ?_⟩
  · exact va_Z.moved hW.alike (((h.1 k q hq).1.kept hS.2.1).narrow hAB)
  · exact va_T.moved hW.alike (((h.1 k q hq).2.kept hS.2.1).narrow hAB)
  · exact vk_S.moved hW.alike ((h.2.1.kept hS.2.1).narrow hAB)
  · exact va_Z.moved hW.alike ((h.2.2.2.1.kept hS.2.1).narrow hAB)
  · exact va_Zq.moved hW.alike ((h.2.2.2.2.kept hS.2.1).narrow hAB)
theorem EV.same {G : GT} {A : Nat → Prop} {u U : State} {H : Heap} (hv : u.vm = U.vm) (h : EV G A u H) : EV G A U H := by
  have ha : u.vm.Alike U.vm := by rw [hv]; exact Vm.Alike.refl _
  exact ⟨fun k q hq => ⟨va_Z.moved ha (h.1 k q hq).1, va_T.moved ha (h.1 k q hq).2⟩, vk_S.moved ha h.2.1, fun k q hq => vk_R.same hv.symm (h.2.2.1 k q hq), va_Z.moved ha h.2.2.2.1, va_Zq.moved ha h.2.2.2.2⟩
def wPre (G : GT) (ws : va_W) (sz : Nat) (U : State) : Prop := U.heap.size = sz ∧ va_P G.1 vwCl ws U.heap ∧ va_K G.1 vwCl (tyG G) U ∧ va_D (fun _ => True) ws ∧ NW U ∧ EV G (va_A ws sz) U U.heap
theorem wPre_blind {G : GT} {ws : va_W} {sz : Nat} {av : List Value} : FrameBlind (va_Pc av (wPre G ws sz)) := fun a U g mk q => by
  obtain ⟨q0, q1, q2, q3, q4, q5, q6⟩ := q
  exact ⟨q0, q1, q2, va_K.moved (u := U) (U := U.calling g mk a) (Vm.Alike.refl U.vm) q3, q4, NW.same (u := U) (U := U.calling g mk a) rfl q5, EV.same (u := U) (U := U.calling g mk a) rfl q6⟩
def Cx (G : GT) (A : Nat → Prop) (s : State) : Prop := va_K G.1 vwCl (tyG G) s ∧ NW s ∧ EV G A s s.heap ∧ ∀ q, s.heap.size ≤ q → A q
def Wd (G : GT) (A : Nat → Prop) (s : State) (ws : va_W) (H : Heap) (locs : List Loc) : Prop := va_P G.1 vwCl ws H ∧ va_D A ws ∧ va_S A s.heap H locs
theorem fm_of_map {ws wc : va_W} : ∀ (is : List Nat), is.map (fun i => ws[i]?) = wc.map some → is.filterMap (fun i => ws[i]?) = wc := by
  intro is h
  have e : is.filterMap (fun i => ws[i]?) = (is.map (fun i => ws[i]?)).filterMap id := by rw [List.filterMap_map]; rfl
  rw [e, h, List.filterMap_map]
  simp
theorem Wd.sub {G : GT} {A : Nat → Prop} {s : State} {ws ws' : va_W} {H : Heap} {locs : List Loc} (w : Wd G A s ws H locs) (is : List Nat) (hn : va_nd is = true) (hs : is.map (fun i => ws[i]?) = ws'.map some) : Wd G A s ws' H locs :=
  ⟨w.1.sub is (fm_of_map is hs), w.2.1.sub is hn hs, w.2.2⟩
theorem wPre_at {G : GT} {A : Nat → Prop} {s : State} {ws wc : va_W} {H : Heap} {locs : List Loc} {As : List Value} (C : Cx G A s) (w : Wd G A s ws H locs) (isC : List Nat) (hC : isC.map (fun i => ws[i]?) = wc.map some) (hnd : va_nd isC = true) : ∀ U : State, U.heap = H → s.WarmedH U.vm → va_Pc As (wPre G wc H.size) As.toArray U := by
  intro U hU hW
  have hf := va_free (wc := wc) w.2.1 w.2.2 C.2.2.2 isC hC
  refine ⟨rfl, by rw [hU], by rw [hU]; exact w.1.sub isC (fm_of_map isC hC), va_K.moved hW.alike C.1, (w.2.1.sub isC hnd hC).weaken (fun _ _ _ _ => trivial), NW.warm hW C.2.1, ?_⟩
  rw [hU]
  exact EV.to C.2.2.1 w.2.2 hf hW
/-- a method's body out of its entry -/
theorem met_go {l : Launch} {y : MethodName} {ws ws' : List Cond} {rm : Room} {Qc : Array Value → State → Outcome → State → Prop} {mc ms : Nat} {free : Addr → Prop} {cc : ByteArray} {maxL : Nat} {ret : Option FieldType} {G : GT} {wc : va_W} {sz : Nat} {av : List Value} {own : String}
    (hy : plainName y.cls = true) (hw : ws = Cond.code y cc maxL ret :: ws') (ho : y.cls = own) (hlen : (lg_sl av).length ≤ maxL)
    (body : ∀ (p : Program) (e : Env) (s : State) (m : MethodId) (below : List Frame) (meth : Method) (c : Code) (ls : Array Slot), CallFix p m c cc maxL s av.toArray ws own → meth.sig.returnType = ret → meth.locks = false → meth.name = y.name → s.heap.size = sz → Cx G (va_A wc sz) s → Wd G (va_A wc sz) s wc s.heap [] → lv_has ls maxL (lv_args 0 av) →
      W p l e (headSpec ws rm).room s m av.toArray below meth c s.heap [] 0 0 (MQ below Qc av.toArray s mc ms free) (F0 m 0 ls [])) : Met l y ws rm (va_Pc av (wPre G wc sz)) Qc mc ms free := by
  refine Met.ofW (cc := cc) (maxL := maxL) (ret := ret) hy hw ?_
  intro p e s m args below meth c s₁ B hml hv
  obtain ⟨rfl, hsz, hP, hK, hD0, hN, hE⟩ := hv
  have hts := atoms_spec (ws := ws) B.pre
  have hown : s.vm.findClass own = some m.cls := by rw [← ho]; exact findClass_of_methodNamed B.named
  have hnm : meth.name = y.name := (name_of_methodNamed B.named B.method).1
  have hl := lv_entry av (n := maxL) hlen
  rw [lg_entry_eq]
  have hb := body p e s m below meth c _ ⟨B.exec, B.bytes, hml, hown, hts⟩ B.returns B.notSynchronized hnm hsz ⟨hK, hN, hE, fun q h => Or.inr (by rw [← hsz]; exact h)⟩ ⟨hP, hD0.self, va_S.rf⟩ hl
  exact hb
section BaseCalls
variable {p : Program} {l : Launch} {e : Env} {R : Room} {s : State} {m : MethodId} {args : Array Value} {below : List Frame} {meth : Method} {c : Code} {H : Heap} {locs : List Loc} {cells slots : Nat} {Q : State → Prop}
variable {G : GT} {A : Nat → Prop} {ws : va_W} {cc : ByteArray} {nL pc : Nat} {ls : Array Slot} {rest : List Value} {Ts : List Cond} {own : String}
/-- a field is read -/
theorem w_get (S : CallFix p m c cc nL s args Ts own) (C : Cx G A s) (w : Wd G A s ws H locs) {ref CC : String} {T : u_T} {N ci index a : Nat} (hin : ∀ w ∈ u_ws CC T N, w ∈ Ts) (q0 : Nat) {fs : List Value} (he : ws[q0]? = some (a, .inr (ci, fs))) (hc : vwCl[ci]? = some (CC, T, N)) (k : Nat) (hk : k < N) (hlink : Cond.fieldLink own index ref (T k).2.1 (T k).2.2.1 ∈ Ts) (hsame : ∀ x, s.fieldFound? (T k).1 (T k).2.1 (T k).2.2.1 = some x → s.fieldFound? ref (T k).2.1 (T k).2.2.1 = some x) {v : Value} (hv : fs[k]? = some v) (hdg : decode cc pc = .ok (.getfield index, 3))
    (kk : W p l e R s m args below meth c H locs cells slots Q (F0 m (pc + 3) ls (v :: rest))) : W p l e R s m args below meth c H locs cells slots Q (F0 m pc ls (.ref a :: rest)) :=
  va_get S.1 S.2.1 S.2.2.2.2 hin S.2.2.2.1 C.1 w.1 q0 he hc k hk (S.2.2.2.2 _ hlink) hsame hv hdg kk
/-- a field is written -/
theorem w_put (S : CallFix p m c cc nL s args Ts own) (C : Cx G A s) (w : Wd G A s ws H locs) {ref CC : String} {T : u_T} {N ci index a : Nat} (hin : ∀ w ∈ u_ws CC T N, w ∈ Ts) (ty0 : Nat → FieldType) (hty : ∀ k, k < N → parseFieldDescriptor (T k).2.2.1 = some (ty0 k)) (hnm : ∀ a, a < N → ∀ b, b < N → a ≠ b → (T a).2.1 ≠ (T b).2.1) (q0 : Nat) {fs : List Value} (he : ws[q0]? = some (a, .inr (ci, fs))) (hc : vwCl[ci]? = some (CC, T, N)) (k : Nat) (hk : k < N) (hlink : Cond.fieldLink own index ref (T k).2.1 (T k).2.2.1 ∈ Ts) (hsame : ∀ x, s.fieldFound? (T k).1 (T k).2.1 (T k).2.2.1 = some x → s.fieldFound? ref (T k).2.1 (T k).2.2.1 = some x) (hfin : (T k).2.2.2 = false) {v : Value} {ws2 : va_W} (hn : narrow (ty0 k) v = v) (hfit : fits (ty0 k) v = true) (hl : k < fs.length) (hs2 : ws.set q0 (a, .inr (ci, fs.set k v)) = ws2) (hdg : decode cc pc = .ok (.putfield index, 3))
    (kk : ∀ (H1 : Heap) (locs1 : List Loc), Wd G A s ws2 H1 locs1 → W p l e R s m args below meth c H1 locs1 cells slots Q (F0 m (pc + 3) ls rest)) : W p l e R s m args below meth c H locs cells slots Q (F0 m pc ls (v :: .ref a :: rest)) :=
  va_put S.1 S.2.1 S.2.2.2.2 hin ty0 hty hnm S.2.2.2.1 C.1 w.1 w.2.1 w.2.2 q0 he hc k hk (S.2.2.2.2 _ hlink) hsame hfin (hty k hk) hn hfit hl hdg (fun H1 locs1 hP hD hS => by subst hs2; exact kk H1 locs1 ⟨hP, hD, hS⟩)
/-- a final field is written, in a constructor -/
theorem w_putF (S : CallFix p m c cc nL s args Ts own) (C : Cx G A s) (w : Wd G A s ws H locs) {ref CC : String} {T : u_T} {N ci index a : Nat} (hin : ∀ w ∈ u_ws CC T N, w ∈ Ts) (ty0 : Nat → FieldType) (hty : ∀ k, k < N → parseFieldDescriptor (T k).2.2.1 = some (ty0 k)) (hnm : ∀ a, a < N → ∀ b, b < N → a ≠ b → (T a).2.1 ≠ (T b).2.1) (q0 : Nat) {fs : List Value} (he : ws[q0]? = some (a, .inr (ci, fs))) (hc : vwCl[ci]? = some (CC, T, N)) (k : Nat) (hk : k < N) (hlink : Cond.fieldLink own index ref (T k).2.1 (T k).2.2.1 ∈ Ts) (hsame : ∀ x, s.fieldFound? (T k).1 (T k).2.1 (T k).2.2.1 = some x → s.fieldFound? ref (T k).2.1 (T k).2.2.1 = some x) (hfin : (T k).2.2.2 = true) (hin2 : meth.name = "<init>") (hdecl : (T k).1 = own) {v : Value} {ws2 : va_W} (hn : narrow (ty0 k) v = v) (hfit : fits (ty0 k) v = true) (hl : k < fs.length) (hs2 : ws.set q0 (a, .inr (ci, fs.set k v)) = ws2) (hdg : decode cc pc = .ok (.putfield index, 3))
    (kk : ∀ (H1 : Heap) (locs1 : List Loc), Wd G A s ws2 H1 locs1 → W p l e R s m args below meth c H1 locs1 cells slots Q (F0 m (pc + 3) ls rest)) : W p l e R s m args below meth c H locs cells slots Q (F0 m pc ls (v :: .ref a :: rest)) :=
  va_putF S.1 S.2.1 S.2.2.2.2 hin ty0 hty hnm S.2.2.2.1 C.1 w.1 w.2.1 w.2.2 q0 he hc k hk (S.2.2.2.2 _ hlink) hsame hfin hin2 hdecl (hty k hk) hn hfit hl hdg (fun H1 locs1 hP hD hS => by subst hs2; exact kk H1 locs1 ⟨hP, hD, hS⟩)
theorem w_iald (S : CallFix p m c cc nL s args Ts own) (C : Cx G A s) (w : Wd G A s ws H locs) (q0 : Nat) {a n : Nat} {f : Nat → Int32} (ha : ws[q0]? = some (a, .inl (G.2.1 2, n, .inl f))) {i : Int32} (hin : vp_in i n) (hdg : decode cc pc = .ok (.iaload, 1)) (kk : W p l e R s m args below meth c H locs cells slots Q (F0 m (pc + 1) ls (.int (f i.toNatClampNeg) :: rest))) : W p l e R s m args below meth c H locs cells slots Q (F0 m pc ls (.int i :: .ref a :: rest)) :=
  va_iald S.1 S.2.1 C.1 w.1 q0 2 ha rfl hin hdg kk
theorem w_bald (S : CallFix p m c cc nL s args Ts own) (C : Cx G A s) (w : Wd G A s ws H locs) (q0 : Nat) {a n : Nat} {f : Nat → Int32} (ha : ws[q0]? = some (a, .inl (G.2.1 0, n, .inl f))) {i : Int32} (hin : vp_in i n) (hdg : decode cc pc = .ok (.baload, 1)) (kk : W p l e R s m args below meth c H locs cells slots Q (F0 m (pc + 1) ls (.int (f i.toNatClampNeg) :: rest))) : W p l e R s m args below meth c H locs cells slots Q (F0 m pc ls (.int i :: .ref a :: rest)) :=
  va_bald S.1 S.2.1 C.1 w.1 q0 0 ha rfl hin hdg kk
theorem w_cald (S : CallFix p m c cc nL s args Ts own) (C : Cx G A s) (w : Wd G A s ws H locs) (q0 : Nat) {a n : Nat} {f : Nat → Int32} (ha : ws[q0]? = some (a, .inl (G.2.1 1, n, .inl f))) {i : Int32} (hin : vp_in i n) (hdg : decode cc pc = .ok (.caload, 1)) (kk : W p l e R s m args below meth c H locs cells slots Q (F0 m (pc + 1) ls (.int (f i.toNatClampNeg) :: rest))) : W p l e R s m args below meth c H locs cells slots Q (F0 m pc ls (.int i :: .ref a :: rest)) :=
  va_cald S.1 S.2.1 C.1 w.1 q0 1 ha rfl hin hdg kk
theorem w_lald (S : CallFix p m c cc nL s args Ts own) (C : Cx G A s) (w : Wd G A s ws H locs) (q0 : Nat) {a n : Nat} {f : Nat → Int64} (ha : ws[q0]? = some (a, .inl (G.2.1 3, n, .inr (.inl f)))) {i : Int32} (hin : vp_in i n) (hdg : decode cc pc = .ok (.laload, 1)) (kk : W p l e R s m args below meth c H locs cells slots Q (F0 m (pc + 1) ls (.long (f i.toNatClampNeg) :: rest))) : W p l e R s m args below meth c H locs cells slots Q (F0 m pc ls (.int i :: .ref a :: rest)) :=
  va_lald S.1 S.2.1 C.1 w.1 q0 3 ha rfl hin hdg kk
theorem w_iast (S : CallFix p m c cc nL s args Ts own) (C : Cx G A s) (w : Wd G A s ws H locs) (q0 : Nat) {a n : Nat} {f : Nat → Int32} (ha : ws[q0]? = some (a, .inl (G.2.1 2, n, .inl f))) {i x : Int32} {ws2 : va_W} (hin : vp_in i n) (hs2 : ws.set q0 (a, .inl (G.2.1 2, n, .inl (upd f i.toNatClampNeg x))) = ws2) (hdg : decode cc pc = .ok (.iastore, 1)) (kk : ∀ (H1 : Heap) (locs1 : List Loc), Wd G A s ws2 H1 locs1 → W p l e R s m args below meth c H1 locs1 cells slots Q (F0 m (pc + 1) ls rest)) : W p l e R s m args below meth c H locs cells slots Q (F0 m pc ls (.int x :: .int i :: .ref a :: rest)) :=
  va_iast S.1 S.2.1 C.1 w.1 w.2.1 w.2.2 q0 2 ha rfl hin hdg (fun H1 locs1 hP hD hS => by subst hs2; exact kk H1 locs1 ⟨hP, hD, hS⟩)
theorem w_bast (S : CallFix p m c cc nL s args Ts own) (C : Cx G A s) (w : Wd G A s ws H locs) (q0 : Nat) {a n : Nat} {f : Nat → Int32} (ha : ws[q0]? = some (a, .inl (G.2.1 0, n, .inl f))) {i x : Int32} {ws2 : va_W} (hin : vp_in i n) (hs2 : ws.set q0 (a, .inl (G.2.1 0, n, .inl (upd f i.toNatClampNeg (vp_nar .byte x)))) = ws2) (hdg : decode cc pc = .ok (.bastore, 1)) (kk : ∀ (H1 : Heap) (locs1 : List Loc), Wd G A s ws2 H1 locs1 → W p l e R s m args below meth c H1 locs1 cells slots Q (F0 m (pc + 1) ls rest)) : W p l e R s m args below meth c H locs cells slots Q (F0 m pc ls (.int x :: .int i :: .ref a :: rest)) :=
  va_bast S.1 S.2.1 C.1 w.1 w.2.1 w.2.2 q0 0 ha rfl hin hdg (fun H1 locs1 hP hD hS => by subst hs2; exact kk H1 locs1 ⟨hP, hD, hS⟩)
theorem w_cast (S : CallFix p m c cc nL s args Ts own) (C : Cx G A s) (w : Wd G A s ws H locs) (q0 : Nat) {a n : Nat} {f : Nat → Int32} (ha : ws[q0]? = some (a, .inl (G.2.1 1, n, .inl f))) {i x : Int32} {ws2 : va_W} (hin : vp_in i n) (hs2 : ws.set q0 (a, .inl (G.2.1 1, n, .inl (upd f i.toNatClampNeg (vp_nar .char x)))) = ws2) (hdg : decode cc pc = .ok (.castore, 1)) (kk : ∀ (H1 : Heap) (locs1 : List Loc), Wd G A s ws2 H1 locs1 → W p l e R s m args below meth c H1 locs1 cells slots Q (F0 m (pc + 1) ls rest)) : W p l e R s m args below meth c H locs cells slots Q (F0 m pc ls (.int x :: .int i :: .ref a :: rest)) :=
  va_cast S.1 S.2.1 C.1 w.1 w.2.1 w.2.2 q0 1 ha rfl hin hdg (fun H1 locs1 hP hD hS => by subst hs2; exact kk H1 locs1 ⟨hP, hD, hS⟩)
theorem w_last (S : CallFix p m c cc nL s args Ts own) (C : Cx G A s) (w : Wd G A s ws H locs) (q0 : Nat) {a n : Nat} {f : Nat → Int64} (ha : ws[q0]? = some (a, .inl (G.2.1 3, n, .inr (.inl f)))) {i : Int32} {x : Int64} {ws2 : va_W} (hin : vp_in i n) (hs2 : ws.set q0 (a, .inl (G.2.1 3, n, .inr (.inl (vp_updL f i.toNatClampNeg x)))) = ws2) (hdg : decode cc pc = .ok (.lastore, 1)) (kk : ∀ (H1 : Heap) (locs1 : List Loc), Wd G A s ws2 H1 locs1 → W p l e R s m args below meth c H1 locs1 cells slots Q (F0 m (pc + 1) ls rest)) : W p l e R s m args below meth c H locs cells slots Q (F0 m pc ls (.long x :: .int i :: .ref a :: rest)) :=
  va_last S.1 S.2.1 C.1 w.1 w.2.1 w.2.2 q0 3 ha rfl hin hdg (fun H1 locs1 hP hD hS => by subst hs2; exact kk H1 locs1 ⟨hP, hD, hS⟩)
theorem w_alen (S : CallFix p m c cc nL s args Ts own) (C : Cx G A s) (w : Wd G A s ws H locs) (q0 t0 : Nat) {a : Nat} {cA : ClassId} {x : vp_A} (ha : ws[q0]? = some (a, .inl (cA, x))) {ty : FieldType} (ht : (tyG G)[t0]? = some (cA, ty)) {v : Int32} (hv : Int32.ofNat x.1 = v) (hdg : decode cc pc = .ok (.arraylength, 1)) (kk : W p l e R s m args below meth c H locs cells slots Q (F0 m (pc + 1) ls (.int v :: rest))) : W p l e R s m args below meth c H locs cells slots Q (F0 m pc ls (.ref a :: rest)) :=
  va_alen S.1 S.2.1 C.1 w.1 q0 t0 ha ht hv hdg kk
/-- a static table: its reference, its length, a place of it -/
theorem w_gets (S : CallFix p m c cc nL s args Ts own) (C : Cx G A s) (w : Wd G A s ws H locs) (k : Nat) {q : String × String × String × FieldType × List Value} (hk : stL[k]? = some q) {index : Nat} {ref : String} (hlink : Cond.fieldLink own index ref q.2.1 q.2.2.1 ∈ Ts) (hsame : ∀ x, s.fieldFound? q.1 q.2.1 q.2.2.1 = some x → s.fieldFound? ref q.2.1 q.2.2.1 = some x) (hdg : decode cc pc = .ok (.getstatic index, 3)) (kk : W p l e R s m args below meth c H locs cells slots Q (F0 m (pc + 3) ls (.ref (G.2.2.1 k) :: rest))) : W p l e R s m args below meth c H locs cells slots Q (F0 m pc ls rest) :=
  va_gets S.1 S.2.1 (C.2.2.1.1 k q hk).1 w.2.2 S.2.2.2.1 (S.2.2.2.2 _ hlink) hsame hdg kk
theorem w_tlen (S : CallFix p m c cc nL s args Ts own) (C : Cx G A s) (w : Wd G A s ws H locs) (k : Nat) {q : String × String × String × FieldType × List Value} (hk : stL[k]? = some q) {v : Int32} (hv : Int32.ofNat q.2.2.2.2.length = v) (hdg : decode cc pc = .ok (.arraylength, 1)) (kk : W p l e R s m args below meth c H locs cells slots Q (F0 m (pc + 1) ls (.int v :: rest))) : W p l e R s m args below meth c H locs cells slots Q (F0 m pc ls (.ref (G.2.2.1 k) :: rest)) :=
  va_tlen S.1 S.2.1 (C.2.2.1.1 k q hk).2 w.2.2 hv hdg kk
theorem w_tl (S : CallFix p m c cc nL s args Ts own) (C : Cx G A s) (w : Wd G A s ws H locs) (k : Nat) {C1 n1 d1 : String} {q : List Value} (hk : stL[k]? = some (C1, n1, d1, .long, q)) {i : Int32} (hin : vp_in i q.length) {v : Value} (hv : q.getD i.toNatClampNeg .null = v) (hdg : decode cc pc = .ok (.laload, 1)) (kk : W p l e R s m args below meth c H locs cells slots Q (F0 m (pc + 1) ls (v :: rest))) : W p l e R s m args below meth c H locs cells slots Q (F0 m pc ls (.int i :: .ref (G.2.2.1 k) :: rest)) :=
  va_tl S.1 S.2.1 (C.2.2.1.1 k _ hk).2 w.2.2 hin hv hdg kk
theorem w_ti (S : CallFix p m c cc nL s args Ts own) (C : Cx G A s) (w : Wd G A s ws H locs) (k : Nat) {C1 n1 d1 : String} {q : List Value} (hk : stL[k]? = some (C1, n1, d1, .int, q)) {i : Int32} (hin : vp_in i q.length) {v : Value} (hv : q.getD i.toNatClampNeg .null = v) (hdg : decode cc pc = .ok (.iaload, 1)) (kk : W p l e R s m args below meth c H locs cells slots Q (F0 m (pc + 1) ls (v :: rest))) : W p l e R s m args below meth c H locs cells slots Q (F0 m pc ls (.int i :: .ref (G.2.2.1 k) :: rest)) :=
  va_ti S.1 S.2.1 (C.2.2.1.1 k _ hk).2 w.2.2 hin hv hdg kk
/-- a call that leaves the heap as it is: an int, a long, nothing -/
theorem cs_i {post : Int32 → Prop} {a : Array Value} {st0 : List Value} (hr : va_Run p l e R s m args below meth c H locs cells slots 0 0 (F0 m pc ls st0) rest (vp_Si post a) (fun _ => False)) (kk : ∀ r : Int32, post r → W p l e R s m args below meth c H locs cells slots Q (F0 m (pc + 3) ls (.int r :: rest))) : W p l e R s m args below meth c H locs cells slots Q (F0 m pc ls st0) := vp_callSi hr.run kk
theorem cs_l {post : Int64 → Prop} {a : Array Value} {st0 : List Value} (hr : va_Run p l e R s m args below meth c H locs cells slots 0 0 (F0 m pc ls st0) rest (vp_Sl post a) (fun _ => False)) (kk : ∀ r : Int64, post r → W p l e R s m args below meth c H locs cells slots Q (F0 m (pc + 3) ls (.long r :: rest))) : W p l e R s m args below meth c H locs cells slots Q (F0 m pc ls st0) := vp_callSl hr.run kk
/-- the world behind a contract -/
abbrev bW (G : GT) (A : Nat → Prop) {σ : Type} (w' : σ → va_W) : σ → State → Prop := fun u t => va_P G.1 vwCl (w' u) t.heap ∧ va_D A (w' u)
/-- a call that changes its cells: what it leaves stands beside the rest -/
theorem cq_j {σ : Type} {w' ws2 : σ → va_W} {wc wr : va_W} {t : State} {H1 : Heap} {locs1 : List Loc} {u : σ} (C : Cx G A s) (w : Wd G A s ws H locs) (isC isR perm : List Nat) (hC : isC.map (fun i => ws[i]?) = wc.map some) (hR : isR.map (fun i => ws[i]?) = wr.map some) (hn : va_nd isR = true) (hdis : ∀ i ∈ isR, i ∉ isC) (hpn : va_nd perm = true) (hp : ∀ u, perm.map (fun i => (wr ++ w' u)[i]?) = (ws2 u).map some) (ht : t.heap = H1) (hB : bW G (va_A wc H.size) w' u t) (hk : ∀ q : Nat, q < H.size → ¬ va_A wc H.size q → H1[q]? = H[q]?) (hS : va_S A s.heap H1 locs1) : Wd G A s (ws2 u) H1 locs1 := by
  obtain ⟨hP1, hD1⟩ := hB
  rw [ht] at hP1
  obtain ⟨hP, hD⟩ := va_join (wr := wr) w.1 w.2.1 isC isR hC hR hn hdis hk (va_free w.2.1 w.2.2 C.2.2.2 isC hC) hP1 hD1
  exact Wd.sub (⟨hP, hD, hS⟩ : Wd G A s (wr ++ w' u) H1 locs1) perm hpn (hp u)
theorem cq_i {σ : Type} {post : Int32 → σ → Prop} {w' ws2 : σ → va_W} {wc wr : va_W} {mc ms : Nat} {a : Array Value} {st0 : List Value} (C : Cx G A s) (w : Wd G A s ws H locs) (isC isR perm : List Nat) (hC : isC.map (fun i => ws[i]?) = wc.map some) (hR : isR.map (fun i => ws[i]?) = wr.map some) (hn : va_nd isR = true) (hdis : ∀ i ∈ isR, i ∉ isC) (hpn : va_nd perm = true) (hp : ∀ u, perm.map (fun i => (wr ++ w' u)[i]?) = (ws2 u).map some) (hr : va_Run p l e R s m args below meth c H locs cells slots mc ms (F0 m pc ls st0) rest (va_Qi post (bW G (va_A wc H.size) w') (va_A wc H.size) a) (va_A wc H.size))
    (kk : ∀ (r : Int32) (u : σ) (H1 : Heap) (locs1 : List Loc), post r u → Wd G A s (ws2 u) H1 locs1 → W p l e R s m args below meth c H1 locs1 (cells + mc) (slots + ms) Q (F0 m (pc + 3) ls (.int r :: rest))) : W p l e R s m args below meth c H locs cells slots Q (F0 m pc ls st0) := by
  have hf := va_free (wc := wc) w.2.1 w.2.2 C.2.2.2 isC hC
  exact va_calli hr w.2.2 (fun q _ h => hf q h) hf (fun r u t H1 locs1 ht _ hpst hB _ hk hS => kk r u H1 locs1 hpst (cq_j C w isC isR perm hC hR hn hdis hpn hp ht hB hk hS))
theorem cq_v {σ : Type} {post : σ → Prop} {w' ws2 : σ → va_W} {wc wr : va_W} {mc ms : Nat} {a : Array Value} {st0 : List Value} (C : Cx G A s) (w : Wd G A s ws H locs) (isC isR perm : List Nat) (hC : isC.map (fun i => ws[i]?) = wc.map some) (hR : isR.map (fun i => ws[i]?) = wr.map some) (hn : va_nd isR = true) (hdis : ∀ i ∈ isR, i ∉ isC) (hpn : va_nd perm = true) (hp : ∀ u, perm.map (fun i => (wr ++ w' u)[i]?) = (ws2 u).map some) (hr : va_Run p l e R s m args below meth c H locs cells slots mc ms (F0 m pc ls st0) rest (va_Qv post (bW G (va_A wc H.size) w') (va_A wc H.size) a) (va_A wc H.size))
    (kk : ∀ (u : σ) (H1 : Heap) (locs1 : List Loc), post u → Wd G A s (ws2 u) H1 locs1 → W p l e R s m args below meth c H1 locs1 (cells + mc) (slots + ms) Q (F0 m (pc + 3) ls rest)) : W p l e R s m args below meth c H locs cells slots Q (F0 m pc ls st0) := by
  have hf := va_free (wc := wc) w.2.1 w.2.2 C.2.2.2 isC hC
  exact va_callv hr w.2.2 (fun q _ h => hf q h) hf (fun u t H1 locs1 ht _ hpst hB _ hk hS => kk u H1 locs1 hpst (cq_j C w isC isR perm hC hR hn hdis hpn hp ht hB hk hS))
theorem cq_l {σ : Type} {post : Int64 → σ → Prop} {w' ws2 : σ → va_W} {wc wr : va_W} {mc ms : Nat} {a : Array Value} {st0 : List Value} (C : Cx G A s) (w : Wd G A s ws H locs) (isC isR perm : List Nat) (hC : isC.map (fun i => ws[i]?) = wc.map some) (hR : isR.map (fun i => ws[i]?) = wr.map some) (hn : va_nd isR = true) (hdis : ∀ i ∈ isR, i ∉ isC) (hpn : va_nd perm = true) (hp : ∀ u, perm.map (fun i => (wr ++ w' u)[i]?) = (ws2 u).map some) (hr : va_Run p l e R s m args below meth c H locs cells slots mc ms (F0 m pc ls st0) rest (va_Ql post (bW G (va_A wc H.size) w') (va_A wc H.size) a) (va_A wc H.size))
    (kk : ∀ (r : Int64) (u : σ) (H1 : Heap) (locs1 : List Loc), post r u → Wd G A s (ws2 u) H1 locs1 → W p l e R s m args below meth c H1 locs1 (cells + mc) (slots + ms) Q (F0 m (pc + 3) ls (.long r :: rest))) : W p l e R s m args below meth c H locs cells slots Q (F0 m pc ls st0) := by
  have hf := va_free (wc := wc) w.2.1 w.2.2 C.2.2.2 isC hC
  exact va_calll hr w.2.2 (fun q _ h => hf q h) hf (fun r u t H1 locs1 ht _ hpst hB _ hk hS => kk r u H1 locs1 hpst (cq_j C w isC isR perm hC hR hn hdis hpn hp ht hB hk hS))
/-- a new array of a known class of arrays -/
theorem w_newa (S : CallFix p m c cc nL s args Ts own) (C : Cx G A s) (w : Wd G A s ws H locs) {atype : ArrayType} (harr : Cond.arrayClass (newarray.typeOf atype) ∈ Ts) {ty : FieldType} (hty : newarray.typeOf atype = ty) (t0 : Nat) {cA0 : ClassId} (ht0 : (tyG G)[t0]? = some (cA0, ty)) {n : Int32} {N' : Nat} {a0 : vp_A} {ws2 : Nat → va_W} (ha : ∀ cA : ClassId, vp_cell cA a0 = arrV cA N' (fun _ => defaultValue ty)) (hn : ¬ n < 0) (hN : n.toNatClampNeg = N') (hbytes : N' * componentBytes ty ≤ 536870912) (hcells : cells + 1 ≤ R.cells) (hslots : slots + N' ≤ R.slots) (hs2 : ∀ q, ws ++ [(q, .inl (cA0, a0))] = ws2 q) (hdg : decode cc pc = .ok (.newarray atype, 2))
    (kk : ∀ (q : Nat) (H1 : Heap), Wd G A s (ws2 q) H1 locs → W p l e R s m args below meth c H1 locs (cells + 1) (slots + N') Q (F0 m (pc + 2) ls (.ref q :: rest))) : W p l e R s m args below meth c H locs cells slots Q (F0 m pc ls (.int n :: rest)) := by
  refine va_newa S.1 S.2.1 (S.2.2.2.2 _ harr) hty C.1 w.1 w.2.1 w.2.2 C.2.2.2 ha hn hN hbytes hcells hslots hdg (fun q cA H1 hK hP hD hS => ?_)
  have h1 := (hK.2 (tyG G).length (cA, ty) (by simp)).2
  have h2 := (C.1.2 t0 (cA0, ty) ht0).2
  have he : cA = cA0 := by
    cases atype <;> subst hty <;> exact Option.some.inj (h1.symm.trans h2)
  subst he
  exact kk q H1 (by rw [← hs2 q]; exact ⟨hP, hD, hS⟩)
theorem w_new (S : CallFix p m c cc nL s args Ts own) (C : Cx G A s) (w : Wd G A s ws H locs) {CC : String} {T : u_T} {N ci index : Nat} (hin : ∀ w ∈ u_ws CC T N, w ∈ Ts) (ty : Nat → FieldType) (hty : ∀ k, k < N → parseFieldDescriptor (T k).2.2.1 = some (ty k)) (hcl : Cond.classLink own index CC ∈ Ts) (hinst : Cond.instantiable CC N ∈ Ts) (hini : Cond.initialized CC ∈ Ts) (hc : vwCl[ci]? = some (CC, T, N)) {fs : List Value} {ws2 : Nat → va_W} (hfs : ∀ j, j < N → defaultValue (ty j) = vp_V fs j) (hcells : cells + 1 ≤ R.cells) (hslots : slots + N ≤ R.slots) (hs2 : ∀ q, ws ++ [(q, .inr (ci, fs))] = ws2 q) (hdg : decode cc pc = .ok (.new index, 3))
    (kk : ∀ (q : Nat) (H1 : Heap), Wd G A s (ws2 q) H1 locs → W p l e R s m args below meth c H1 locs (cells + 1) (slots + N) Q (F0 m (pc + 3) ls (.ref q :: rest))) : W p l e R s m args below meth c H locs cells slots Q (F0 m pc ls rest) :=
  va_new S.1 S.2.1 S.2.2.2.2 hin ty hty S.2.2.2.1 (S.2.2.2.2 _ hcl) (S.2.2.2.2 _ hinst) (S.2.2.2.2 _ hini) C.1 w.1 w.2.1 w.2.2 C.2.2.2 hc hfs hcells hslots hdg (fun q H1 hP hD hS => kk q H1 (by rw [← hs2 q]; exact ⟨hP, hD, hS⟩))
/-- Object's constructor -/
theorem w_objI (S : CallFix p m c cc nL s args Ts own) {idx a : Nat} (hlink : Cond.methodLink own idx objectInit ∈ Ts) (hinst : Cond.instanceMethod objectInit ∈ Ts) (hcode : Cond.code objectInit ⟨#[0xb1]⟩ 1 none ∈ Ts) (hsize : ls.size = nL) (hd : decode cc pc = .ok (.invokespecial idx, 3)) (hframes : 1 ≤ R.frames) (hlocals : 2 * (F0 m pc ls (.ref a :: rest)).monitorRoom + (rest.map fun v => v.category).sum + 12 ≤ R.locals) (kk : W p l e R s m args below meth c H locs cells slots Q (F0 m (pc + 3) ls rest)) : W p l e R s m args below meth c H locs cells slots Q (F0 m pc ls (.ref a :: rest)) := by
  refine W.objInit S.1 S.2.1 S.2.2.2.1 (S.2.2.2.2 _ hlink) (S.2.2.2.2 _ hinst) (S.2.2.2.2 _ hcode) rfl (by rw [S.2.2.1]; exact hsize) rfl hd hframes hlocals ?_
  exact kk
end BaseCalls
