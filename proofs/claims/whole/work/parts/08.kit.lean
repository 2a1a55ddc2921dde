section KIT
/-- the classes whose objects the worlds hold: 0 FrameRow, 1 FrameRowModel -/
abbrev kC : List vw_C := [(RX0, TX0, 4), (RX1, TX1, 10)]
def kStr : List (Nat × String) := [(100, "there is no such mutator"), (102, "there is no such slot"), (104, "there is no such place"), (107, "this is no value"), (35, "the mutator has all the frames it may have"), (46, "the mutator has one frame only"), (58, "the mutator has no such frame"), (79, "k is below 0"), (82, "nothing cannot be turned"), (98, "there is no such count")]
/-- a world u behind a call -/
abbrev kB (D : va_G) (tys : List (ClassId × FieldType)) (A : Nat → Prop) (u : va_W) (t : State) : Prop := va_P D kC u t.heap ∧ va_K D kC tys t ∧ va_D A u
abbrev kNs : List String := ["java/lang/RuntimeException", "java/lang/Exception"]
/-- the words of the throws that are not 'good': each of them stays, for it speaks of what the tables keep -/
def kOth : List Cond := (nx_at RX0 60 ++ (vx_atS RX0 81 "java/lang/IllegalArgumentException" kNs ++ vx_atS RX0 37 "java/lang/IllegalStateException" kNs)).filter (fun w => !goodWord w)
def kIsO : Cond → Bool | .declares _ => true | .castable _ _ => true | _ => false
theorem kOth_is : ∀ w ∈ kOth, kIsO w = true := by decide +kernel
theorem kOth_move {w : Cond} (hw : kIsO w = true) {s U : State} {A A' : Array Value} (hW : s.WarmedH U.vm) (h : w.before A s = true) : w.before A' U = true := by
  cases w with
  | castable a b =>
    obtain ⟨c3, c4, hc3, hc4, hasg⟩ := Cond.castable_spec h
    simp [Cond.before, Cond.holds, Cond.value, hW.alike.findClass, hc3, hc4, hW.alike.assignable, hasg]
  | declares x =>
    obtain ⟨m, meth, hn, hm, hst, hsig⟩ := Cond.declares_spec h
    have h1 : U.methodNamed? x = some m := (State.methodNamed?_setVm (s := s) hW.alike x).trans hn
    simp [Cond.before, Cond.holds, Cond.value, h1, hW.alike.method?, hm, hst, hsig]
  | _ => exact absurd hw (by simp [kIsO])
theorem kIsO_on {w : Cond} (hw : kIsO w = true) : w.onTables = true := by
  cases w with
  | castable a b => rfl
  | declares x => rfl
  | _ => exact absurd hw (by simp [kIsO])
/-- what a throw needs of the statics and texts -/
def kZ (A : Nat → Prop) (U : State) (H : Heap) : Prop := vx_Zq Bundle.tN "UNASSIGNED_STACK" Bundle.steD A U H ∧ vx_Zq Bundle.tN "SUPPRESSED_SENTINEL" Bundle.listD A U H ∧ (∀ q ∈ kStr, ∃ sa, vk_R RX0 q.1 q.2 sa U) ∧ (∀ w ∈ kOth, w.before #[] U = true) ∧ va_Nc "java/lang/IllegalStateException" nx_N U ∧ va_Nc "java/lang/IllegalArgumentException" nx_N U
theorem kZ.go {A B : Nat → Prop} {s U : State} {H0 H : Heap} {locs : List Loc} (h : kZ A s H0) (hS : va_S A H0 H locs) (hB : ∀ q, B q → A q) (hW : s.WarmedH U.vm) : kZ B U H :=
  ⟨((h.1.kept hS.2.1).narrow hB).moved hW.alike, ((h.2.1.kept hS.2.1).narrow hB).moved hW.alike, fun q hq => by obtain ⟨sa, x⟩ := h.2.2.1 q hq; exact ⟨sa, x.warm hW⟩, fun w hw => kOth_move (kOth_is w hw) hW (h.2.2.2.1 w hw), va_Nc.moved hW.alike h.2.2.2.2.1, va_Nc.moved hW.alike h.2.2.2.2.2⟩
theorem kZ.blind {A : Nat → Prop} {U : State} {H : Heap} (h : kZ A U H) (g : JFrame) (mk : MethodId) (a : Array Value) : kZ A (U.calling g mk a) H :=
  ⟨vx_Zq.moved (u := U) (U := U.calling g mk a) (Vm.Alike.refl U.vm) h.1, vx_Zq.moved (u := U) (U := U.calling g mk a) (Vm.Alike.refl U.vm) h.2.1, fun q hq => by obtain ⟨sa, x⟩ := h.2.2.1 q hq; exact ⟨sa, vk_R.same (u := U) (U := U.calling g mk a) rfl x⟩, fun w hw => va_tabs (kIsO_on (kOth_is w hw)) (u := U) (U := U.calling g mk a) rfl (h.2.2.2.1 w hw), va_Nc.moved (Vm.Alike.refl U.vm) h.2.2.2.2.1, va_Nc.moved (Vm.Alike.refl U.vm) h.2.2.2.2.2⟩
abbrev kPre (D : va_G) (tys : List (ClassId × FieldType)) (As : List Value) (W0 : va_W) (sz : Nat) : Array Value → State → Prop := va_Pc As (fun U => U.heap.size = sz ∧ va_P D kC W0 U.heap ∧ va_K D kC tys U ∧ va_D (fun _ => True) W0)
abbrev kPreZ (D : va_G) (tys : List (ClassId × FieldType)) (As : List Value) (W0 : va_W) (sz : Nat) : Array Value → State → Prop := va_Pc As (fun U => U.heap.size = sz ∧ va_P D kC W0 U.heap ∧ va_K D kC tys U ∧ va_D (fun _ => True) W0 ∧ kZ (va_A W0 sz) U U.heap)
theorem kPre_blind {D : va_G} {tys : List (ClassId × FieldType)} {As : List Value} {W0 : va_W} {sz : Nat} : FrameBlind (kPre D tys As W0 sz) := fun a U g mk q => by
  obtain ⟨q0, q1, qP, qK, qD⟩ := q
  exact ⟨q0, q1, qP, va_K.moved (u := U) (U := U.calling g mk a) (Vm.Alike.refl U.vm) qK, qD⟩
theorem kPreZ_blind {D : va_G} {tys : List (ClassId × FieldType)} {As : List Value} {W0 : va_W} {sz : Nat} : FrameBlind (kPreZ D tys As W0 sz) := fun a U g mk q => by
  obtain ⟨q0, q1, qP, qK, qD, qZ⟩ := q
  exact ⟨q0, q1, qP, va_K.moved (u := U) (U := U.calling g mk a) (Vm.Alike.refl U.vm) qK, qD, qZ.blind g mk a⟩
/-- contracts: over a world W0, a method answers an int (Mi) or nothing (Mv); Xi, Xv: or it throws -/
def Mi (l : Launch) (y : MethodName) (ws : List Cond) (rm : Room) (D : va_G) (tys : List (ClassId × FieldType)) (As : List Value) (W0 : va_W) (post : Int32 → va_W → Prop) : Prop :=
  ∀ sz : Nat, Met l y ws rm (kPre D tys As W0 sz) (va_Qi post (kB D tys (va_A W0 sz)) (va_A W0 sz)) rm.cells rm.slots (va_A W0 sz)
def Mv (l : Launch) (y : MethodName) (ws : List Cond) (rm : Room) (D : va_G) (tys : List (ClassId × FieldType)) (As : List Value) (W0 : va_W) (post : va_W → Prop) : Prop :=
  ∀ sz : Nat, Met l y ws rm (kPre D tys As W0 sz) (va_Qv post (kB D tys (va_A W0 sz)) (va_A W0 sz)) rm.cells rm.slots (va_A W0 sz)
abbrev kXC (D : va_G) (tys : List (ClassId × FieldType)) (A : Nat → Prop) (px : String → va_W → Prop) : String → State → State → Prop := vx_X (fun _ : va_W => True) (fun E u t => px E u ∧ kB D tys A u t) A
def Xi (l : Launch) (y : MethodName) (ws : List Cond) (rm : Room) (D : va_G) (tys : List (ClassId × FieldType)) (As : List Value) (W0 : va_W) (post : Int32 → va_W → Prop) (px : String → va_W → Prop) : Prop :=
  ∀ sz : Nat, vx_Met l y ws rm (kPreZ D tys As W0 sz) (va_Qi post (kB D tys (va_A W0 sz)) (va_A W0 sz)) (kXC D tys (va_A W0 sz) px) rm.cells rm.slots (va_A W0 sz)
def Xv (l : Launch) (y : MethodName) (ws : List Cond) (rm : Room) (D : va_G) (tys : List (ClassId × FieldType)) (As : List Value) (W0 : va_W) (post : va_W → Prop) (px : String → va_W → Prop) : Prop :=
  ∀ sz : Nat, vx_Met l y ws rm (kPreZ D tys As W0 sz) (va_Qv post (kB D tys (va_A W0 sz)) (va_A W0 sz)) (kXC D tys (va_A W0 sz) px) rm.cells rm.slots (va_A W0 sz)
section OF
variable {l : Launch} {y : MethodName} {ws ws' : List Cond} {rm : Room} {D : va_G} {tys : List (ClassId × FieldType)} {As : List Value} {W0 : va_W} {cc : ByteArray} {maxL : Nat}
/-- what a body finds at its entry -/
abbrev kAt (p : Program) (s : State) (m : MethodId) (meth : Method) (c : Code) (ls : Array Slot) (A : Nat → Prop) (y : MethodName) (ws : List Cond) (D : va_G) (tys : List (ClassId × FieldType)) (As : List Value) (W0 : va_W) (cc : ByteArray) (maxL : Nat) (ret : Option FieldType) : Prop :=
  p.tables.exec = Jvm.exec ∧ c.code = cc ∧ meth.sig.returnType = ret ∧ c.maxLocals = maxL ∧ (∀ w ∈ ws, w.before As.toArray s = true) ∧ s.vm.findClass y.cls = some m.cls ∧ meth.locks = false ∧ meth.name = y.name ∧ va_P D kC W0 s.heap ∧ va_K D kC tys s ∧ va_D A W0 ∧ (∀ q, s.heap.size ≤ q → A q) ∧ va_S A s.heap s.heap [] ∧ lv_has ls maxL (lv_args 0 As)
theorem Mi.of {post : Int32 → va_W → Prop} {ty : FieldType} (hy : plainName y.cls = true) (hw : ws = Cond.code y cc maxL (some ty) :: ws') (hle : (lg_sl As).length ≤ maxL)
    (body : ∀ (p : Program) (e : Env) (s : State) (m : MethodId) (below : List Frame) (meth : Method) (c : Code) (ls : Array Slot) (A : Nat → Prop), kAt p s m meth c ls A y ws D tys As W0 cc maxL (some ty) →
      W p l e rm s m As.toArray below meth c s.heap [] 0 0 (MQ below (va_Qi post (kB D tys A) A) As.toArray s rm.cells rm.slots A) (F0 m 0 ls [])) : Mi l y ws rm D tys As W0 post := by
  intro sz
  refine Met.ofW (cc := cc) (maxL := maxL) (ret := some ty) hy hw ?_
  intro p e s m args below meth c s₁ B hml hv
  obtain ⟨rfl, hsz, hP, hK, hD0⟩ := hv
  subst hsz
  have hts := atoms_spec (ws := ws) B.pre
  rw [lg_entry_eq]
  exact body p e s m below meth c _ _ ⟨B.exec, B.bytes, B.returns, hml, hts, findClass_of_methodNamed B.named, B.notSynchronized, (name_of_methodNamed B.named B.method).1, hP, hK, hD0.self, fun q h => Or.inr h, va_S.rf, lv_entry As hle⟩
theorem Mv.of {post : va_W → Prop} (hy : plainName y.cls = true) (hw : ws = Cond.code y cc maxL none :: ws') (hle : (lg_sl As).length ≤ maxL)
    (body : ∀ (p : Program) (e : Env) (s : State) (m : MethodId) (below : List Frame) (meth : Method) (c : Code) (ls : Array Slot) (A : Nat → Prop), kAt p s m meth c ls A y ws D tys As W0 cc maxL none →
      W p l e rm s m As.toArray below meth c s.heap [] 0 0 (MQ below (va_Qv post (kB D tys A) A) As.toArray s rm.cells rm.slots A) (F0 m 0 ls [])) : Mv l y ws rm D tys As W0 post := by
  intro sz
  refine Met.ofW (cc := cc) (maxL := maxL) (ret := none) hy hw ?_
  intro p e s m args below meth c s₁ B hml hv
  obtain ⟨rfl, hsz, hP, hK, hD0⟩ := hv
  subst hsz
  have hts := atoms_spec (ws := ws) B.pre
  rw [lg_entry_eq]
  exact body p e s m below meth c _ _ ⟨B.exec, B.bytes, B.returns, hml, hts, findClass_of_methodNamed B.named, B.notSynchronized, (name_of_methodNamed B.named B.method).1, hP, hK, hD0.self, fun q h => Or.inr h, va_S.rf, lv_entry As hle⟩
theorem Xi.of {post : Int32 → va_W → Prop} {px : String → va_W → Prop} {ty : FieldType} (hy : plainName y.cls = true) (hw : ws = Cond.code y cc maxL (some ty) :: ws') (hle : (lg_sl As).length ≤ maxL)
    (body : ∀ (p : Program) (e : Env) (s : State) (m : MethodId) (below : List Frame) (meth : Method) (c : Code) (ls : Array Slot) (A : Nat → Prop), kAt p s m meth c ls A y ws D tys As W0 cc maxL (some ty) → kZ A s s.heap → (∀ x ∈ c.exceptionTable.toList, False) →
      W p l e rm s m As.toArray below meth c s.heap [] 0 0 (vx_MQ below (va_Qi post (kB D tys A) A) (kXC D tys A px) As.toArray s rm.cells rm.slots A) (F0 m 0 ls [])) : Xi l y ws rm D tys As W0 post px := by
  intro sz
  refine vx_ofW (cc := cc) (maxL := maxL) (ret := some ty) hy hw ?_
  intro p e s m args below meth c s₁ B hml ht hv
  obtain ⟨rfl, hsz, hP, hK, hD0, hZ⟩ := hv
  subst hsz
  have hts := atoms_spec (ws := ws) B.pre
  rw [lg_entry_eq]
  exact body p e s m below meth c _ _ ⟨B.exec, B.bytes, B.returns, hml, hts, findClass_of_methodNamed B.named, B.notSynchronized, (name_of_methodNamed B.named B.method).1, hP, hK, hD0.self, fun q h => Or.inr h, va_S.rf, lv_entry As hle⟩ hZ ht
theorem Xv.of {post : va_W → Prop} {px : String → va_W → Prop} (hy : plainName y.cls = true) (hw : ws = Cond.code y cc maxL none :: ws') (hle : (lg_sl As).length ≤ maxL)
    (body : ∀ (p : Program) (e : Env) (s : State) (m : MethodId) (below : List Frame) (meth : Method) (c : Code) (ls : Array Slot) (A : Nat → Prop), kAt p s m meth c ls A y ws D tys As W0 cc maxL none → kZ A s s.heap → (∀ x ∈ c.exceptionTable.toList, False) →
      W p l e rm s m As.toArray below meth c s.heap [] 0 0 (vx_MQ below (va_Qv post (kB D tys A) A) (kXC D tys A px) As.toArray s rm.cells rm.slots A) (F0 m 0 ls [])) : Xv l y ws rm D tys As W0 post px := by
  intro sz
  refine vx_ofW (cc := cc) (maxL := maxL) (ret := none) hy hw ?_
  intro p e s m args below meth c s₁ B hml ht hv
  obtain ⟨rfl, hsz, hP, hK, hD0, hZ⟩ := hv
  subst hsz
  have hts := atoms_spec (ws := ws) B.pre
  rw [lg_entry_eq]
  exact body p e s m below meth c _ _ ⟨B.exec, B.bytes, B.returns, hml, hts, findClass_of_methodNamed B.named, B.notSynchronized, (name_of_methodNamed B.named B.method).1, hP, hK, hD0.self, fun q h => Or.inr h, va_S.rf, lv_entry As hle⟩ hZ ht
/-- a method with a table of its own: its contract's start has the table, and it throws nothing -/
theorem Mi.ofT {post : Int32 → va_W → Prop} {hh : List (Nat × Nat × Nat × Nat)} (hy : plainName y.cls = true) (hw : ws = Cond.codeWith y cc maxL (some .int) hh :: ws') (hle : (lg_sl As).length ≤ maxL)
    (body : ∀ (p : Program) (e : Env) (s : State) (m : MethodId) (below : List Frame) (meth : Method) (c : Code) (ls : Array Slot) (A : Nat → Prop), kAt p s m meth c ls A y ws D tys As W0 cc maxL (some .int) → kZ A s s.heap → c.exceptionTable.toList = tableOf hh →
      W p l e rm s m As.toArray below meth c s.heap [] 0 0 (vx_MQ below (va_Qi post (kB D tys A) A) (kXC D tys A (fun _ _ => False)) As.toArray s rm.cells rm.slots A) (F0 m 0 ls [])) : Xi l y ws rm D tys As W0 post (fun _ _ => False) := by
  intro sz
  refine vx_ofWH (cc := cc) (maxL := maxL) (ret := some .int) hy hw ?_
  intro p e s m args below meth c s₁ B hml hv
  obtain ⟨rfl, hsz, hP, hK, hD0, hZ⟩ := hv
  subst hsz
  have hts := atoms_spec (ws := ws) B.pre
  rw [lg_entry_eq]
  exact body p e s m below meth c _ _ ⟨B.exec, B.bytes, B.returns, hml, hts, findClass_of_methodNamed B.named, B.notSynchronized, (name_of_methodNamed B.named B.method).1, hP, hK, hD0.self, fun q h => Or.inr h, va_S.rf, lv_entry As hle⟩ hZ (vx_table (x := y) B (hts _ (by rw [hw]; exact List.mem_cons_self)))
end OF
theorem kNot : ∀ w ∈ Cond.classLink RX0 56 nx_N :: Cond.initialized nx_N :: nx_at RX0 60, vx_ot w = true := by decide +kernel
theorem kThrowAot : ∀ w ∈ Cond.classLink RX0 77 "java/lang/IllegalArgumentException" :: Cond.initialized "java/lang/IllegalArgumentException" :: vx_atS RX0 81 "java/lang/IllegalArgumentException" ["java/lang/RuntimeException", "java/lang/Exception"], vx_ot w = true := by decide +kernel
theorem kThrowSot : ∀ w ∈ Cond.classLink RX0 33 "java/lang/IllegalStateException" :: Cond.initialized "java/lang/IllegalStateException" :: vx_atS RX0 37 "java/lang/IllegalStateException" ["java/lang/RuntimeException", "java/lang/Exception"], vx_ot w = true := by decide +kernel
section ENDS
variable {p : Program} {l : Launch} {e : Env} {R : Room} {s : State} {m : MethodId} {args : Array Value} {below : List Frame} {meth : Method} {c : Code} {H : Heap} {locs : List Loc} {cells slots : Nat} {cc : ByteArray} {D : va_G} {tys : List (ClassId × FieldType)} {A : Nat → Prop} {pc mc ms : Nat} {ls : Array Slot} {u : va_W}
theorem kReti {post : Int32 → va_W → Prop} {v : Int32} (hx : p.tables.exec = Jvm.exec) (hb : c.code = cc) (hr : meth.sig.returnType = some .int) (hlocks : meth.locks = false) (hd : decode cc pc = .ok (.ireturn, 1)) (hc : cells ≤ mc) (hs : slots ≤ ms) (hK : va_K D kC tys s) (hS : va_S A s.heap H locs) (hP : va_P D kC u H) (hD : va_D A u) (hpost : post v u) :
    W p l e R s m args below meth c H locs cells slots (MQ below (va_Qi post (kB D tys A) A) args s mc ms A) (F0 m pc ls [.int v]) :=
  W.widen hc hs (W.iret (v := v) hx hb hr (fun t ht hW => ⟨⟨v, u, rfl, hpost, by rw [ht]; exact hP, va_K.moved hW.alike hK, hD⟩, hS.F ht⟩) hS.2.2 hd hlocks)
theorem kRetz {post : Int32 → va_W → Prop} {v : Int32} (hx : p.tables.exec = Jvm.exec) (hb : c.code = cc) (hr : meth.sig.returnType = some .boolean) (hlocks : meth.locks = false) (hd : decode cc pc = .ok (.ireturn, 1)) (hn : v = 0 ∨ v = 1) (hc : cells ≤ mc) (hs : slots ≤ ms) (hK : va_K D kC tys s) (hS : va_S A s.heap H locs) (hP : va_P D kC u H) (hD : va_D A u) (hpost : post v u) :
    W p l e R s m args below meth c H locs cells slots (MQ below (va_Qi post (kB D tys A) A) args s mc ms A) (F0 m pc ls [.int v]) :=
  W.widen hc hs (W.zret (v := v) hx hb hr (by rcases hn with h | h <;> rw [h] <;> rfl) (fun t ht hW => ⟨⟨v, u, rfl, hpost, by rw [ht]; exact hP, va_K.moved hW.alike hK, hD⟩, hS.F ht⟩) hS.2.2 hd hlocks)
theorem kRetv {post : va_W → Prop} (hx : p.tables.exec = Jvm.exec) (hb : c.code = cc) (hr : meth.sig.returnType = none) (hlocks : meth.locks = false) (hd : decode cc pc = .ok (.return_, 1)) (hc : cells ≤ mc) (hs : slots ≤ ms) (hK : va_K D kC tys s) (hS : va_S A s.heap H locs) (hP : va_P D kC u H) (hD : va_D A u) (hpost : post u) :
    W p l e R s m args below meth c H locs cells slots (MQ below (va_Qv post (kB D tys A) A) args s mc ms A) (F0 m pc ls []) :=
  W.widen hc hs (W.vret hx hb hr (fun t ht hW => ⟨⟨u, rfl, hpost, by rw [ht]; exact hP, va_K.moved hW.alike hK, hD⟩, hS.F ht⟩) hS.2.2 hd hlocks)
/-- a callee's exception goes on to the caller -/
theorem kOut {Qc : Array Value → State → Outcome → State → Prop} {px : String → va_W → Prop} {E : String} {ce : Cell} {q : Addr} {rest : List Value} (hno : ∀ x ∈ c.exceptionTable.toList, False) (hlocks : meth.locks = false) (hce : H[q]? = some ce) (hcv : ce.vm = .none) (hcl : s.vm.findClass E = some ce.cls) (hc : cells ≤ mc) (hs : slots ≤ ms) (hK : va_K D kC tys s) (hS : va_S A s.heap H locs) (hP : va_P D kC u H) (hD : va_D A u) (hpx : px E u) :
    vx_W p l e R s m args below meth c H locs cells slots (vx_MQ below Qc (kXC D tys A px) args s mc ms A) (F0 m pc ls rest) q :=
  vx_out (E := E) (fun x hx => (hno x hx).elim) hlocks hce hcv hcl (fun t ht ha => ⟨u, trivial, ⟨hpx, by rw [ht]; exact hP, va_K.moved ha hK, hD⟩, hS.F ht⟩) hS.2.2 hc hs
/-- 'throw new NoSuchElementException("text")' in a method of FrameRow -/
theorem kThrowN {Qc : Array Value → State → Outcome → State → Prop} {px : String → va_W → Prop} {Ts : List Cond} {text : String} {is : Nat} {rest : List Value} (hx : p.tables.exec = Jvm.exec) (hb : c.code = cc) (htr : l.stackTraces = false) (hml : c.maxLocals = ls.size) (hown : s.vm.findClass RX0 = some m.cls) (hts : ∀ w ∈ Ts, w.before args s = true) (hZ : kZ A s s.heap) (hno : ∀ x ∈ c.exceptionTable.toList, False) (hlocks : meth.locks = false)
    (hk : Cond.classLink RX0 56 nx_N ∈ Ts) (hi : Cond.initialized nx_N ∈ Ts) (hstr : (is, text) ∈ kStr) (hat : ∀ w ∈ (nx_at RX0 60).filter goodWord, w ∈ Ts)
    (d0 : decode cc pc = .ok (.new 56, 3)) (d3 : decode cc (pc + 3) = .ok (.dup, 1)) (d4 : decode cc (pc + 4) = .ok (.ldc is, 2)) (d6 : decode cc (pc + 6) = .ok (.invokespecial 60, 3)) (d9 : decode cc (pc + 9) = .ok (.athrow, 1))
    (hRf : 5 < R.frames) (hRl : (rest.map fun v => v.category).sum + 82 ≤ R.locals) (hRc : cells + 1 ≤ R.cells) (hRs : slots + 6 ≤ R.slots) (hc : cells + 1 ≤ mc) (hs : slots + 6 ≤ ms) (hK : va_K D kC tys s) (hS : va_S A s.heap H locs) (hP : va_P D kC u H) (hD : va_D A u) (hpx : px nx_N u) :
    W p l e R s m args below meth c H locs cells slots (vx_MQ below Qc (kXC D tys A px) args s mc ms A) (F0 m pc ls rest) := by
  obtain ⟨sa, hsa⟩ := hZ.2.2.1 _ hstr
  exact nx_throw (own := RX0) (text := text) hx hb htr hown (hts _ hk) (hts _ hi) hsa (fun w hw => by
    by_cases g : goodWord w = true
    · exact hts w (hat w (List.mem_filter.mpr ⟨hw, g⟩))
    · have h9 : w ∈ kOth := List.mem_filter.mpr ⟨List.mem_append_left _ hw, by simpa using g⟩
      exact va_tabs (kIsO_on (kOth_is w h9)) (u := s) (U := s) rfl (hZ.2.2.2.1 w h9)) kNot hZ.1 hZ.2.1 hS hml.symm d0 d3 d4 d6 d9 (fun x h => (hno x h).elim) hRf hRl hRc hRs hlocks
    (fun t ha hsz hq => ⟨u, trivial, ⟨hpx, hP.kept (fun k x hk => hq x.1 (hP k x hk).lt), va_K.moved ha hK, hD⟩, Nat.le_trans hS.1 hsz, fun q h1 h2 => (hq q (Nat.lt_of_lt_of_le h1 hS.1)).trans (hS.2.1 q h1 h2)⟩) hS.2.2 hc hs
theorem kThrowA {Qc : Array Value → State → Outcome → State → Prop} {px : String → va_W → Prop} {Ts : List Cond} {text : String} {is : Nat} {rest : List Value} (hx : p.tables.exec = Jvm.exec) (hb : c.code = cc) (htr : l.stackTraces = false) (hml : c.maxLocals = ls.size) (hown : s.vm.findClass RX0 = some m.cls) (hts : ∀ w ∈ Ts, w.before args s = true) (hZ : kZ A s s.heap) (hno : ∀ x ∈ c.exceptionTable.toList, False) (hlocks : meth.locks = false)
    (hk : Cond.classLink RX0 77 "java/lang/IllegalArgumentException" ∈ Ts) (hi : Cond.initialized "java/lang/IllegalArgumentException" ∈ Ts) (hstr : (is, text) ∈ kStr) (hat : ∀ w ∈ (vx_atS RX0 81 "java/lang/IllegalArgumentException" ["java/lang/RuntimeException", "java/lang/Exception"]).filter goodWord, w ∈ Ts)
    (d0 : decode cc pc = .ok (.new 77, 3)) (d3 : decode cc (pc + 3) = .ok (.dup, 1)) (d4 : decode cc (pc + 4) = .ok (.ldc is, 2)) (d6 : decode cc (pc + 6) = .ok (.invokespecial 81, 3)) (d9 : decode cc (pc + 9) = .ok (.athrow, 1))
    (hRf : 5 < R.frames) (hRl : (rest.map fun v => v.category).sum + 82 ≤ R.locals) (hRc : cells + 1 ≤ R.cells) (hRs : slots + 6 ≤ R.slots) (hc : cells + 1 ≤ mc) (hs : slots + 6 ≤ ms) (hK : va_K D kC tys s) (hS : va_S A s.heap H locs) (hP : va_P D kC u H) (hD : va_D A u) (hpx : px "java/lang/IllegalArgumentException" u) :
    W p l e R s m args below meth c H locs cells slots (vx_MQ below Qc (kXC D tys A px) args s mc ms A) (F0 m pc ls rest) := by
  obtain ⟨sa, hsa⟩ := hZ.2.2.1 _ hstr
  exact vx_throwS (own := RX0) (cls := "java/lang/IllegalArgumentException") (text := text) (names := ["java/lang/RuntimeException", "java/lang/Exception"]) hx hb htr hown (by decide +kernel) (by decide +kernel) (hts _ hk) (hts _ hi) hsa (fun w hw => by
    by_cases g : goodWord w = true
    · exact hts w (hat w (List.mem_filter.mpr ⟨hw, g⟩))
    · have h9 : w ∈ kOth := List.mem_filter.mpr ⟨List.mem_append_right _ (List.mem_append_left _ hw), by simpa using g⟩
      exact va_tabs (kIsO_on (kOth_is w h9)) (u := s) (U := s) rfl (hZ.2.2.2.1 w h9)) kThrowAot hZ.1 hZ.2.1 hS hml.symm d0 d3 d4 d6 d9 (fun x h => (hno x h).elim) hRf hRl hRc hRs hlocks
    (fun t ha hsz hq => ⟨u, trivial, ⟨hpx, hP.kept (fun k x hk => hq x.1 (hP k x hk).lt), va_K.moved ha hK, hD⟩, Nat.le_trans hS.1 hsz, fun q h1 h2 => (hq q (Nat.lt_of_lt_of_le h1 hS.1)).trans (hS.2.1 q h1 h2)⟩) hS.2.2 hc hs
theorem kThrowS {Qc : Array Value → State → Outcome → State → Prop} {px : String → va_W → Prop} {Ts : List Cond} {text : String} {is : Nat} {rest : List Value} (hx : p.tables.exec = Jvm.exec) (hb : c.code = cc) (htr : l.stackTraces = false) (hml : c.maxLocals = ls.size) (hown : s.vm.findClass RX0 = some m.cls) (hts : ∀ w ∈ Ts, w.before args s = true) (hZ : kZ A s s.heap) (hno : ∀ x ∈ c.exceptionTable.toList, False) (hlocks : meth.locks = false)
    (hk : Cond.classLink RX0 33 "java/lang/IllegalStateException" ∈ Ts) (hi : Cond.initialized "java/lang/IllegalStateException" ∈ Ts) (hstr : (is, text) ∈ kStr) (hat : ∀ w ∈ (vx_atS RX0 37 "java/lang/IllegalStateException" ["java/lang/RuntimeException", "java/lang/Exception"]).filter goodWord, w ∈ Ts)
    (d0 : decode cc pc = .ok (.new 33, 3)) (d3 : decode cc (pc + 3) = .ok (.dup, 1)) (d4 : decode cc (pc + 4) = .ok (.ldc is, 2)) (d6 : decode cc (pc + 6) = .ok (.invokespecial 37, 3)) (d9 : decode cc (pc + 9) = .ok (.athrow, 1))
    (hRf : 5 < R.frames) (hRl : (rest.map fun v => v.category).sum + 82 ≤ R.locals) (hRc : cells + 1 ≤ R.cells) (hRs : slots + 6 ≤ R.slots) (hc : cells + 1 ≤ mc) (hs : slots + 6 ≤ ms) (hK : va_K D kC tys s) (hS : va_S A s.heap H locs) (hP : va_P D kC u H) (hD : va_D A u) (hpx : px "java/lang/IllegalStateException" u) :
    W p l e R s m args below meth c H locs cells slots (vx_MQ below Qc (kXC D tys A px) args s mc ms A) (F0 m pc ls rest) := by
  obtain ⟨sa, hsa⟩ := hZ.2.2.1 _ hstr
  exact vx_throwS (own := RX0) (cls := "java/lang/IllegalStateException") (text := text) (names := ["java/lang/RuntimeException", "java/lang/Exception"]) hx hb htr hown (by decide +kernel) (by decide +kernel) (hts _ hk) (hts _ hi) hsa (fun w hw => by
    by_cases g : goodWord w = true
    · exact hts w (hat w (List.mem_filter.mpr ⟨hw, g⟩))
    · have h9 : w ∈ kOth := List.mem_filter.mpr ⟨List.mem_append_right _ (List.mem_append_right _ hw), by simpa using g⟩
      exact va_tabs (kIsO_on (kOth_is w h9)) (u := s) (U := s) rfl (hZ.2.2.2.1 w h9)) kThrowSot hZ.1 hZ.2.1 hS hml.symm d0 d3 d4 d6 d9 (fun x h => (hno x h).elim) hRf hRl hRc hRs hlocks
    (fun t ha hsz hq => ⟨u, trivial, ⟨hpx, hP.kept (fun k x hk => hq x.1 (hP k x hk).lt), va_K.moved ha hK, hD⟩, Nat.le_trans hS.1 hsz, fun q h1 h2 => (hq q (Nat.lt_of_lt_of_le h1 hS.1)).trans (hS.2.1 q h1 h2)⟩) hS.2.2 hc hs
end ENDS
end KIT
