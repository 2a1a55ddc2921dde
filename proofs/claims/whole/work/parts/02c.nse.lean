section NX
/-! 'throw new NoSuchElementException("text")': its constructor's super call bears another pool number than the one that vx_throwS knows -/
abbrev nx_N : String := "java/util/NoSuchElementException"
abbrev nx_R : String := "java/lang/RuntimeException"
def nx_b : ByteArray := ⟨#[0x2a, 0x2b, 0xb7, 0x00, 0x0d, 0xb1]⟩
theorem nx_b0 : decode nx_b 0 = .ok (.aload_n 0, 1) := by decide +kernel
theorem nx_b1 : decode nx_b 1 = .ok (.aload_n 1, 1) := by decide +kernel
theorem nx_b2 : decode nx_b 2 = .ok (.invokespecial 13, 3) := by decide +kernel
theorem nx_b5 : decode nx_b 5 = .ok (.return_, 1) := by decide +kernel
/-- the words that name NoSuchElementException itself -/
def nx_own (own : String) (ic : Nat) : List Cond := [.methodLink own ic (Bundle.initS nx_N), .instantiable nx_N 6, .castable nx_N nx_N, .selects nx_N Bundle.tFill0 Bundle.tFill0, .selects nx_N Bundle.tFill Bundle.tFill,
   .lays nx_N Bundle.tN "cause" "Ljava/lang/Throwable;", .lays nx_N Bundle.tN "stackTrace" Bundle.steD, .lays nx_N Bundle.tN "suppressedExceptions" Bundle.listD, .lays nx_N Bundle.tN "detailMessage" "Ljava/lang/String;",
   .isRef (.static Bundle.tN "UNASSIGNED_STACK" Bundle.steD), .isRef (.static Bundle.tN "SUPPRESSED_SENTINEL" Bundle.listD),
   .fieldLink Bundle.tN 198 Bundle.tN "backtrace" "Ljava/lang/Object;", .lays Bundle.tN Bundle.tN "backtrace" "Ljava/lang/Object;", .lays nx_N Bundle.tN "backtrace" "Ljava/lang/Object;"]
def nx_all (own : String) (ic : Nat) : List Cond := Bundle.throwableAtoms ++ (Bundle.throwableSAtoms ++ (Bundle.passSAtoms nx_N nx_R 13 nx_b ++ (Bundle.chainSAtoms nx_R ["java/lang/Exception"] ++ nx_own own ic)))
def nx_at (own : String) (ic : Nat) : List Cond := (nx_all own ic).filter vx_no
variable {p : Program} {l : Launch} {e : Env} {R : Room} {s : State} {m : MethodId} {args : Array Value} {below : List Frame} {meth : Method} {c : Code}
set_option maxHeartbeats 1000000 in
theorem nx_ctor {W : State} {locs : List Loc} {cells slots : Nat} (X : Stand p l e R s m args below meth c W locs cells slots) (hexec : p.tables.exec = Jvm.exec) (htr : e.platform.stackTraces = false) {own : String} {ic : Nat}
    (hown : s.vm.findClass own = some m.cls) (h : ∀ w ∈ nx_all own ic, w.before args s = true) (hlocs : ∀ x ∈ locs, ∀ cell, s.heap[x.base]? = some cell → cell.vm.isStatics = false)
    {a : Addr} {cX : ClassId} {kX : Class} (hfX : s.vm.findClass nx_N = some cX) (hkX : s.vm.classes[cX]? = some kX) (hcell : W.heap[a]? = some (freshCell cX kX)) (hnew : s.heap.size ≤ a) {msg : Value} (hmsg : msg.isRef = true)
    {g : JFrame} (hg : g.method = m) (hsize : g.locals.size = c.maxLocals) (hlocked : g.locked = none) (hentered : g.entered = []) {rest : List Value} (hstack : g.stack = msg :: .ref a :: .ref a :: rest)
    (hd6 : decode c.code g.pc = .ok (.invokespecial ic, 3)) (hd9 : decode c.code (g.pc + 3) = .ok (.athrow, 1)) (hout : ∀ x ∈ c.exceptionTable.toList, covers x (g.pc + 3) = false)
    (hRf : 5 < R.frames) (hRl : 2 * g.monitorRoom + ((Value.ref a :: rest).map fun v => v.category).sum + 81 ≤ R.locals) (hlocks : meth.locks = false) :
    ∃ U : State, Steps p.tables e below (W.setTop g) U ∧ U.status = .running ∧ Ended U below (.threw a) ∧ s.WarmedH U.vm ∧ s.sameButNew ({ U with vm := s.vm } : State) locs cells slots ∧ ∃ ce, U.heap[a]? = some ce ∧ ce.vm = .none ∧ s.vm.findClass nx_N = some ce.cls := by
  have howns : e.platform.frameOwnsMonitors = true := by rw [X.admits.platform]
  have hfin : e.platform.finalization = false := by rw [X.admits.platform]
  have hpl : e.platform.magicAccessors = ({} : Platform).magicAccessors := by rw [X.admits.platform]
  have hA : ∀ w ∈ Bundle.throwableAtoms, w.before args s = true := fun w hw => h w (List.mem_append_left _ hw)
  have hB : ∀ w ∈ Bundle.throwableSAtoms, w.before args s = true := fun w hw => h w (List.mem_append_right _ (List.mem_append_left _ hw))
  have hP : ∀ w ∈ Bundle.passSAtoms nx_N nx_R 13 nx_b, w.before args s = true := fun w hw => h w (List.mem_append_right _ (List.mem_append_right _ (List.mem_append_left _ hw)))
  have hC : ∀ w ∈ Bundle.chainSAtoms nx_R ["java/lang/Exception"], w.before args s = true := fun w hw => h w (List.mem_append_right _ (List.mem_append_right _ (List.mem_append_right _ (List.mem_append_left _ hw))))
  have hO : ∀ w ∈ nx_own own ic, w.before args s = true := fun w hw => h w (List.mem_append_right _ (List.mem_append_right _ (List.mem_append_right _ (List.mem_append_right _ hw))))
  obtain ⟨T, Z0, L, -, Y⟩ := ThrowableC.of_atoms (args := args) howns hfin hpl hA
  obtain ⟨Z, M, LZ, LM, hnZ⟩ := Init0T.ofS_atoms (args := args) hpl L Y hB
  obtain ⟨P1, L1, hP1m, hsup1⟩ := PassC.ofS_atoms (args := args) (s := s) hpl (X := nx_N) (Y := nx_R) (by decide +kernel) (by decide +kernel) nx_b0 nx_b1 nx_b2 nx_b5 hP
  obtain ⟨P2, Ps, hlen, L2, hL, hP2m, hl2, hlink⟩ := Bundle.chainS (args := args) hpl hnZ ["java/lang/Exception"] nx_R (by decide +kernel) (by decide +kernel) hC
  have hlink1 : P1.sup = P2.m := Option.some.inj (hsup1.symm.trans hP2m)
  have hfound : s.vm.findClass nx_N = some P1.m.cls := findClass_of_methodNamed hP1m
  cases Option.some.inj (hfX.symm.trans hfound)
  obtain ⟨c1, k1, hc1, hk, hord, -, -, -⟩ := Cond.instantiable_spec (hO (.instantiable nx_N 6) (by simp [nx_own]))
  cases Option.some.inj (hc1.symm.trans hfound)
  cases Option.some.inj (hkX.symm.trans hk)
  have hsel : ∀ {f : MethodId} {y : MethodName}, y.cls ≠ "java/lang/invoke/MethodHandle" ∧ y.cls ≠ "java/lang/invoke/VarHandle" → s.methodNamed? y = some f → (Cond.selects nx_N y y).before args s = true → selectMethod e.platform s.vm P1.m.cls f = .method f := by
    intro f y hy hf hs
    obtain ⟨c2, r2, m2, q1, q2, q3, q4, -⟩ := Cond.selects_spec hs
    cases Option.some.inj (q1.symm.trans hfound)
    cases Option.some.inj (q2.symm.trans (State.methodFound?_of_named hf hy))
    cases Option.some.inj (q3.symm.trans hf)
    rw [Launch.admits_selectMethod X.admits]; exact q4
  obtain ⟨cS, hcS, hiss⟩ := Y.statics
  obtain ⟨u0, hu0⟩ := Cond.staticRefV Y.unassigned L.unassignedStatic L.statics hcS hiss (hO (.isRef (.static Bundle.tN "UNASSIGNED_STACK" Bundle.steD)) (by simp [nx_own]))
  obtain ⟨sen, hsen⟩ := Cond.staticRefV Y.sentinel L.sentinelStatic L.statics hcS hiss (hO (.isRef (.static Bundle.tN "SUPPRESSED_SENTINEL" Bundle.listD)) (by simp [nx_own]))
  obtain ⟨ci, i, fB, hki, hgi, hai, hsB, -, hnB, htB, hffB⟩ := Cond.ownField (t := .object "java/lang/Object") Y.found L.cls (by decide +kernel) (hO (.fieldLink Bundle.tN 198 Bundle.tN "backtrace" "Ljava/lang/Object;") (by simp [nx_own])) (hO (.lays Bundle.tN Bundle.tN "backtrace" "Ljava/lang/Object;") (by simp [nx_own])) e.platform hpl
  obtain ⟨cW, hcW, heW, -, hkeep⟩ := X.same.2.2.2.2.2 T.aS cS hcS
  have hcWs : W.heap[T.aS]? = some cW := hcW
  have hnl : ∀ j, (⟨T.aS, j⟩ : Loc) ∉ locs := fun j hj => by
    have h1 := hlocs _ hj cS hcS
    rw [hiss] at h1; cases h1
  have hkn : cW.vm ≠ .unknown := by
    rw [heW]; intro hu
    rw [show cS.vm = .unknown from hu] at hiss
    cases hiss
  have hne : T.aS ≠ a := Nat.ne_of_lt (Nat.lt_of_lt_of_le (Array.getElem?_eq_some_iff.mp hcS).1 hnew)
  obtain ⟨iM, hffM⟩ := Y.msg
  obtain ⟨tyC, dC, hdC, hdnC⟩ := Cond.laysAt hfound hk Y.cause (hO (.lays nx_N Bundle.tN "cause" "Ljava/lang/Throwable;") (by simp [nx_own]))
  obtain ⟨tyS, dS, hdS, hdnS⟩ := Cond.laysAt hfound hk Y.stack (hO (.lays nx_N Bundle.tN "stackTrace" Bundle.steD) (by simp [nx_own]))
  obtain ⟨tyP, dP, hdP, hdnP⟩ := Cond.laysAt hfound hk Y.supp (hO (.lays nx_N Bundle.tN "suppressedExceptions" Bundle.listD) (by simp [nx_own]))
  obtain ⟨tyM, dM, hdM, hdnM⟩ := Cond.laysAt hfound hk hffM (hO (.lays nx_N Bundle.tN "detailMessage" "Ljava/lang/String;") (by simp [nx_own]))
  obtain ⟨tyB, dB, hdB, hdnB⟩ := Cond.laysAt hfound hk hffB (hO (.lays nx_N Bundle.tN "backtrace" "Ljava/lang/Object;") (by simp [nx_own]))
  have bC := Cond.laysApart hdB hdC hdnB hdnC (by rw [hnB, Y.causeName]; decide)
  have bS := Cond.laysApart hdB hdS hdnB hdnS (by rw [hnB, Y.stackName]; decide)
  have bP := Cond.laysApart hdB hdP hdnB hdnP (by rw [hnB, Y.suppName]; decide)
  have hskip : SkipFacts T e.platform s (fun u => u) u0 ((preparedCellV T.toThrowableT (freshCell P1.m.cls kX) a u0 sen).withEntry W.cur) :=
    ⟨{ ci198 := ci, i198 := i, fBack := fB }, ⟨hki, hgi, hai, hsB⟩, by
      have h1 := fresh_default (c := P1.m.cls) tyB
      rw [htB] at h1
      simpa [preparedCellV, Cell.setSlot, Cell.withEntry, Array.getElem?_setIfInBounds, bC, bS, bP, bC.symm, bS.symm, bP.symm, defaultValue] using h1, fun _ _ => rfl⟩
  obtain ⟨tm, mC, cdC, kC, vm1, hnC, -, -, -, -, -, -, -, hW1, st1⟩ := Steps.initColdS (tb := p.tables) (e := e) (below := below) (s := s) (U := W) X.here hexec X.warmed hpl hown (t := Bundle.initS nx_N) rfl rfl (by decide +kernel)
    (hO (.methodLink own ic (Bundle.initS nx_N)) (by simp [nx_own])) (hP (.instanceMethod (Bundle.initS nx_N)) (by simp [Bundle.passSAtoms])) (bytes := nx_b) (maxL := 2) (hP (.code (Bundle.initS nx_N) nx_b 2 none) (by simp [Bundle.passSAtoms]))
    (f := g) hg (a := a) (msg := msg) (rest := .ref a :: rest) hstack hd6
  cases Option.some.inj (hnC.symm.trans hP1m)
  have X1 := X.noted hW1
  have hl9 : (P1 :: P2 :: Ps).length = 3 := by simp only [List.length_cons, hlen]; rfl
  obtain ⟨vm2, X2, st2⟩ := X1.ctorMessageOffV hexec (g := { g with stack := .ref a :: rest }) hg hsize T L Z LZ M LM (P1 :: P2 :: Ps)
    (fun Q hQ => by
      rcases List.mem_cons.mp hQ with rfl | hQ
      · exact L1
      · rcases List.mem_cons.mp hQ with rfl | hQ
        · exact L2
        · exact hL Q hQ) ⟨hlink1, hl2, hlink⟩ (u0 := u0) (sen := sen) (self := a) hmsg (cell := freshCell P1.m.cls kX) (cellS := cW)
    hcell (fun _ => by simp) (by simp) rfl rfl (hsel (by decide +kernel) Y.fill0 (hO (.selects nx_N Bundle.tFill0 Bundle.tFill0) (by simp [nx_own]))) (hsel (by decide +kernel) Y.fill (hO (.selects nx_N Bundle.tFill Bundle.tFill) (by simp [nx_own]))) hcWs hne hkn (by rw [hkeep _ (hnl _)]; exact hu0) (by rw [hkeep _ (hnl _)]; exact hsen)
    (Takes.of_laid hk hord tyC (by rw [Y.causeType]; rfl)) (Takes.of_laid hk hord tyS (by rw [Y.stackType]; exact fits_refV_array _ u0)) (Takes.of_laid hk hord tyP (by rw [Y.suppType]; exact fits_refV_object _ sen))
    (Takes.of_laid hk hord tyM (by rw [Y.msgType]; exact fits_refV_object _ ⟨msg, hmsg⟩)) Y.objLocals hskip htr [] hd6
    (by rw [hl9]; omega) (by rw [hl9]; exact hRl)
  obtain ⟨hwalk, hrun, hended, hWU, hsame⟩ := X2.athrowLeaves hexec (g := { g with stack := .ref a :: rest, pc := g.pc + 3 }) hg hlocked hentered hout (a := a) (rest := rest) rfl hd9
  have hlt : a < ((W.setVm vm1).setVm vm2).heap.size := (Array.getElem?_eq_some_iff.mp hcell).1
  have hU := heapAt_setCell_self (s := (W.setVm vm1).setVm vm2) (plainBareV T.toThrowableT (freshCell P1.m.cls kX) a u0 sen msg) hlt
  refine ⟨_, st1 _ (fun acts => ?_), hrun, hended, hWU, hsame.weaken (fun z hz hlt2 => ?_) (Nat.le_refl _) (Nat.le_refl _), _, hU, rfl, hfound⟩
  · rw [doInvoke_state]
    exact st2 _ hwalk
  · rcases List.mem_append.mp hz with h1 | h1
    · exact h1
    · exfalso
      have hb : z.base = a := by
        simp only [List.mem_cons, List.not_mem_nil, or_false] at h1
        rcases h1 with rfl | rfl | rfl | rfl | rfl <;> rfl
      rw [hb] at hlt2
      exact Nat.not_lt.mpr hnew hlt2
variable {H : Heap} {locs : List Loc} {cells slots : Nat} {Qc : Array Value → State → Outcome → State → Prop} {XC : String → State → State → Prop} {free : Addr → Prop} {ls : Array Slot} {rest : List Value}
theorem nx_throw {cc : ByteArray} {pc : Nat} (hexec : p.tables.exec = Jvm.exec) (hb : c.code = cc) (hl : l.stackTraces = false) {own text : String} {ik is ic mc ms sa : Nat} {A : Nat → Prop}
    (hown : s.vm.findClass own = some m.cls) (hk : (Cond.classLink own ik nx_N).before args s = true) (hini : (Cond.initialized nx_N).before args s = true) (hstr : vk_R own is text sa s) (hat : ∀ w ∈ nx_at own ic, w.before args s = true)
    (hgood : ∀ w ∈ Cond.classLink own ik nx_N :: Cond.initialized nx_N :: nx_at own ic, vx_ot w = true)
    (hU : vx_Zq Bundle.tN "UNASSIGNED_STACK" Bundle.steD A s s.heap) (hN : vx_Zq Bundle.tN "SUPPRESSED_SENTINEL" Bundle.listD A s s.heap) (hS : va_S A s.heap H locs) (hsize : ls.size = c.maxLocals)
    (d0 : decode cc pc = .ok (.new ik, 3)) (d3 : decode cc (pc + 3) = .ok (.dup, 1)) (d4 : decode cc (pc + 4) = .ok (.ldc is, 2)) (d6 : decode cc (pc + 6) = .ok (.invokespecial ic, 3)) (d9 : decode cc (pc + 9) = .ok (.athrow, 1))
    (hout : ∀ x ∈ c.exceptionTable.toList, covers x (pc + 9) = false)
    (hRf : 5 < R.frames) (hRl : (rest.map fun v => v.category).sum + 82 ≤ R.locals) (hRc : cells + 1 ≤ R.cells) (hRs : slots + 6 ≤ R.slots) (hlocks : meth.locks = false)
    (hx : ∀ t : State, s.vm.Alike t.vm → H.size ≤ t.heap.size → (∀ q : Nat, q < H.size → t.heap[q]? = H[q]?) → XC nx_N s t)
    (hf : ∀ z ∈ locs, free z.base) (hc : cells + 1 ≤ mc) (hs : slots + 6 ≤ ms) :
    W p l e R s m args below meth c H locs cells slots (vx_MQ below Qc XC args s mc ms free) (F0 m pc ls rest) := by
  intro T hT X
  have htr : e.platform.stackTraces = false := (show e.platform.stackTraces = l.stackTraces by rw [X.admits.platform]).trans hl
  have Y := vx_rebase X (R' := { frames := R.frames, locals := R.locals, cells := 1, slots := 6 }) (Nat.le_refl _) (Nat.le_refl _) hRc hRs
  obtain ⟨s2, hA⟩ : ∃ z, z = (T.setVm s.vm).setFrames (.invoking m args :: below) := ⟨_, rfl⟩
  rw [← hA] at Y
  have hvm : s2.vm = s.vm := by rw [hA]; rfl
  have hhp : s2.heap = H := by rw [hA]; exact hT
  have hW0 : s.WarmedH s2.vm := by rw [hvm]; exact State.WarmedH.refl s
  have hat2 : ∀ w ∈ nx_at own ic, w.before args s2 = true := fun w hw => vx_ot_at hW0 hvm.symm (hgood w (List.mem_cons_of_mem _ (List.mem_cons_of_mem _ hw))) (hat w hw)
  have hU2 : vx_Zq Bundle.tN "UNASSIGNED_STACK" Bundle.steD A s2 s2.heap := by rw [hhp]; exact vx_Zq.moved hW0.alike (hU.kept hS.2.1)
  have hN2 : vx_Zq Bundle.tN "SUPPRESSED_SENTINEL" Bundle.listD A s2 s2.heap := by rw [hhp]; exact vx_Zq.moved hW0.alike (hN.kept hS.2.1)
  have h : ∀ w ∈ nx_all own ic, w.before args s2 = true := vx_own hat2 (vx_isRefq hU2.1) (vx_isRefq hN2.1) hU2.2.word hN2.2.word
  have hown2 : s2.vm.findClass own = some m.cls := by rw [hvm]; exact hown
  have hins : (Cond.instantiable nx_N 6).before args s2 = true := h _ (List.mem_append_right _ (List.mem_append_right _ (List.mem_append_right _ (List.mem_append_right _ (by simp [nx_own])))))
  obtain ⟨vm1, cX, kX, hfX, hkX, -, -, X1, st1⟩ := Y.newCold hexec (own := own) (C := nx_N) (index := ik) (n := 6) hown2 (vx_ot_at hW0 hvm.symm (hgood _ List.mem_cons_self) hk) hins (vx_ot_at hW0 hvm.symm (hgood _ (List.mem_cons_of_mem _ List.mem_cons_self)) hini)
    (g := F0 m pc ls rest) rfl (by rw [hb]; exact d0) (Nat.le_refl _) (Nat.le_refl _)
  generalize hT1 : (T.setVm vm1).pushCell { cls := cX, slots := kX.instanceTypes.map defaultValue, vm := .none } = T1 at X1 st1
  have hcat : (Value.ref T.heap.size).category = 1 := rfl
  have hcellA : T1.heap[T.heap.size]? = some (freshCell cX kX) := by rw [← hT1]; exact State.heap_pushCell_size _ _
  have d3' : decode c.code (pc + 3) = .ok (.dup, 1) := by rw [hb]; exact d3
  have d4' : decode c.code (pc + 4) = .ok (.ldc is, 2) := by rw [hb]; exact d4
  have hstr2 : vk_R own is text sa s2 := vk_R.warm hW0 hstr
  obtain ⟨U, hsteps, hrun, hend, hW, hsame, ce, hce, hcv, hcl9⟩ := nx_ctor X1 hexec htr (own := own) (ic := ic) hown2 h (fun x hx => nomatch hx) hfX hkX hcellA (by rw [hhp, hT]; exact Nat.le_refl _) (msg := .ref sa) rfl
    (g := { method := m, pc := pc + 6, locals := ls, stack := .ref sa :: .ref T.heap.size :: .ref T.heap.size :: rest, locked := none }) rfl hsize rfl rfl (rest := rest) rfl
    (by rw [hb]; exact d6) (by rw [hb]; exact d9) hout hRf (by simp only [List.map_cons, List.sum_cons, hcat]; omega) hlocks
  obtain ⟨f1, f2⟩ := vx_frame hsame
  rw [hhp] at f1 f2
  have hWs : s.WarmedH U.vm := State.WarmedH.trans hW0 hW
  have hcl : s.vm.findClass nx_N = some ce.cls := by rw [hvm] at hcl9; exact hcl9
  have hall : s.sameButNew ({ U with vm := s.vm } : State) locs mc ms := by
    subst hA
    obtain ⟨e1, e2⟩ := hsame
    rw [State.setFrames_setFrames] at e1
    have h2 : (T.setVm s.vm).sameButNew ({ U with vm := s.vm } : State) [] (0 + 1) (0 + 6) := ⟨e1, e2⟩
    have h3 := X.same.trans h2
    rw [List.append_nil] at h3
    exact h3.mono hc hs
  refine ⟨U, ?_, .threw T.heap.size, hrun, hend, Or.inr ⟨T.heap.size, rfl, nx_N, ce, locs, hx U hWs.alike f1 (fun q hq => f2 q hq (fun z hz => nomatch hz)), hce, hcv, hcl, hWs, hall, hf⟩⟩
  refine st1 _ ?_
  show Steps p.tables e below (T1.setTop { method := m, pc := pc + 3, locals := ls, stack := .ref T.heap.size :: rest, locked := none }) _
  jvm_step X1.here [X1.here.top, hexec, d3', Value.category]
  exact X1.ldcString hexec (own := own) (text := text) (index := is) (a := sa) hown2 hstr2.1 hstr2.2
    (g := { method := m, pc := pc + 4, locals := ls, stack := .ref T.heap.size :: .ref T.heap.size :: rest, locked := none }) rfl d4' _ hsteps
end NX
