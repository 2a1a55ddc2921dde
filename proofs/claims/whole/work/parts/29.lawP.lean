/-! THE CLAIM OUT OF ONE WALK OF THE LAW'S BODY. Your part is whole_start (and what it stands on); all else here is the same for every law, but numbers. -/
def R_law : String := "FrameRowLaw"
def lw_P (b : Addr) (xs : List Int32) (args : Array Value) (s : State) : Prop := args = #[.ref b] ∧ s.IntsAt b xs ∧ xs.length ≤ 2048 ∧ (Jvm.Cond.and given_1 narrow_1).before args s = true
def lw_Q (_ : Array Value) (s : State) (o : Outcome) (t : State) : Prop := o = .returned (some (.int 1)) ∧ Framed s o t [] 601024 7293033
def lw_Z (below : List Frame) (a : Array Value) (s : State) : State → Prop := fun t => ∃ o, t.status = .running ∧ Ended t below o ∧ lw_Q a s o t
/-- the law's own end, with 1 on the stack, nothing written that was there before, its room as the claim has it -/
theorem lw_ret {p : Program} {l : Launch} {e : Env} {s : State} {m : MethodId} {below : List Frame} {meth : Method} {c : Code} {b : Nat} (hx : p.tables.exec = Jvm.exec) (hb : c.code = code) (hr : meth.sig.returnType = ret) (hlocks : meth.locks = false) {pc : Nat} {H : Heap} {ls : Array Slot} (hdg : decode code pc = .ok (.ireturn, 1)) : W p l e room_1 s m #[Value.ref b] below meth c H [] 601024 7293033 (lw_Z below #[Value.ref b] s) (F0 m pc ls [.int 1]) := by
  intro T hT X
  obtain ⟨fs, hret, hrun, hended, hW, hframe⟩ := X.leave (v := some (.int 1)) (hlocks := hlocks) (fun h => by rw [hr] at h; cases h)
  have hmeth' : T.vm.method? m = some meth := X.method'
  refine ⟨T.setFrames fs, ?_, .returned (some (.int 1)), hrun, hended, rfl, ⟨_, rfl⟩, hW, hframe⟩
  jvm_step X.here [X.here.top, hx, hb, hdg, hmeth', hr, ret, narrow_b1]
  (try refine ⟨rfl, ?_⟩); (try refine ⟨rfl, ?_⟩)
  first | (intro acts; rw [hret _ acts rfl rfl rfl]) | rw [hret _ _ rfl rfl rfl]
  exact Steps.refl _
/-- what holds at the law's entry: the machine, the code, the tables' words (any of lw_tbl by 'hts w (by decide +kernel)'), the script of L ints xs at the cell b, what the Statement gives of the start (any of its parts by flat_of_before) -/
def lw_At (p : Program) (s : State) (m : MethodId) (meth : Method) (c : Code) (b L : Nat) (xs : Nat → Int32) : Prop :=
  p.tables.exec = Jvm.exec ∧ c.code = code ∧ meth.sig.returnType = ret ∧ c.maxLocals = 7 ∧ s.vm.findClass R_law = some m.cls ∧ (∀ w ∈ lw_tbl, w.before #[Value.ref b] s = true) ∧ va_X b L xs s s.heap ∧ b < s.heap.size ∧ meth.locks = false ∧ (Jvm.Cond.and given_1 narrow_1).before #[Value.ref b] s = true
section LAWP
abbrev wL (h0 h1 h2 k0 k1 k2 k3 k4 k5 k6 o : Nat) (cI cL : ClassId) (f g : Nat → Int32) (L : Nat) (ca cam : Int32) (ow sl gl : Nat → Int32) (F : Nat) (th mn : Int32) (va ki ra : Nat → Int32) (v : Nat → Int64) : va_W :=
  wX h0 h1 h2 cI f g (nI L) ca ++ (wM k0 k1 k2 k3 k4 k5 k6 cI th (nI F) cam ow sl gl mn va ki ra ++ [(o, .inl (cL, 1, .inr (.inl v)))])
theorem lg_eq {a b : Int64} (h : a = b) : lg_cmp a b = nI 0 := by
  subst h
  simp [lg_cmp, nI_0]
theorem inR_pos {x : Int32} {n : Nat} (hn : n < 2147483648) (h : inR x n) (h0 : ¬ x = 0) : 0 < x := by
  obtain ⟨j, hj, rfl⟩ := h
  rcases Nat.eq_zero_or_pos j with e | e
  · subst e; exact absurd nI_0 h0
  · exact Int32.not_le.mp (nI_nle e (by omega))
variable {f g : Nat → Int32} {L : Nat} {ow sl gl : Nat → Int32} {F : Nat}
theorem Rel.hF1 (h : Rel f g L ow sl gl F) {x : Int32} (h1 : inR x 4) (h2 : (rw_ ow F).count x < 64) : F < 256 := by
  obtain ⟨mu, hmu, rfl⟩ := h1
  have h3 := sN_lt h.1 hmu h2
  rw [cs_eq ow F h.2.2.1] at h3
  omega
theorem Rel.hc1 (h : Rel f g L ow sl gl F) {x : Int32} (h1 : inR x 4) : 1 ≤ (rw_ ow F).count x := by
  obtain ⟨mu, hmu, rfl⟩ := h1
  exact (h.1.2 mu hmu).1
theorem Rel.getv (h : Rel f g L ow sl gl F) {mu a : Nat} {r : Int32} (hmu : mu < 4) (ha : a < 24) (hv : (a < 8 ∧ ∃ q, q < F ∧ ow q = nI mu ∧ (rw_ ow q).count (nI mu) = (rw_ ow F).count (nI mu) - 1 ∧ r = sl (8 * q + a)) ∨ (8 ≤ a ∧ r = gl (a - 8))) : f (idxP (cnts ow F) mu a) = r := by
  unfold idxP
  rcases hv with ⟨h1, q, hq, ho, hc, rfl⟩ | ⟨h1, rfl⟩
  · rw [if_pos h1]; exact (h.at hmu hq ho hc h1).2
  · rw [if_neg (by omega)]; exact h.gat (by omega)
theorem inR_nn {x : Int32} {n : Nat} (hn : n < 2147483648) (h : inR x n) : ¬ x < 0 := ((inR_iff hn).mp h).1
theorem Rel.putS (h : Rel f g L ow sl gl F) {mu a q : Nat} {z : Int32} (hmu : mu < 4) (ha : a < 8) (hq : q < F) (ho : ow q = nI mu) (hc : (rw_ ow q).count (nI mu) = (rw_ ow F).count (nI mu) - 1) (hz : inR z 1000001) : Rel (upd f (idxP (cnts ow F) mu a) z) g L ow (upd sl (8 * q + a) z) gl F := by
  unfold idxP
  rw [if_pos ha]
  exact h.put hmu hq ho hc ha (inR_nn (by decide) hz)
theorem Rel.putG (h : Rel f g L ow sl gl F) {mu a : Nat} {z : Int32} (h1 : 8 ≤ a) (ha : a < 24) (hz : inR z 1000001) : Rel (upd f (idxP (cnts ow F) mu a) z) g L ow sl (upd gl (a - 8) z) F := by
  unfold idxP
  rw [if_neg (by omega)]
  exact h.gput (by omega) (inR_nn (by decide) hz)
theorem Rel.holds (h : Rel f g L ow sl gl F) {x : Int32} : nI ((rw_ f L).count x) = nI (if x = 0 then 8 * F + 16 - (ps (rowL ow sl gl F)).length else (ps (rowL ow sl gl F)).count x) := by
  congr 1
  rw [h.eps]
  by_cases e : x = 0
  · subst e
    have h1 := nz_count0 (rw_ f L)
    rw [rw_len] at h1
    have h2 := h.hL
    rw [if_pos rfl]; omega
  · rw [if_neg e, nz_count e]
theorem Rel.turnc (h : Rel f g L ow sl gl F) {x : Int32} : nI ((rw_ f L).count x) = nI ((rw_ sl (8 * F)).count x + (rw_ gl 16).count x) := by
  congr 1
  rw [h.2.2.2.1]
  unfold rowL
  rw [List.count_append, ct_count h.2.2.1]
theorem Rel.turn (h : Rel f g L ow sl gl F) {x y : Int32} (hy : inR y 1000001) : Rel (fun t => if 0 ≤ t ∧ t < L ∧ f t = x then y else f t) g L ow (fun t => if 0 ≤ t ∧ t < 8 * F ∧ sl t = x then y else sl t) (fun t => if 0 ≤ t ∧ t < 16 ∧ gl t = x then y else gl t) F := by
  have key : ∀ (q : Nat → Int32) (N : Nat) (t : Nat), t < N → (if 0 ≤ t ∧ t < N ∧ q t = x then y else q t) = (fun z => if z = x then y else z) (q t) := fun q N t ht => by
    show _ = if q t = x then y else q t
    by_cases e : q t = x
    · rw [if_pos e, if_pos ⟨Nat.zero_le _, ht, e⟩]
    · rw [if_neg e, if_neg (fun q2 => e q2.2.2)]
  refine h.map (φ := fun z => if z = x then y else z) (key f L) (key sl (8 * F)) (key gl 16) (fun v hv => ?_)
  show ¬ (if v = x then y else v) < 0
  split
  · exact inR_nn (by decide) hy
  · exact h.2.2.2.2 v hv
theorem Rel.renew (h : Rel f g L ow sl gl F) {f' : Nat → Int32} (hf : ∀ t, t < L → f' t = rk (dd (nz (rw_ f L))) (f t)) : Rel f' g L ow (fun t => if t < 8 * F then rk (dd (ps (rowL ow sl gl F))) (sl t) else sl t) (fun t => if t < 16 then rk (dd (ps (rowL ow sl gl F))) (gl t) else gl t) F := by
  refine h.map (φ := rk (dd (ps (rowL ow sl gl F)))) (fun t ht => by rw [h.eps]; exact hf t ht) (fun t ht => if_pos ht) (fun t ht => if_pos ht) (fun v hv => rk_pos ?_)
  have h1 := dd_len (ps (rowL ow sl gl F))
  have h2 := ps_le (rowL ow sl gl F)
  have h3 := rowL_le ow sl gl F
  have h4 := h.hF
  omega
theorem cnt_in {x r : Int32} {a b c d e : Int32} (h : (x = 0 ∧ r = a) ∨ (x = 1 ∧ r = b) ∨ (x = 2 ∧ r = c) ∨ (x = 3 ∧ r = d) ∨ (x = 4 ∧ r = e)) : inR x 5 := by
  rcases h with ⟨rfl, -⟩ | ⟨rfl, -⟩ | ⟨rfl, -⟩ | ⟨rfl, -⟩ | ⟨rfl, -⟩
  · exact ⟨0, by decide, by decide⟩
  · exact ⟨1, by decide, by decide⟩
  · exact ⟨2, by decide, by decide⟩
  · exact ⟨3, by decide, by decide⟩
  · exact ⟨4, by decide, by decide⟩
theorem Rel.count (h : Rel f g L ow sl gl F) {x r r2 ca : Int32} (h1 : (x = 0 ∧ r = nI (sN (cnts ow F) 4)) ∨ (x = 1 ∧ r = nI (L - (rw_ f L).count 0)) ∨ (x = 2 ∧ r = nI (mxN (cnts ow F) 4)) ∨ (x = 3 ∧ r = ca) ∨ (x = 4 ∧ r = nI (dd (nz (rw_ f L))).length))
    (h2 : (x = 0 ∧ r2 = nI F) ∨ (x = 1 ∧ r2 = nI (ps (rowL ow sl gl F)).length) ∨ (x = 2 ∧ r2 = nI (mxN (cnts ow F) 4)) ∨ (x = 3 ∧ r2 = ca) ∨ (x = 4 ∧ r2 = nI (dd (ps (rowL ow sl gl F))).length)) : r = r2 := by
  rw [h.eps] at h2
  have e0 : nI (sN (cnts ow F) 4) = nI F := by rw [cs_eq ow F h.2.2.1]
  have e1 : nI (L - (rw_ f L).count 0) = nI (nz (rw_ f L)).length := by
    have := nz_count0 (rw_ f L)
    rw [rw_len] at this
    congr 1; omega
  rcases h1 with ⟨a1, b1⟩ | ⟨a1, b1⟩ | ⟨a1, b1⟩ | ⟨a1, b1⟩ | ⟨a1, b1⟩ <;> rcases h2 with ⟨a2, b2⟩ | ⟨a2, b2⟩ | ⟨a2, b2⟩ | ⟨a2, b2⟩ | ⟨a2, b2⟩ <;>
    first
    | (rw [b1, b2]; done)
    | (rw [b1, b2]; exact e0)
    | (rw [b1, b2]; exact e1)
    | (rw [a1] at a2; exact absurd a2 (by decide))
end LAWP
