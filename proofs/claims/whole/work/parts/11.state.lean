section STATE
abbrev r0 : Room := { frames := 0, cells := 0, slots := 0, locals := 0 }
abbrev r1 : Room := { frames := 10, cells := 0, slots := 0, locals := 100 }
abbrev r2 : Room := { frames := 20, cells := 0, slots := 0, locals := 200 }
abbrev r3 : Room := { frames := 30, cells := 0, slots := 0, locals := 300 }
abbrev r4 : Room := { frames := 40, cells := 0, slots := 0, locals := 400 }
abbrev x1 : Room := { frames := 10, cells := 1, slots := 6, locals := 100 }
abbrev x2 : Room := { frames := 50, cells := 4, slots := 24, locals := 500 }
abbrev x3 : Room := { frames := 60, cells := 4, slots := 24, locals := 600 }
abbrev tI (cI : ClassId) : List (ClassId × FieldType) := [(cI, .int)]
/-- the cells of a FrameRow: the row f, the counts g, length, calls -/
abbrev wX (h0 h1 h2 : Nat) (cI : ClassId) (f g : Nat → Int32) (len ca : Int32) : va_W := [(h0, .inr (0, [.ref h1, .ref h2, .int len, .int ca])), (h1, .inl (cI, 2064, .inl f)), (h2, .inl (cI, 4, .inl g))]
/-- the cells of a FrameRowModel -/
abbrev wM (k0 k1 k2 k3 k4 k5 k6 : Nat) (cI : ClassId) (th fr ca : Int32) (ow sl gl : Nat → Int32) (mn : Int32) (va ki ra : Nat → Int32) : va_W := [(k0, .inr (1, [.int th, .int fr, .int ca, .ref k1, .ref k2, .ref k3, .int mn, .ref k4, .ref k5, .ref k6])), (k1, .inl (cI, 256, .inl ow)), (k2, .inl (cI, 2048, .inl sl)), (k3, .inl (cI, 16, .inl gl)), (k4, .inl (cI, 2064, .inl va)), (k5, .inl (cI, 4099, .inl ki)), (k6, .inl (cI, 4099, .inl ra))]
theorem kLoop {Q : Nat → Prop} (E : Nat) (h : ∀ i, i ≤ E → (i < E → Q (i + 1)) → Q i) : ∀ i, i ≤ E → Q i := by
  intro i hi
  have key : ∀ j i, i + j = E → Q i := by
    intro j
    induction j with
    | zero => intro i h1; exact h i (by omega) (fun h2 => absurd h2 (by omega))
    | succ j ih => intro i h1; exact h i (by omega) (fun _ => ih (i + 1) (by omega))
  exact key (E - i) i (by omega)
def inR (x : Int32) (n : Nat) : Prop := ∃ j : Nat, j < n ∧ x = nI j
theorem inR_iff {x : Int32} {n : Nat} (hn : n < 2147483648) : inR x n ↔ ¬ x < 0 ∧ x < nI n := by
  constructor
  · rintro ⟨j, hj, rfl⟩
    exact ⟨nI_pos (by omega), nI_lt hj hn⟩
  · rintro ⟨h0, h1⟩
    exact kRange hn h0 h1
theorem inR_le {x : Int32} {n : Nat} (hn : n + 1 < 2147483648) : inR x (n + 1) ↔ ¬ x < 0 ∧ x ≤ nI n := by
  constructor
  · rintro ⟨j, hj, rfl⟩
    exact ⟨nI_pos (by omega), nI_le (by omega) (by omega)⟩
  · rintro ⟨h0, h1⟩
    obtain ⟨j, hj, rfl⟩ := nI_of h0
    exact ⟨j, by have := (nI_leI hj (by omega)).mp h1; omega, rfl⟩
def sN (n : Nat → Nat) : Nat → Nat | 0 => 0 | k + 1 => sN n k + n k
theorem sN_le {n : Nat → Nat} {b : Nat} : ∀ {k : Nat}, (∀ j, j < k → n j ≤ b) → sN n k ≤ k * b
  | 0, _ => by simp [sN]
  | k + 1, h => by
    have h1 := sN_le (n := n) (b := b) (k := k) (fun j hj => h j (by omega))
    have h2 := h k (by omega)
    show sN n k + n k ≤ (k + 1) * b
    rw [Nat.succ_mul]; omega
theorem sN_mono {n : Nat → Nat} {i : Nat} : ∀ {k : Nat}, i < k → sN n i + n i ≤ sN n k
  | 0, h => by omega
  | k + 1, h => by
    show _ ≤ sN n k + n k
    rcases Nat.lt_or_ge i k with h1 | h1
    · have := sN_mono (n := n) (i := i) (k := k) h1; omega
    · have : i = k := by omega
      subst this; omega
/-- the class's numbers: counts n, each 1 .. 64, the length -/
def okC (g : Nat → Int32) (n : Nat → Nat) : Prop := (∀ j, j < 4 → g j = nI (n j)) ∧ ∀ j, j < 4 → 1 ≤ n j ∧ n j ≤ 64
theorem okC.le {g : Nat → Int32} {n : Nat → Nat} (h : okC g n) : sN n 4 ≤ 256 := sN_le (b := 64) (k := 4) (fun j hj => (h.2 j hj).2)
theorem okC.ge {g : Nat → Int32} {n : Nat → Nat} (h : okC g n) : 4 ≤ sN n 4 := by
  have h0 := (h.2 0 (by decide)).1
  have h1 := (h.2 1 (by decide)).1
  have h2 := (h.2 2 (by decide)).1
  have h3 := (h.2 3 (by decide)).1
  show 4 ≤ ((0 + n 0) + n 1 + n 2) + n 3
  omega
abbrev lenN (n : Nat → Nat) : Nat := 8 * sN n 4 + 16
/-- the first L places as a list -/
def rw_ (f : Nat → Int32) (L : Nat) : List Int32 := (List.range L).map f
theorem rw_succ (f : Nat → Int32) (L : Nat) : rw_ f (L + 1) = rw_ f L ++ [f L] := by simp [rw_, List.range_succ]
theorem rw_zero (f : Nat → Int32) : rw_ f 0 = [] := rfl
theorem rw_len (f : Nat → Int32) (L : Nat) : (rw_ f L).length = L := by simp [rw_]
theorem rw_get {f : Nat → Int32} {L i : Nat} (h : i < L) : (rw_ f L)[i]? = some (f i) := by simp [rw_, h]
theorem rw_mem {f : Nat → Int32} {L : Nat} {x : Int32} : x ∈ rw_ f L ↔ ∃ i, i < L ∧ f i = x := by simp [rw_]
theorem rw_congr {f g : Nat → Int32} {L : Nat} (h : ∀ i, i < L → f i = g i) : rw_ f L = rw_ g L := by
  apply List.map_congr_left
  intro i hi
  exact h i (List.mem_range.mp hi)
theorem rw_count_le (f : Nat → Int32) (L : Nat) (v : Int32) : (rw_ f L).count v ≤ L := by
  have := List.count_le_length (a := v) (l := rw_ f L)
  rw [rw_len] at this
  exact this
/-- the values of a list that are not 0 -/
def nz (l : List Int32) : List Int32 := l.filter (fun x => decide (x ≠ 0))
theorem nz_app (a b : List Int32) : nz (a ++ b) = nz a ++ nz b := by simp [nz]
theorem nz_1 {x : Int32} (h : x ≠ 0) : nz [x] = [x] := by simp [nz, h]
theorem nz_0 {x : Int32} (h : x = 0) : nz [x] = [] := by simp [nz, h]
theorem nz_mem {l : List Int32} {x : Int32} : x ∈ nz l ↔ x ∈ l ∧ x ≠ 0 := by simp [nz]
theorem nz_le (l : List Int32) : (nz l).length ≤ l.length := List.length_filter_le ..
/-- different values in the order of their first places -/
def ddS (D : List Int32) (x : Int32) : List Int32 := if x ∈ D then D else D ++ [x]
def dd (l : List Int32) : List Int32 := l.foldl ddS []
theorem dd_snoc (l : List Int32) (x : Int32) : dd (l ++ [x]) = ddS (dd l) x := by simp [dd, List.foldl_append]
theorem dd_len (l : List Int32) : (dd l).length ≤ l.length := by
  suffices h : ∀ (D : List Int32), (l.foldl ddS D).length ≤ D.length + l.length by simpa [dd] using h []
  induction l with
  | nil => intro D; simp
  | cons x t ih =>
    intro D
    rw [List.foldl_cons]
    have h1 := ih (ddS D x)
    have h2 : (ddS D x).length ≤ D.length + 1 := by unfold ddS; split <;> simp
    simp only [List.length_cons]; omega
theorem dd_mem (l : List Int32) : ∀ y, y ∈ dd l ↔ y ∈ l := by
  suffices h : ∀ (D : List Int32) (y : Int32), y ∈ l.foldl ddS D ↔ y ∈ D ∨ y ∈ l by intro y; simpa [dd] using h [] y
  induction l with
  | nil => intro D y; simp
  | cons x t ih =>
    intro D y
    rw [List.foldl_cons, ih, List.mem_cons]
    unfold ddS
    by_cases hx : x ∈ D
    · rw [if_pos hx]
      constructor
      · rintro (h | h)
        · exact Or.inl h
        · exact Or.inr (Or.inr h)
      · rintro (h | h | h)
        · exact Or.inl h
        · rw [h]; exact Or.inl hx
        · exact Or.inr h
    · rw [if_neg hx, List.mem_append, List.mem_singleton]
      constructor
      · rintro ((h | h) | h)
        · exact Or.inl h
        · exact Or.inr (Or.inl h)
        · exact Or.inr (Or.inr h)
      · rintro (h | h | h)
        · exact Or.inl (Or.inl h)
        · exact Or.inl (Or.inr h)
        · exact Or.inr h
theorem ddS_in {D : List Int32} {x : Int32} (h : x ∈ D) : ddS D x = D := if_pos h
theorem ddS_new {D : List Int32} {x : Int32} (h : x ∉ D) : ddS D x = D ++ [x] := if_neg h
/-- a value's number among the different ones, from 1; 0 of 0 -/
def rk (D : List Int32) (x : Int32) : Int32 := if x = 0 then 0 else nI (D.idxOf x + 1)
theorem rw_count_mono (f : Nat → Int32) (v : Int32) {a b : Nat} (h : a ≤ b) : (rw_ f a).count v ≤ (rw_ f b).count v := by
  induction b with
  | zero => have : a = 0 := by omega
            subst this; exact Nat.le_refl _
  | succ b ih =>
    rcases Nat.lt_or_ge b a with h1 | h1
    · have : a = b + 1 := by omega
      subst this; exact Nat.le_refl _
    · rw [rw_succ, List.count_append]
      exact Nat.le_trans (ih h1) (Nat.le_add_right ..)
theorem rp_start {f : Nat → Int32} {a : Nat} {v w : Int32} : (fun t => if a ≤ t ∧ t < a ∧ f t = v then w else f t) = f := by
  funext t
  rw [if_neg (by omega)]
theorem rp_keep {f : Nat → Int32} {a i : Nat} {v w : Int32} (h : ¬ f i = v) : (fun t => if a ≤ t ∧ t < i ∧ f t = v then w else f t) = (fun t => if a ≤ t ∧ t < i + 1 ∧ f t = v then w else f t) := by
  funext t
  by_cases ht : t = i
  · subst ht
    rw [if_neg (by omega), if_neg (fun q => h q.2.2)]
  · by_cases h2 : a ≤ t ∧ t < i ∧ f t = v
    · rw [if_pos h2, if_pos ⟨h2.1, by omega, h2.2.2⟩]
    · rw [if_neg h2, if_neg (fun q => h2 ⟨q.1, by omega, q.2.2⟩)]
theorem rp_put {f : Nat → Int32} {a i : Nat} {v w : Int32} (hai : a ≤ i) (h : f i = v) : upd (fun t => if a ≤ t ∧ t < i ∧ f t = v then w else f t) i w = (fun t => if a ≤ t ∧ t < i + 1 ∧ f t = v then w else f t) := by
  funext t
  by_cases ht : t = i
  · subst ht
    rw [pk_us, if_pos ⟨hai, by omega, h⟩]
  · rw [pk_un ht]
    by_cases h2 : a ≤ t ∧ t < i ∧ f t = v
    · rw [if_pos h2, if_pos ⟨h2.1, by omega, h2.2.2⟩]
    · rw [if_neg h2, if_neg (fun q => h2 ⟨q.1, by omega, q.2.2⟩)]
def mxN (n : Nat → Nat) : Nat → Nat | 0 => 0 | k + 1 => if mxN n k < n k then n k else mxN n k
theorem mxN_le {n : Nat → Nat} {b : Nat} : ∀ {k : Nat}, (∀ j, j < k → n j ≤ b) → mxN n k ≤ b
  | 0, _ => Nat.zero_le _
  | k + 1, h => by
    have h1 := mxN_le (n := n) (b := b) (k := k) (fun j hj => h j (by omega))
    have h2 := h k (by omega)
    show (if mxN n k < n k then n k else mxN n k) ≤ b
    split <;> assumption
theorem mxN_step {n : Nat → Nat} {i : Nat} (h1 : mxN n i < 2147483648) (h2 : n i < 2147483648) : (if nI (mxN n i) < nI (n i) then nI (n i) else nI (mxN n i)) = nI (mxN n (i + 1)) := by
  show _ = nI (if mxN n i < n i then n i else mxN n i)
  by_cases h : mxN n i < n i
  · rw [if_pos h, if_pos ((nI_ltI h1 h2).mpr h)]
  · rw [if_neg h, if_neg (fun q => h ((nI_ltI h1 h2).mp q))]
theorem kCopyAux {x : Int32} : fits .int (.int x) = true := rfl
end STATE
section COPY
variable {p : Program} {l : Launch} {e : Env} {R : Room} {s : State} {m : MethodId} {args : Array Value} {below : List Frame} {meth : Method} {c : Code} {H H0 : Heap} {locs : List Loc} {cells slots : Nat} {Q : State → Prop} {cc : ByteArray} {pc : Nat} {ls : Array Slot} {rest : List Value} {D : va_G} {cl : List vw_C} {tys : List (ClassId × FieldType)} {A : Nat → Prop} {ws : va_W}
theorem kCopy {own : String} {index a n0 sp dp n : Nat} {cA : ClassId} {f : Nat → Int32} {Ts : List Cond} (hx : p.tables.exec = Jvm.exec) (hb : c.code = cc) (hml : c.maxLocals = ls.size) (hown : s.vm.findClass own = some m.cls) (hts : ∀ w ∈ Ts, w.before args s = true) (w1 : Cond.methodLink own index arraycopyName ∈ Ts) (w2 : Cond.native arraycopyName ∈ Ts) (w3 : Cond.static arraycopyName ∈ Ts) (w4 : Cond.initialized "java/lang/System" ∈ Ts)
    (hK : va_K D cl tys s) (hP : va_P D cl ws H) (hD : va_D A ws) (hS : va_S A H0 H locs) (q0 t0 : Nat) (ha : ws[q0]? = some (a, .inl (cA, n0, .inl f))) (ht : tys[t0]? = some (cA, .int)) (h4 : sp + n ≤ n0) (h5 : dp + n ≤ n0) (hn0 : n0 < 2147483648)
    (hframes : 1 ≤ R.frames) (hlocals : (rest.map fun v => v.category).sum + (nativeFrameWords "java/lang/System" "arraycopy" 5 + 11) ≤ R.locals) (hdg : decode cc pc = .ok (.invokestatic index, 3))
    (kk : ∀ (H1 : Heap) (locs1 : List Loc), va_P D cl (ws.set q0 (a, .inl (cA, n0, .inl (va_cpy f f sp dp n)))) H1 → va_D A (ws.set q0 (a, .inl (cA, n0, .inl (va_cpy f f sp dp n)))) → va_S A H0 H1 locs1 → W p l e R s m args below meth c H1 locs1 cells slots Q (F0 m (pc + 3) ls rest)) :
    W p l e R s m args below meth c H locs cells slots Q (F0 m pc ls (.int (nI n) :: .int (nI dp) :: .ref a :: .int (nI sp) :: .ref a :: rest)) := by
  refine va_copyi hx hb hml hown (hts _ w1) (hts _ w2) (hts _ w3) (hts _ w4) hK hP hD hS q0 q0 t0 t0 ha ha ht ht rfl (nI_pos (by omega)) (nI_pos (by omega)) (nI_pos (by omega)) (by rw [nI_clamp (by omega), nI_clamp (by omega)]; exact h4) (by rw [nI_clamp (by omega), nI_clamp (by omega)]; exact h5) (fun _ _ => rfl) hframes hlocals hdg ?_
  rw [nI_clamp (n := sp) (by omega), nI_clamp (n := dp) (by omega), nI_clamp (n := n) (by omega)]
  exact kk
end COPY
