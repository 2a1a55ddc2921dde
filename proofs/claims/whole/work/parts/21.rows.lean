section ROWS
/-- the first j slots of the frame k -/
def fr8 (sl : Nat → Int32) (k j : Nat) : List Int32 := rw_ (fun s => sl (8 * k + s)) j
/-- the slots of the frames of x among the first F, in their order -/
def bl (ow sl : Nat → Int32) (x : Int32) : Nat → List Int32 | 0 => [] | F + 1 => bl ow sl x F ++ (if ow F = x then fr8 sl F 8 else [])
/-- the slots of the mutators below m -/
def ct (ow sl : Nat → Int32) (F : Nat) : Nat → List Int32 | 0 => [] | m + 1 => ct ow sl F m ++ bl ow sl (nI m) F
/-- all values in the order -/
def rowL (ow sl gl : Nat → Int32) (F : Nat) : List Int32 := ct ow sl F 4 ++ rw_ gl 16
def cnts (ow : Nat → Int32) (F : Nat) : Nat → Nat := fun j => (rw_ ow F).count (nI j)
theorem fr8_len (sl : Nat → Int32) (k j : Nat) : (fr8 sl k j).length = j := rw_len ..
theorem fr8_succ (sl : Nat → Int32) (k j : Nat) : fr8 sl k (j + 1) = fr8 sl k j ++ [sl (8 * k + j)] := rw_succ ..
theorem cn_succ (ow : Nat → Int32) (F : Nat) (x : Int32) : (rw_ ow (F + 1)).count x = (rw_ ow F).count x + (if ow F = x then 1 else 0) := by
  rw [rw_succ, List.count_append]
  by_cases h : ow F = x
  · rw [if_pos h, h, List.count_cons_self, List.count_nil]
  · rw [if_neg h, List.count_cons_of_ne h, List.count_nil]
theorem bl_len (ow sl : Nat → Int32) (x : Int32) : ∀ F, (bl ow sl x F).length = 8 * (rw_ ow F).count x
  | 0 => rfl
  | F + 1 => by
    show (bl ow sl x F ++ _).length = _
    rw [List.length_append, bl_len ow sl x F, cn_succ]
    by_cases h : ow F = x
    · rw [if_pos h, if_pos h, fr8_len]; omega
    · rw [if_neg h, if_neg h]; rfl
theorem ct_len (ow sl : Nat → Int32) (F : Nat) : ∀ m, (ct ow sl F m).length = 8 * sN (cnts ow F) m
  | 0 => rfl
  | m + 1 => by
    show (ct ow sl F m ++ bl ow sl (nI m) F).length = 8 * (sN (cnts ow F) m + cnts ow F m)
    rw [List.length_append, ct_len ow sl F m, bl_len]; unfold cnts; omega
theorem cn_mono (ow : Nat → Int32) (x : Int32) {a b : Nat} (h : a ≤ b) : (rw_ ow a).count x ≤ (rw_ ow b).count x := rw_count_mono ow x h
theorem nI_in4 {x : Int32} : (if x = nI 0 then 1 else 0) + (if x = nI 1 then 1 else 0) + (if x = nI 2 then 1 else 0) + (if x = nI 3 then 1 else 0) ≤ (1 : Nat) := by
  by_cases h0 : x = nI 0
  · subst h0; decide
  · by_cases h1 : x = nI 1
    · subst h1; decide
    · by_cases h2 : x = nI 2
      · subst h2; decide
      · rw [if_neg h0, if_neg h1, if_neg h2]; split <;> decide
theorem sN4 (n : Nat → Nat) : sN n 4 = n 0 + n 1 + n 2 + n 3 := by
  show (0 + n 0) + n 1 + n 2 + n 3 = _
  omega
theorem cs_le (ow : Nat → Int32) : ∀ F, sN (cnts ow F) 4 ≤ F
  | 0 => Nat.le_refl 0
  | F + 1 => by
    have h1 := cs_le ow F
    rw [sN4] at h1 ⊢
    unfold cnts at *
    rw [cn_succ, cn_succ, cn_succ, cn_succ]
    have h2 := nI_in4 (x := ow F)
    omega
/-- each owner is a mutator -/
def okO (ow : Nat → Int32) (F : Nat) : Prop := ∀ k, k < F → inR (ow k) 4
theorem cs_eq (ow : Nat → Int32) : ∀ F, okO ow F → sN (cnts ow F) 4 = F
  | 0, _ => rfl
  | F + 1, h => by
    have h1 := cs_eq ow F (fun k hk => h k (by omega))
    obtain ⟨j, hj, e⟩ := h F (by omega)
    rw [sN4] at h1 ⊢
    unfold cnts at *
    rw [cn_succ, cn_succ, cn_succ, cn_succ, e]
    have h2 : (if nI j = nI 0 then 1 else 0) + (if nI j = nI 1 then 1 else 0) + (if nI j = nI 2 then 1 else 0) + (if nI j = nI 3 then 1 else 0) = (1 : Nat) := by
      rcases (show j = 0 ∨ j = 1 ∨ j = 2 ∨ j = 3 by omega) with rfl | rfl | rfl | rfl <;> decide
    omega
theorem rowL_len (ow sl gl : Nat → Int32) {F : Nat} (h : okO ow F) : (rowL ow sl gl F).length = 8 * F + 16 := by
  unfold rowL
  rw [List.length_append, ct_len, rw_len, cs_eq ow F h]
theorem rowL_le (ow sl gl : Nat → Int32) (F : Nat) : (rowL ow sl gl F).length ≤ 8 * F + 16 := by
  unfold rowL
  rw [List.length_append, ct_len, rw_len]
  have := cs_le ow F
  omega
/-- a slot's place lies inside -/
theorem gat_lt {ow sl : Nat → Int32} {F i j k : Nat} (hi : i < 4) (hj : j < F) (hk : k < 8) (ho : ow j = nI i) :
    (ct ow sl F i ++ (bl ow sl (nI i) j ++ fr8 sl j k)).length < 8 * F := by
  rw [List.length_append, List.length_append, ct_len, bl_len, fr8_len]
  have h1 := cs_le ow F
  have h2 := sN_mono (n := cnts ow F) hi
  have h3 := cn_mono ow (nI i) (show j + 1 ≤ F by omega)
  rw [cn_succ, if_pos ho] at h3
  unfold cnts at *
  omega
/-! the table of different values -/
def Tab (ki ra : Nat → Int32) (D : List Int32) : Prop :=
  (∀ t, t < 4099 → ki t ≠ 0 → ki t ∈ D) ∧ (∀ t q, t < 4099 → q < 4099 → ki t ≠ 0 → ki t = ki q → t = q) ∧
  (∀ x, x ∈ D → ∃ d, ki (hsh x d) = x ∧ ra (hsh x d) = nI (D.idxOf x + 1) ∧ ∀ j, j < d → ki (hsh x j) ≠ 0) ∧ (rw_ ki 4099).count 0 + D.length = 4099 ∧ ∀ x, x ∈ D → x ≠ 0
theorem tab_free {ki ra : Nat → Int32} {D : List Int32} (h : Tab ki ra D) (hD : D.length < 4099) : ∃ E, E < 4099 ∧ ki E = 0 := by
  have h1 := h.2.2.2.1
  have h2 : 0 < (rw_ ki 4099).count 0 := by omega
  obtain ⟨E, hE, he⟩ := rw_mem.mp (List.count_pos_iff.mp h2)
  exact ⟨E, hE, he⟩
/-- what is found of a value that stands in the table -/
theorem tab_in {ki ra : Nat → Int32} {D : List Int32} (h : Tab ki ra D) {v : Int32} (hv : v ≠ 0) (hm : v ∈ D) {d : Nat} (hf : ki (hsh v d) = 0 ∨ ki (hsh v d) = v) (hp : ∀ j, j < d → ki (hsh v j) ≠ 0 ∧ ki (hsh v j) ≠ v) : ki (hsh v d) = v ∧ ra (hsh v d) = nI (D.idxOf v + 1) := by
  obtain ⟨e, h1, h2, h3⟩ := h.2.2.1 v hm
  have hkv : ki (hsh v d) = v := by
    rcases hf with hf | hf
    · exfalso
      rcases Nat.lt_trichotomy d e with q | q | q
      · exact h3 d q hf
      · rw [q, h1] at hf; exact hv hf
      · exact (hp e q).2 h1
    · exact hf
  have he : hsh v d = hsh v e := h.2.1 _ _ (hsh_lt v d) (hsh_lt v e) (by rw [hkv]; exact hv) (by rw [hkv, h1])
  exact ⟨hkv, by rw [he]; exact h2⟩
theorem tab_no {ki ra : Nat → Int32} {D : List Int32} (h : Tab ki ra D) {v : Int32} (hv : v ≠ 0) (hm : v ∉ D) {d : Nat} (hf : ki (hsh v d) = 0 ∨ ki (hsh v d) = v) : ki (hsh v d) = 0 := by
  rcases hf with hf | hf
  · exact hf
  · exact absurd (by have := h.1 _ (hsh_lt v d) (by rw [hf]; exact hv); rw [hf] at this; exact this) hm
theorem cnt_upd {ki : Nat → Int32} {p L : Nat} {v : Int32} (hp : p < L) (h0 : ki p = 0) (hv : v ≠ 0) : (rw_ (upd ki p v) L).count 0 + 1 = (rw_ ki L).count 0 := by
  induction L with
  | zero => omega
  | succ L ih =>
    rw [cn_succ, cn_succ]
    rcases Nat.lt_or_ge p L with h | h
    · have := ih h
      rw [pk_un (show L ≠ p by omega)]
      omega
    · have e : p = L := by omega
      subst e
      rw [pk_us, if_neg hv, if_pos h0, rw_congr (g := ki) (fun i hi => pk_un (by omega))]
theorem tab_put {ki ra : Nat → Int32} {D : List Int32} (h : Tab ki ra D) {v : Int32} (hv : v ≠ 0) (hm : v ∉ D) {d : Nat} (hf : ki (hsh v d) = 0) (hp : ∀ j, j < d → ki (hsh v j) ≠ 0 ∧ ki (hsh v j) ≠ v) :
    Tab (upd ki (hsh v d) v) (upd ra (hsh v d) (nI (D.length + 1))) (D ++ [v]) := by
  obtain ⟨a1, a2, a3, a4, a5⟩ := h
  have hno : ∀ t, t < 4099 → ki t ≠ v := fun t ht e => hm (by have := a1 t ht (by rw [e]; exact hv); rw [e] at this; exact this)
  refine ⟨fun t ht h0 => ?_, fun t q ht hq h0 e => ?_, fun x hx => ?_, ?_, fun x hx => ?_⟩
  · by_cases e : t = hsh v d
    · rw [e, pk_us]; exact List.mem_append_right _ List.mem_cons_self
    · rw [pk_un e] at h0 ⊢; exact List.mem_append_left _ (a1 t ht h0)
  · by_cases e1 : t = hsh v d
    · by_cases e2 : q = hsh v d
      · rw [e1, e2]
      · rw [e1, pk_us, pk_un e2] at e; exact absurd e.symm (hno q hq)
    · by_cases e2 : q = hsh v d
      · rw [e2, pk_us, pk_un e1] at e; exact absurd e (hno t ht)
      · rw [pk_un e1, pk_un e2] at e; rw [pk_un e1] at h0; exact a2 t q ht hq h0 e
  · rcases List.mem_append.mp hx with hx | hx
    · obtain ⟨e, b1, b2, b3⟩ := a3 x hx
      have hne : x ≠ v := fun q => hm (q ▸ hx)
      have hx0 : x ≠ 0 := a5 x hx
      have hpl : hsh x e ≠ hsh v d := fun q => by rw [q, hf] at b1; exact hx0 b1.symm
      refine ⟨e, by rw [pk_un hpl]; exact b1, by rw [pk_un hpl, List.idxOf_append, if_pos hx]; exact b2, fun j hj => ?_⟩
      by_cases q : hsh x j = hsh v d
      · rw [q, pk_us]; exact hv
      · rw [pk_un q]; exact b3 j hj
    · rw [List.mem_singleton] at hx
      subst hx
      refine ⟨d, pk_us, by rw [pk_us, List.idxOf_append, if_neg hm]; simp [Nat.add_comm], fun j hj => ?_⟩
      by_cases q : hsh x j = hsh x d
      · rw [q, pk_us]; exact hv
      · rw [pk_un q]; exact (hp j hj).1
  · have := cnt_upd (hsh_lt v d) hf hv
    rw [List.length_append]
    simp only [List.length_cons, List.length_nil]
    omega
  · rcases List.mem_append.mp hx with hx | hx
    · exact a5 x hx
    · rw [List.mem_singleton] at hx; rw [hx]; exact hv
end ROWS
