section REL
theorem nz_ps {l : List Int32} (h : ∀ v, v ∈ l → ¬ v < 0) : ps l = nz l := by
  unfold ps nz
  apply List.filter_congr
  intro x hx
  have h1 := h x hx
  by_cases e : x = 0
  · subst e; rfl
  · have h2 : 0 < x := Int32.lt_of_le_of_ne (Int32.not_lt.mp h1) (fun q => e q.symm)
    simp [e, h2]
theorem nz_count {l : List Int32} {x : Int32} (h : x ≠ 0) : (nz l).count x = l.count x := by
  unfold nz
  exact List.count_filter (by simp [h])
theorem nz_count0 (l : List Int32) : (nz l).length + l.count 0 = l.length := by
  induction l with
  | nil => rfl
  | cons a t ih =>
    by_cases h : a = 0
    · subst h
      rw [show nz ((0 : Int32) :: t) = nz t by simp [nz], List.count_cons_self, List.length_cons]; omega
    · rw [show nz (a :: t) = a :: nz t by simp [nz, h], List.count_cons_of_ne h, List.length_cons, List.length_cons]; omega
def bs (ow sl : Nat → Int32) (x : Int32) (a : Nat) : Nat → List Int32 | 0 => [] | n + 1 => bs ow sl x a n ++ (if ow (a + n) = x then fr8 sl (a + n) 8 else [])
theorem bl_bs (ow sl : Nat → Int32) (x : Int32) (a : Nat) : ∀ n, bl ow sl x (a + n) = bl ow sl x a ++ bs ow sl x a n
  | 0 => (List.append_nil _).symm
  | n + 1 => by
    show bl ow sl x (a + n) ++ _ = _ ++ (bs ow sl x a n ++ _)
    rw [bl_bs ow sl x a n, List.append_assoc]; rfl
theorem bl_at {ow sl : Nat → Int32} {x : Int32} {q F : Nat} (hq : q < F) (ho : ow q = x) : bl ow sl x F = bl ow sl x q ++ (fr8 sl q 8 ++ bs ow sl x (q + 1) (F - (q + 1))) := by
  have e : F = (q + 1) + (F - (q + 1)) := by omega
  rw [e, bl_bs, ← e]
  show (bl ow sl x q ++ _) ++ _ = _
  rw [if_pos ho, List.append_assoc]
def rs (ow sl gl : Nat → Int32) (F : Nat) : Nat → List Int32 | 0 => rw_ gl 16 | k + 1 => bl ow sl (nI (3 - k)) F ++ rs ow sl gl F k
theorem row_split {ow sl gl : Nat → Int32} {F mu : Nat} (h : mu < 4) : rowL ow sl gl F = ct ow sl F mu ++ (bl ow sl (nI mu) F ++ rs ow sl gl F (3 - mu)) := by
  rcases (show mu = 0 ∨ mu = 1 ∨ mu = 2 ∨ mu = 3 by omega) with rfl | rfl | rfl | rfl <;> simp [rowL, ct, rs, List.append_assoc]
theorem ct_congr {ow sl ow' sl' : Nat → Int32} {F F' : Nat} : ∀ {m : Nat}, (∀ j, j < m → bl ow' sl' (nI j) F' = bl ow sl (nI j) F) → ct ow' sl' F' m = ct ow sl F m
  | 0, _ => rfl
  | m + 1, h => by
    show ct ow' sl' F' m ++ _ = ct ow sl F m ++ _
    rw [ct_congr (m := m) (fun j hj => h j (by omega)), h m (by omega)]
theorem rs_congr {ow sl ow' sl' gl : Nat → Int32} {F F' mu : Nat} (hmu : mu < 4) (h : ∀ j, mu < j → j < 4 → bl ow' sl' (nI j) F' = bl ow sl (nI j) F) : rs ow' sl' gl F' (3 - mu) = rs ow sl gl F (3 - mu) := by
  have key : ∀ k, k ≤ 3 - mu → rs ow' sl' gl F' k = rs ow sl gl F k := by
    intro k
    induction k with
    | zero => intro _; rfl
    | succ k ih =>
      intro hk
      show bl ow' sl' _ F' ++ _ = bl ow sl _ F ++ _
      rw [ih (by omega), h (3 - k) (by omega) (by omega)]
  exact key _ (Nat.le_refl _)
theorem nI_ne4 {j mu : Nat} (hj : j < 4) (hmu : mu < 4) (h : j ≠ mu) : nI j ≠ nI mu := fun e => h ((nI_eq (by omega) (by omega)).mp e)
theorem row_change {ow sl ow' sl' gl : Nat → Int32} {F F' mu : Nat} (hmu : mu < 4) (h : ∀ z, z ≠ nI mu → bl ow' sl' z F' = bl ow sl z F) : rowL ow' sl' gl F' = ct ow sl F mu ++ (bl ow' sl' (nI mu) F' ++ rs ow sl gl F (3 - mu)) := by
  rw [row_split hmu, ct_congr (ow := ow) (sl := sl) (F := F) (fun j hj => h _ (nI_ne4 (by omega) hmu (by omega))), rs_congr (ow := ow) (sl := sl) (F := F) hmu (fun j h1 h2 => h _ (nI_ne4 h2 hmu (by omega)))]
theorem rw_val {f : Nat → Int32} {L i : Nat} {l : List Int32} {v : Int32} (h : rw_ f L = l) (hi : l[i]? = some v) : i < L ∧ f i = v := by
  rw [← h] at hi
  have h1 : i < L := by
    have := (List.getElem?_eq_some_iff.mp hi).1
    rw [rw_len] at this; exact this
  rw [rw_get h1] at hi
  exact ⟨h1, Option.some.inj hi⟩
theorem rw_set {f : Nat → Int32} {L i : Nat} {z : Int32} : rw_ (upd f i z) L = (rw_ f L).set i z := by
  apply List.ext_getElem?
  intro j
  rw [List.getElem?_set]
  by_cases hj : j < L
  · rw [rw_get hj]
    by_cases e : i = j
    · subst e; rw [if_pos rfl, if_pos (by rw [rw_len]; exact hj), pk_us]
    · rw [if_neg e, pk_un (fun q => e q.symm), rw_get hj]
  · have h1 : ∀ g : Nat → Int32, (rw_ g L)[j]? = none := fun g => List.getElem?_eq_none (by rw [rw_len]; omega)
    rw [h1]
    by_cases e : i = j
    · subst e; rw [if_pos rfl, if_neg (by rw [rw_len]; exact hj)]
    · rw [if_neg e, h1]
theorem rw_add (f : Nat → Int32) (a : Nat) : ∀ b, rw_ f (a + b) = rw_ f a ++ rw_ (fun s => f (a + s)) b
  | 0 => (List.append_nil _).symm
  | b + 1 => by rw [← Nat.add_assoc, rw_succ, rw_add f a b, rw_succ, List.append_assoc]
theorem rw_map {f f' : Nat → Int32} {L : Nat} {φ : Int32 → Int32} (h : ∀ t, t < L → f' t = φ (f t)) : rw_ f' L = (rw_ f L).map φ := by
  unfold rw_
  rw [List.map_map]
  apply List.map_congr_left
  intro i hi
  exact h i (List.mem_range.mp hi)
theorem rw_del {f f' : Nat → Int32} {L st d : Nat} {A M B : List Int32} (h : rw_ f L = A ++ (M ++ B)) (hA : A.length = st) (hM : M.length = d) (hf : ∀ t, t < L - d → f' t = delF f st d t) : rw_ f' (L - d) = A ++ B := by
  have hL : A.length + (M.length + B.length) = L := by have := congrArg List.length h; rw [rw_len, List.length_append, List.length_append] at this; exact this.symm
  apply List.ext_getElem?
  intro i
  by_cases hi : i < L - d
  · rw [rw_get hi, hf i hi]
    unfold delF
    by_cases h1 : i < st
    · rw [if_pos h1, List.getElem?_append_left (by omega)]
      have := rw_get (f := f) (L := L) (i := i) (by omega)
      rw [h, List.getElem?_append_left (by omega)] at this
      exact this.symm
    · rw [if_neg h1, List.getElem?_append_right (by omega)]
      have := rw_get (f := f) (L := L) (i := i + d) (by omega)
      rw [h, List.getElem?_append_right (by omega), List.getElem?_append_right (by omega)] at this
      rw [← this]; congr 1; omega
  · rw [List.getElem?_eq_none (by rw [rw_len]; omega), List.getElem?_eq_none (by rw [List.length_append]; omega)]
theorem rw_ins {f f' : Nat → Int32} {L st : Nat} {A B : List Int32} (h : rw_ f L = A ++ B) (hA : A.length = st) (hf : ∀ t, t < L + 8 → f' t = insF f st t) : rw_ f' (L + 8) = A ++ (List.replicate 8 0 ++ B) := by
  have hL : A.length + B.length = L := by have := congrArg List.length h; rw [rw_len, List.length_append] at this; exact this.symm
  apply List.ext_getElem?
  intro i
  by_cases hi : i < L + 8
  · rw [rw_get hi, hf i hi]
    unfold insF
    by_cases h1 : i < st
    · rw [if_pos h1, List.getElem?_append_left (by omega)]
      have := rw_get (f := f) (L := L) (i := i) (by omega)
      rw [h, List.getElem?_append_left (by omega)] at this
      exact this.symm
    · rw [if_neg h1, List.getElem?_append_right (by omega)]
      by_cases h2 : i < st + 8
      · rw [if_pos h2, List.getElem?_append_left (by rw [List.length_replicate]; omega), List.getElem?_replicate, if_pos (by omega)]
      · rw [if_neg h2, List.getElem?_append_right (by rw [List.length_replicate]; omega), List.length_replicate]
        have := rw_get (f := f) (L := L) (i := i - 8) (by omega)
        rw [h, List.getElem?_append_right (by omega)] at this
        rw [← this]; congr 1; omega
  · rw [List.getElem?_eq_none (by rw [rw_len]; omega), List.getElem?_eq_none (by rw [List.length_append, List.length_append, List.length_replicate]; omega)]
theorem bl_congr {ow sl ow' sl' : Nat → Int32} {z : Int32} : ∀ {F : Nat}, (∀ k, k < F → ow' k = ow k) → (∀ k s, k < F → s < 8 → ow k = z → sl' (8 * k + s) = sl (8 * k + s)) → bl ow' sl' z F = bl ow sl z F
  | 0, _, _ => rfl
  | F + 1, h1, h2 => by
    show bl ow' sl' z F ++ _ = bl ow sl z F ++ _
    rw [bl_congr (F := F) (fun k hk => h1 k (by omega)) (fun k s hk hs => h2 k s (by omega) hs), h1 F (by omega)]
    by_cases e : ow F = z
    · rw [if_pos e, if_pos e, show fr8 sl' F 8 = fr8 sl F 8 from rw_congr (fun s hs => h2 F s (by omega) hs e)]
    · rw [if_neg e, if_neg e]
theorem bs_congr {ow sl sl' : Nat → Int32} {z : Int32} {a : Nat} : ∀ {n : Nat}, (∀ t, 8 * a ≤ t → sl' t = sl t) → bs ow sl' z a n = bs ow sl z a n
  | 0, _ => rfl
  | n + 1, h => by
    show bs ow sl' z a n ++ _ = bs ow sl z a n ++ _
    rw [bs_congr (n := n) h, show fr8 sl' (a + n) 8 = fr8 sl (a + n) 8 from rw_congr (fun s hs => h _ (by omega))]
theorem fr8_set {sl : Nat → Int32} {q a : Nat} {z : Int32} : fr8 (upd sl (8 * q + a) z) q 8 = (fr8 sl q 8).set a z := by
  show rw_ (fun s => upd sl (8 * q + a) z (8 * q + s)) 8 = _
  rw [show (fun s => upd sl (8 * q + a) z (8 * q + s)) = upd (fun s => sl (8 * q + s)) a z from by
    funext s
    by_cases e : s = a
    · subst e; rw [pk_us, pk_us]
    · rw [pk_un (by omega), pk_un e]]
  exact rw_set
theorem upd_far {sl : Nat → Int32} {q a k s : Nat} {z : Int32} (ha : a < 8) (hs : s < 8) (h : k ≠ q) : upd sl (8 * q + a) z (8 * k + s) = sl (8 * k + s) := pk_un (by omega)
theorem bl_map {ow sl sl' : Nat → Int32} {z : Int32} {φ : Int32 → Int32} : ∀ {F : Nat}, (∀ t, t < 8 * F → sl' t = φ (sl t)) → bl ow sl' z F = (bl ow sl z F).map φ
  | 0, _ => rfl
  | F + 1, h => by
    show bl ow sl' z F ++ _ = (bl ow sl z F ++ _).map φ
    rw [List.map_append, bl_map (F := F) (fun t ht => h t (by omega))]
    by_cases e : ow F = z
    · rw [if_pos e, if_pos e, show fr8 sl' F 8 = (fr8 sl F 8).map φ from rw_map (fun s hs => h _ (by omega))]
    · rw [if_neg e, if_neg e]; rfl
theorem ct_map {ow sl sl' : Nat → Int32} {F : Nat} {φ : Int32 → Int32} (h : ∀ t, t < 8 * F → sl' t = φ (sl t)) : ∀ {m : Nat}, ct ow sl' F m = (ct ow sl F m).map φ
  | 0 => rfl
  | m + 1 => by
    show ct ow sl' F m ++ _ = (ct ow sl F m ++ _).map φ
    rw [List.map_append, ct_map h (m := m), bl_map h]
theorem row_map {ow sl sl' gl gl' : Nat → Int32} {F : Nat} {φ : Int32 → Int32} (h1 : ∀ t, t < 8 * F → sl' t = φ (sl t)) (h2 : ∀ t, t < 16 → gl' t = φ (gl t)) : rowL ow sl' gl' F = (rowL ow sl gl F).map φ := by
  unfold rowL
  rw [List.map_append, ct_map h1, rw_map h2]
theorem ct_count {ow sl : Nat → Int32} {v : Int32} : ∀ {F : Nat}, okO ow F → (ct ow sl F 4).count v = (rw_ sl (8 * F)).count v := by
  have h4 : ∀ F, (ct ow sl F 4).count v = (bl ow sl (nI 0) F).count v + (bl ow sl (nI 1) F).count v + (bl ow sl (nI 2) F).count v + (bl ow sl (nI 3) F).count v := by
    intro F
    show ((((([] ++ bl ow sl (nI 0) F) ++ bl ow sl (nI 1) F) ++ bl ow sl (nI 2) F) ++ bl ow sl (nI 3) F)).count v = _
    rw [List.count_append, List.count_append, List.count_append, List.nil_append]
  have hb : ∀ F z, (bl ow sl z (F + 1)).count v = (bl ow sl z F).count v + (if ow F = z then (fr8 sl F 8).count v else 0) := by
    intro F z
    show (bl ow sl z F ++ _).count v = _
    rw [List.count_append]
    by_cases e : ow F = z
    · rw [if_pos e, if_pos e]
    · rw [if_neg e, if_neg e]; rfl
  intro F
  induction F with
  | zero => intro _; rfl
  | succ F ih =>
    intro hO
    have h1 := ih (fun k hk => hO k (by omega))
    rw [h4] at h1 ⊢
    obtain ⟨j, hj, e⟩ := hO F (by omega)
    rw [hb, hb, hb, hb, show 8 * (F + 1) = 8 * F + 8 by omega, rw_add, List.count_append, ← h1, e]
    show _ = _ + (fr8 sl F 8).count v
    rcases (show j = 0 ∨ j = 1 ∨ j = 2 ∨ j = 3 by omega) with rfl | rfl | rfl | rfl
    · rw [if_pos rfl, if_neg (by decide), if_neg (by decide), if_neg (by decide)]; omega
    · rw [if_neg (by decide), if_pos rfl, if_neg (by decide), if_neg (by decide)]; omega
    · rw [if_neg (by decide), if_neg (by decide), if_pos rfl, if_neg (by decide)]; omega
    · rw [if_neg (by decide), if_neg (by decide), if_neg (by decide), if_pos rfl]; omega
theorem sN_congr {n n' : Nat → Nat} : ∀ {k : Nat}, (∀ j, j < k → n' j = n j) → sN n' k = sN n k
  | 0, _ => rfl
  | k + 1, h => by
    show sN n' k + n' k = sN n k + n k
    rw [sN_congr (k := k) (fun j hj => h j (by omega)), h k (by omega)]
theorem okC_congr {g : Nat → Int32} {n n' : Nat → Nat} (h : okC g n) (e : ∀ j, j < 4 → n' j = n j) : okC g n' := ⟨fun j hj => by rw [e j hj]; exact h.1 j hj, fun j hj => by rw [e j hj]; exact h.2 j hj⟩
/-- the class and the model hold the same -/
def Rel (f g : Nat → Int32) (L : Nat) (ow sl gl : Nat → Int32) (F : Nat) : Prop :=
  okC g (cnts ow F) ∧ L = lenN (cnts ow F) ∧ okO ow F ∧ rw_ f L = rowL ow sl gl F ∧ ∀ v, v ∈ rowL ow sl gl F → ¬ v < 0
section
variable {f g : Nat → Int32} {L : Nat} {ow sl gl : Nat → Int32} {F : Nat}
theorem Rel.hF (h : Rel f g L ow sl gl F) : F ≤ 256 := by have := h.1.le; rw [cs_eq ow F h.2.2.1] at this; exact this
theorem Rel.hL (h : Rel f g L ow sl gl F) : L = 8 * F + 16 := by have := h.2.1; unfold lenN at this; rw [cs_eq ow F h.2.2.1] at this; exact this
theorem Rel.hL2 (h : Rel f g L ow sl gl F) : L ≤ 2064 := by have h1 := h.hF; have h2 := h.hL; omega
theorem Rel.eps (h : Rel f g L ow sl gl F) : ps (rowL ow sl gl F) = nz (rw_ f L) := by rw [h.2.2.2.1]; exact nz_ps h.2.2.2.2
theorem Rel.pos (h : Rel f g L ow sl gl F) {t : Nat} (ht : t < L) : ¬ f t < 0 := h.2.2.2.2 _ (by rw [← h.2.2.2.1]; exact rw_mem.mpr ⟨t, ht, rfl⟩)
theorem Rel.at (h : Rel f g L ow sl gl F) {mu k q s : Nat} (hmu : mu < 4) (hq : q < F) (ho : ow q = nI mu) (hc : (rw_ ow q).count (nI mu) = k) (hs : s < 8) : 8 * (k + sN (cnts ow F) mu) + s < L ∧ f (8 * (k + sN (cnts ow F) mu) + s) = sl (8 * q + s) := by
  refine rw_val h.2.2.2.1 ?_
  rw [row_split hmu, bl_at hq ho, List.append_assoc, ← List.append_assoc]
  rw [List.getElem?_append_right (by rw [List.length_append, ct_len, bl_len, hc]; omega), List.append_assoc, List.getElem?_append_left (by rw [List.length_append, ct_len, bl_len, hc, fr8_len]; omega)]
  rw [List.length_append, ct_len, bl_len, hc, show 8 * (k + sN (cnts ow F) mu) + s - (8 * sN (cnts ow F) mu + 8 * k) = s by omega]
  exact rw_get hs
theorem Rel.gat (h : Rel f g L ow sl gl F) {b : Nat} (hb : b < 16) : f (8 * sN (cnts ow F) 4 + b) = gl b := by
  refine (rw_val h.2.2.2.1 ?_).2
  unfold rowL
  rw [List.getElem?_append_right (by rw [ct_len]; omega), ct_len, show 8 * sN (cnts ow F) 4 + b - 8 * sN (cnts ow F) 4 = b by omega]
  exact rw_get hb
theorem Rel.put (h : Rel f g L ow sl gl F) {mu k q a : Nat} {z : Int32} (hmu : mu < 4) (hq : q < F) (ho : ow q = nI mu) (hc : (rw_ ow q).count (nI mu) = k) (ha : a < 8) (hz : ¬ z < 0) : Rel (upd f (8 * (k + sN (cnts ow F) mu) + a) z) g L ow (upd sl (8 * q + a) z) gl F := by
  have e : rowL ow (upd sl (8 * q + a) z) gl F = (rowL ow sl gl F).set (8 * (k + sN (cnts ow F) mu) + a) z := by
    rw [row_change (ow := ow) (sl := sl) (F := F) hmu (fun y hy => bl_congr (fun _ _ => rfl) (fun k2 s _ hs h2 => upd_far ha hs (fun q2 => hy (by rw [← h2, q2]; exact ho))))]
    rw [bl_at hq ho, bl_congr (ow := ow) (sl := sl) (F := q) (fun _ _ => rfl) (fun k2 s hk hs _ => upd_far ha hs (by omega)), fr8_set, bs_congr (sl := sl) (fun t ht => pk_un (by omega))]
    rw [row_split hmu, bl_at hq ho]
    rw [List.append_assoc, ← List.append_assoc (ct ow sl F mu), List.append_assoc (bl ow sl (nI mu) q), ← List.append_assoc (ct ow sl F mu)]
    rw [List.set_append_right _ _ (by rw [List.length_append, ct_len, bl_len, hc]; omega)]
    congr 1
    rw [List.length_append, ct_len, bl_len, hc, show 8 * (k + sN (cnts ow F) mu) + a - (8 * sN (cnts ow F) mu + 8 * k) = a by omega]
    rw [List.append_assoc, List.append_assoc, List.set_append_left _ _ (by rw [fr8_len]; exact ha)]
  refine ⟨h.1, h.2.1, h.2.2.1, by rw [rw_set, h.2.2.2.1, e], fun v hv => ?_⟩
  rw [e] at hv
  rcases List.mem_or_eq_of_mem_set hv with h1 | h1
  · exact h.2.2.2.2 v h1
  · rw [h1]; exact hz
theorem Rel.gput (h : Rel f g L ow sl gl F) {b : Nat} {z : Int32} (hb : b < 16) (hz : ¬ z < 0) : Rel (upd f (8 * sN (cnts ow F) 4 + b) z) g L ow sl (upd gl b z) F := by
  have e : rowL ow sl (upd gl b z) F = (rowL ow sl gl F).set (8 * sN (cnts ow F) 4 + b) z := by
    unfold rowL
    rw [rw_set, List.set_append_right _ _ (by rw [ct_len]; omega), ct_len, show 8 * sN (cnts ow F) 4 + b - 8 * sN (cnts ow F) 4 = b by omega]
  refine ⟨h.1, h.2.1, h.2.2.1, by rw [rw_set, h.2.2.2.1, e], fun v hv => ?_⟩
  rw [e] at hv
  rcases List.mem_or_eq_of_mem_set hv with h1 | h1
  · exact h.2.2.2.2 v h1
  · rw [h1]; exact hz
/-- every value becomes another, by the same function on both sides -/
theorem Rel.map (h : Rel f g L ow sl gl F) {f' sl' gl' : Nat → Int32} {φ : Int32 → Int32} (h1 : ∀ t, t < L → f' t = φ (f t)) (h2 : ∀ t, t < 8 * F → sl' t = φ (sl t)) (h3 : ∀ t, t < 16 → gl' t = φ (gl t)) (hp : ∀ v, v ∈ rowL ow sl gl F → ¬ φ v < 0) : Rel f' g L ow sl' gl' F := by
  refine ⟨h.1, h.2.1, h.2.2.1, by rw [rw_map h1, h.2.2.2.1, row_map h2 h3], fun v hv => ?_⟩
  rw [row_map h2 h3] at hv
  obtain ⟨w, hw, rfl⟩ := List.mem_map.mp hv
  exact hp w hw
theorem Rel.call (h : Rel f g L ow sl gl F) {mu : Nat} (hmu : mu < 4) (hc : (rw_ ow F).count (nI mu) < 64) {f' : Nat → Int32} (hf : ∀ t, t < L + 8 → f' t = insF f (8 * (cnts ow F mu + sN (cnts ow F) mu)) t) :
    Rel f' (upd g mu (nI (cnts ow F mu + 1))) (L + 8) (upd ow F (nI mu)) (fun t => if 8 * F ≤ t ∧ t < 8 * F + 8 then nI 0 else sl t) gl (F + 1) := by
  have hO : okO (upd ow F (nI mu)) (F + 1) := fun k hk => by
    by_cases e : k = F
    · subst e; rw [pk_us]; exact ⟨mu, hmu, rfl⟩
    · rw [pk_un e]; exact h.2.2.1 k (by omega)
  have hcn : ∀ j, j < 4 → cnts (upd ow F (nI mu)) (F + 1) j = upN (cnts ow F) mu (cnts ow F mu + 1) j := fun j hj => by
    unfold cnts
    rw [cn_succ, pk_us, rw_congr (g := ow) (fun i hi => pk_un (by omega))]
    by_cases e : j = mu
    · subst e; rw [if_pos rfl, upN_s]
    · rw [if_neg (fun q => nI_ne4 hj hmu e q.symm), upN_n e]; rfl
  have hbF : ∀ z, bl (upd ow F (nI mu)) (fun t => if 8 * F ≤ t ∧ t < 8 * F + 8 then nI 0 else sl t) z F = bl ow sl z F := fun z => bl_congr (fun k hk => pk_un (by omega)) (fun k s hk hs _ => if_neg (by omega))
  have hb1 : bl (upd ow F (nI mu)) (fun t => if 8 * F ≤ t ∧ t < 8 * F + 8 then nI 0 else sl t) (nI mu) (F + 1) = bl ow sl (nI mu) F ++ List.replicate 8 0 := by
    show bl _ _ (nI mu) F ++ _ = _
    rw [hbF, pk_us, if_pos rfl]
    congr 1
    show rw_ (fun s => if 8 * F ≤ 8 * F + s ∧ 8 * F + s < 8 * F + 8 then nI 0 else sl (8 * F + s)) 8 = _
    rw [rw_congr (g := fun _ => 0) (fun s hs => (if_pos (by omega)).trans nI_0)]
    rfl
  have hrow := row_change (ow := ow) (sl := sl) (gl := gl) (F := F) (ow' := upd ow F (nI mu)) (sl' := fun t => if 8 * F ≤ t ∧ t < 8 * F + 8 then nI 0 else sl t) (F' := F + 1) hmu (fun z hz => by
    show bl _ _ z F ++ _ = _
    rw [hbF, pk_us, if_neg (fun q => hz q.symm), List.append_nil])
  rw [hb1, List.append_assoc] at hrow
  have hrow0 := row_split (ow := ow) (sl := sl) (gl := gl) (F := F) hmu
  rw [← List.append_assoc] at hrow0 hrow
  refine ⟨okC_congr (okC_up h.1 (by omega) (by unfold cnts; omega)) hcn, ?_, hO, ?_, fun v hv => ?_⟩
  · have h1 := h.hL
    show L + 8 = 8 * sN (cnts (upd ow F (nI mu)) (F + 1)) 4 + 16
    rw [cs_eq _ _ hO]; omega
  · rw [hrow]
    exact rw_ins (by rw [h.2.2.2.1]; exact hrow0) (by rw [List.length_append, ct_len, bl_len]; unfold cnts; omega) hf
  · rw [hrow] at hv
    rcases List.mem_append.mp hv with h1 | h1
    · exact h.2.2.2.2 v (by rw [hrow0]; exact List.mem_append_left _ h1)
    · rcases List.mem_append.mp h1 with h1 | h1
      · rw [(List.mem_replicate.mp h1).2]; decide
      · exact h.2.2.2.2 v (by rw [hrow0]; exact List.mem_append_right _ h1)
/-- some last frames of mu go -/
theorem Rel.cut (h : Rel f g L ow sl gl F) {mu lf : Nat} (hmu : mu < 4) (h1 : 1 ≤ lf) (h2 : lf ≤ cnts ow F mu) {ow' sl' f' : Nat → Int32} (hR : CutR ow sl (nI mu) F (cnts ow F mu - lf) ow' sl') (hf : ∀ t, t < L - 8 * (cnts ow F mu - lf) → f' t = delF f (8 * (lf + sN (cnts ow F) mu)) (8 * (cnts ow F mu - lf)) t) :
    Rel f' (upd g mu (nI lf)) (L - 8 * (cnts ow F mu - lf)) ow' sl' gl (F - (cnts ow F mu - lf)) := by
  obtain ⟨r1, r2, r3, ⟨t, r4⟩, r5⟩ := hR
  have hO := r5 h.2.2.1
  have hle : cnts ow F mu ≤ F := rw_count_le ow F (nI mu)
  have h64 := (h.1.2 mu hmu).2
  have hlc : (rw_ ow' (F - (cnts ow F mu - lf))).count (nI mu) = lf := by rw [r1]; unfold cnts at *; omega
  have hcn : ∀ j, j < 4 → cnts ow' (F - (cnts ow F mu - lf)) j = upN (cnts ow F) mu lf j := fun j hj => by
    by_cases e : j = mu
    · subst e; rw [upN_s]; exact hlc
    · rw [upN_n e]; exact r2 _ (nI_ne4 hj hmu e)
  have hrow := row_change (ow := ow) (sl := sl) (gl := gl) (F := F) (ow' := ow') (sl' := sl') (F' := F - (cnts ow F mu - lf)) hmu r3
  have hrow0 := row_split (ow := ow) (sl := sl) (gl := gl) (F := F) hmu
  rw [r4, List.append_assoc, ← List.append_assoc] at hrow0
  rw [← List.append_assoc] at hrow
  have htl : t.length = 8 * (cnts ow F mu - lf) := by
    have := congrArg List.length r4
    rw [List.length_append, bl_len, bl_len, hlc] at this
    unfold cnts at *; omega
  refine ⟨okC_congr (okC_up h.1 h1 (by omega)) hcn, ?_, hO, ?_, fun v hv => ?_⟩
  · have h3 := h.hL
    show _ = 8 * sN (cnts ow' (F - (cnts ow F mu - lf))) 4 + 16
    rw [cs_eq _ _ hO]; omega
  · rw [hrow]
    exact rw_del (by rw [h.2.2.2.1]; exact hrow0) (by rw [List.length_append, ct_len, bl_len, hlc]; omega) htl hf
  · rw [hrow] at hv
    rcases List.mem_append.mp hv with h3 | h3
    · exact h.2.2.2.2 v (by rw [hrow0]; exact List.mem_append_left _ h3)
    · exact h.2.2.2.2 v (by rw [hrow0]; exact List.mem_append_right _ (List.mem_append_right _ h3))
theorem Rel.leave (h : Rel f g L ow sl gl F) {mu s q1 q2 : Nat} (hmu : mu < 4) (hs : s < 8) (hc : 1 < cnts ow F mu) (hq1 : q1 < F) (ho1 : ow q1 = nI mu) (hc1 : (rw_ ow q1).count (nI mu) = cnts ow F mu - 1) (hq2 : q2 < F) (ho2 : ow q2 = nI mu) (hc2 : (rw_ ow q2).count (nI mu) = cnts ow F mu - 2)
    {f' : Nat → Int32} (hf : ∀ t, t < L - 8 → f' t = delF f (8 * (cnts ow F mu - 1 + sN (cnts ow F) mu)) 8 t) :
    Rel (upd f' (8 * (cnts ow F mu - 2 + sN (cnts ow F) mu)) (f (8 * (cnts ow F mu - 1 + sN (cnts ow F) mu) + s))) (upd g mu (nI (cnts ow F mu - 1))) (L - 8) (shO ow q1 (F - 1)) (shS (upd sl (8 * q2) (sl (8 * q1 + s))) q1 (F - 1)) gl (F - 1) := by
  rw [(h.at hmu hq1 ho1 hc1 hs).2]
  have hv : ¬ sl (8 * q1 + s) < 0 := h.2.2.2.2 _ (row_sl h.2.2.1 (by omega))
  have hp := h.put (a := 0) hmu hq2 ho2 hc2 (by decide) hv
  have hR : CutR ow (upd sl (8 * q2) (sl (8 * q1 + s))) (nI mu) F 1 (shO ow q1 (F - 1)) (shS (upd sl (8 * q2) (sl (8 * q1 + s))) q1 (F - 1)) :=
    CutR.next (i := 0) CutR.start (by unfold cnts at hc; omega) hq1 ho1 (by unfold cnts at hc1; omega)
  have h8 : cnts ow F mu - (cnts ow F mu - 1) = 1 := by omega
  have key := hp.cut (mu := mu) (lf := cnts ow F mu - 1) (f' := upd f' (8 * (cnts ow F mu - 2 + sN (cnts ow F) mu)) (sl (8 * q1 + s))) hmu (by omega) (by omega) (by rw [h8]; exact hR) (fun t ht => by
    rw [h8] at ht ⊢
    by_cases e : t = 8 * (cnts ow F mu - 2 + sN (cnts ow F) mu)
    · subst e
      unfold delF
      rw [pk_us, if_pos (by omega)]
      exact pk_us.symm
    · rw [pk_un e, hf t ht]
      unfold delF
      by_cases h1 : t < 8 * (cnts ow F mu - 1 + sN (cnts ow F) mu)
      · rw [if_pos h1, if_pos h1]; exact (pk_un e).symm
      · rw [if_neg h1, if_neg h1]; exact (pk_un (show t + 8 * 1 ≠ 8 * (cnts ow F mu - 2 + sN (cnts ow F) mu) + 0 by omega)).symm)
  rw [h8] at key
  exact key
theorem rk_pos {D : List Int32} {v : Int32} (h : D.length < 2147483647) : ¬ rk D v < 0 := by
  unfold rk
  split
  · decide
  · exact nI_pos (by have := List.idxOf_le_length (l := D) (a := v); omega)
/-- the start -/
theorem Rel.start : Rel (fun _ => 0) (fun t => if t < 4 then nI 1 else (fun _ => 0) t) 48 (fun t => if t < 4 then nI t else 0) (fun _ => 0) (fun _ => 0) 4 := by
  have hcn : ∀ j, j < 4 → cnts (fun t => if t < 4 then nI t else 0) 4 j = 1 := fun j hj => by
    rcases (show j = 0 ∨ j = 1 ∨ j = 2 ∨ j = 3 by omega) with rfl | rfl | rfl | rfl <;> decide +kernel
  have hO : okO (fun t => if t < 4 then nI t else 0) 4 := fun k hk => ⟨k, hk, if_pos hk⟩
  refine ⟨⟨fun j hj => by rw [hcn j hj]; exact if_pos hj, fun j hj => by rw [hcn j hj]; exact ⟨Nat.le_refl _, by decide⟩⟩, ?_, hO, by decide +kernel, ?_⟩
  · show 48 = 8 * sN _ 4 + 16
    rw [cs_eq _ _ hO]
  · decide +kernel
end
end REL
