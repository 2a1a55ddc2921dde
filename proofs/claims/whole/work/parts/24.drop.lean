section DROP
theorem top_uniq {ow : Nat → Int32} {x : Int32} {a b : Nat} (ha : ow a = x) (hb : ow b = x) (h : (rw_ ow a).count x = (rw_ ow b).count x) : a = b := by
  rcases Nat.lt_trichotomy a b with q | q | q
  · have h1 := cn_mono ow x (show a + 1 ≤ b by omega)
    rw [cn_succ, if_pos ha] at h1; omega
  · exact q
  · have h1 := cn_mono ow x (show b + 1 ≤ a by omega)
    rw [cn_succ, if_pos hb] at h1; omega
abbrev shO (ow : Nat → Int32) (q E : Nat) : Nat → Int32 := fun t => if q ≤ t ∧ t < E then ow (t + 1) else ow t
abbrev shS (sl : Nat → Int32) (q E : Nat) : Nat → Int32 := fun t => if 8 * q ≤ t ∧ t < 8 * E then sl (t + 8) else sl t
theorem shO_lo {ow : Nat → Int32} {q E n : Nat} (h : n < q) : shO ow q E n = ow n := if_neg (by omega)
theorem shO_hi {ow : Nat → Int32} {q E n : Nat} (h : q ≤ n) (h2 : n < E) : shO ow q E n = ow (n + 1) := if_pos ⟨h, h2⟩
theorem fr8_lo {sl : Nat → Int32} {q E n : Nat} (h : n < q) : fr8 (shS sl q E) n 8 = fr8 sl n 8 := rw_congr (fun s hs => if_neg (by omega))
theorem fr8_hi {sl : Nat → Int32} {q E n : Nat} (h : q ≤ n) (h2 : n < E) : fr8 (shS sl q E) n 8 = fr8 sl (n + 1) 8 := rw_congr (fun s hs => by
  show (if 8 * q ≤ 8 * n + s ∧ 8 * n + s < 8 * E then sl (8 * n + s + 8) else sl (8 * n + s)) = sl (8 * (n + 1) + s)
  rw [if_pos (by omega)]; congr 1; omega)
theorem bl_lo {ow sl : Nat → Int32} {q E : Nat} {z : Int32} : ∀ {n : Nat}, n ≤ q → bl (shO ow q E) (shS sl q E) z n = bl ow sl z n
  | 0, _ => rfl
  | n + 1, h => by
    show bl _ _ z n ++ _ = bl ow sl z n ++ _
    rw [bl_lo (n := n) (by omega), shO_lo (by omega), fr8_lo (by omega)]
theorem cn_lo {ow : Nat → Int32} {q E n : Nat} {z : Int32} (h : n ≤ q) : (rw_ (shO ow q E) n).count z = (rw_ ow n).count z := by
  rw [rw_congr (g := ow) (fun i hi => shO_lo (by omega))]
theorem bl_ne {ow sl : Nat → Int32} {q E : Nat} {z : Int32} (hz : ¬ ow q = z) : ∀ {n : Nat}, q ≤ n → n ≤ E → bl (shO ow q E) (shS sl q E) z n = bl ow sl z (n + 1) := by
  intro n
  induction n with
  | zero =>
    intro h1 _
    have e : q = 0 := by omega
    subst e
    show [] = [] ++ (if ow 0 = z then _ else [])
    rw [if_neg hz]; rfl
  | succ n ih =>
    intro h1 h2
    rcases Nat.lt_or_ge n q with h | h
    · have e : q = n + 1 := by omega
      subst e
      rw [bl_lo (Nat.le_refl _)]
      show _ = bl ow sl z (n + 1) ++ (if ow (n + 1) = z then _ else [])
      rw [if_neg hz, List.append_nil]
    · show bl _ _ z n ++ (if shO ow q E n = z then fr8 (shS sl q E) n 8 else []) = bl ow sl z (n + 1) ++ (if ow (n + 1) = z then fr8 sl (n + 1) 8 else [])
      rw [ih h (by omega), shO_hi h (by omega), fr8_hi h (by omega)]
theorem cn_sh {ow : Nat → Int32} {q E : Nat} {z : Int32} : ∀ {n : Nat}, q ≤ n → n ≤ E → (rw_ (shO ow q E) n).count z + (if ow q = z then 1 else 0) = (rw_ ow (n + 1)).count z := by
  intro n
  induction n with
  | zero =>
    intro h1 _
    have e : q = 0 := by omega
    subst e
    rw [cn_succ]; rfl
  | succ n ih =>
    intro h1 h2
    rcases Nat.lt_or_ge n q with h | h
    · have e : q = n + 1 := by omega
      subst e
      rw [cn_lo (Nat.le_refl _), cn_succ ow (n + 1)]
    · have h3 := ih h (by omega)
      rw [cn_succ, shO_hi h (by omega), cn_succ ow (n + 1)]
      omega
/-- behind the top frame of x there is no other frame of x -/
theorem top_last {ow : Nat → Int32} {x : Int32} {q F : Nat} (hq : q < F) (ho : ow q = x) (hc : (rw_ ow q).count x = (rw_ ow F).count x - 1) {k : Nat} (h1 : q < k) (h2 : k < F) : ¬ ow k = x := fun e => by
  have a1 := cn_mono ow x (show q + 1 ≤ k by omega)
  have a2 := cn_mono ow x (show k + 1 ≤ F by omega)
  rw [cn_succ, if_pos ho] at a1
  rw [cn_succ, if_pos e] at a2
  omega
theorem bl_top {ow sl : Nat → Int32} {x : Int32} {q F : Nat} (hq : q < F) (ho : ow q = x) (hc : (rw_ ow q).count x = (rw_ ow F).count x - 1) : bl ow sl x F = bl ow sl x q ++ fr8 sl q 8 := by
  have key : ∀ n, q < n → n ≤ F → bl ow sl x n = bl ow sl x q ++ fr8 sl q 8 := by
    intro n
    induction n with
    | zero => intro h; omega
    | succ n ih =>
      intro h1 h2
      show bl ow sl x n ++ _ = _
      rcases Nat.lt_or_ge q n with h | h
      · rw [ih h (by omega), if_neg (top_last hq ho hc h (by omega)), List.append_nil]
      · have e : q = n := by omega
        subst e
        rw [if_pos ho]
  exact key F hq (Nat.le_refl F)
theorem bl_drop {ow sl : Nat → Int32} {x : Int32} {q F : Nat} (hq : q < F) (ho : ow q = x) (hc : (rw_ ow q).count x = (rw_ ow F).count x - 1) : bl (shO ow q (F - 1)) (shS sl q (F - 1)) x (F - 1) = bl ow sl x q := by
  have key : ∀ n, q ≤ n → n ≤ F - 1 → bl (shO ow q (F - 1)) (shS sl q (F - 1)) x n = bl ow sl x q := by
    intro n
    induction n with
    | zero =>
      intro h1 _
      have e : q = 0 := by omega
      subst e; rfl
    | succ n ih =>
      intro h1 h2
      rcases Nat.lt_or_ge n q with h | h
      · have e : q = n + 1 := by omega
        subst e
        exact bl_lo (Nat.le_refl _)
      · show bl _ _ x n ++ (if shO ow q (F - 1) n = x then _ else []) = _
        rw [ih h (by omega), shO_hi h (by omega), if_neg (top_last hq ho hc (by omega) (by omega)), List.append_nil]
  exact key (F - 1) (by omega) (Nat.le_refl _)
theorem okO_sh {ow : Nat → Int32} {q F : Nat} (h : okO ow F) : okO (shO ow q (F - 1)) (F - 1) := fun k hk => by
  by_cases h1 : q ≤ k
  · rw [shO_hi h1 hk]; exact h (k + 1) (by omega)
  · rw [shO_lo (by omega)]; exact h k (by omega)
/-- i top frames of x are gone -/
def CutR (ow sl : Nat → Int32) (x : Int32) (F i : Nat) (ow' sl' : Nat → Int32) : Prop :=
  (rw_ ow' (F - i)).count x = (rw_ ow F).count x - i ∧ (∀ z, z ≠ x → (rw_ ow' (F - i)).count z = (rw_ ow F).count z) ∧ (∀ z, z ≠ x → bl ow' sl' z (F - i) = bl ow sl z F) ∧ (∃ t, bl ow sl x F = bl ow' sl' x (F - i) ++ t) ∧ (okO ow F → okO ow' (F - i))
theorem CutR.start {ow sl : Nat → Int32} {x : Int32} {F : Nat} : CutR ow sl x F 0 ow sl := ⟨rfl, fun _ _ => rfl, fun _ _ => rfl, ⟨[], (List.append_nil _).symm⟩, fun h => h⟩
theorem CutR.next {ow sl : Nat → Int32} {x : Int32} {F i : Nat} {wi si : Nat → Int32} (h : CutR ow sl x F i wi si) (hi : i < (rw_ ow F).count x) {q : Nat} (hq : q < F - i) (ho : wi q = x) (hc : (rw_ wi q).count x = (rw_ ow F).count x - i - 1) :
    CutR ow sl x F (i + 1) (shO wi q (F - i - 1)) (shS si q (F - i - 1)) := by
  obtain ⟨h1, h2, h3, ⟨t, h4⟩, h5⟩ := h
  have hc' : (rw_ wi q).count x = (rw_ wi (F - i)).count x - 1 := by rw [hc, h1]
  have e1 : F - i - 1 + 1 = F - i := by omega
  have e2 : F - (i + 1) = F - i - 1 := by omega
  unfold CutR
  rw [e2]
  refine ⟨?_, fun z hz => ?_, fun z hz => ?_, ⟨fr8 si q 8 ++ t, ?_⟩, fun h6 => okO_sh (h5 h6)⟩
  · have := cn_sh (ow := wi) (q := q) (E := F - i - 1) (z := x) (n := F - i - 1) (by omega) (Nat.le_refl _)
    rw [if_pos ho, e1, h1] at this
    omega
  · have := cn_sh (ow := wi) (q := q) (E := F - i - 1) (z := z) (n := F - i - 1) (by omega) (Nat.le_refl _)
    rw [if_neg (by rw [ho]; exact fun e => hz e.symm), e1, h2 z hz] at this
    exact this
  · rw [bl_ne (by rw [ho]; exact fun e => hz e.symm) (by omega) (Nat.le_refl _), e1]
    exact h3 z hz
  · rw [bl_drop hq ho hc', h4, bl_top hq ho hc', List.append_assoc]
end DROP
