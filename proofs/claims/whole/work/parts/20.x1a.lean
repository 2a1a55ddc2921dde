section PUREM
def thr (a b : Nat) : Nat := if a = 0 then 1 else if b = 0 then 2 else 0
theorem thr_1 {a b : Nat} (h : a = 0) : thr a b = 1 := if_pos h
theorem thr_2 {a b : Nat} (h : 0 < a) (h2 : b = 0) : thr a b = 2 := by unfold thr; rw [if_neg (by omega), if_pos h2]
theorem thr_0 {a b : Nat} (h : 0 < a) (h2 : 0 < b) : thr a b = 0 := by unfold thr; rw [if_neg (by omega), if_neg (by omega)]
theorem sh_start {ow : Nat → Int32} {q : Nat} : (fun t => if q ≤ t ∧ t < q then ow (t + 1) else ow t) = ow := by funext t; rw [if_neg (by omega)]
theorem sh_start8 {sl : Nat → Int32} {q : Nat} : (fun t => if 8 * q ≤ t ∧ t < 8 * q then sl (t + 8) else sl t) = sl := by funext t; rw [if_neg (by omega)]
theorem sh_put {ow : Nat → Int32} {q i : Nat} (h : q ≤ i) : upd (fun t => if q ≤ t ∧ t < i then ow (t + 1) else ow t) i (ow (i + 1)) = (fun t => if q ≤ t ∧ t < i + 1 then ow (t + 1) else ow t) := by
  funext t
  by_cases e : t = i
  · subst e; rw [pk_us, if_pos (by omega)]
  · rw [pk_un e]
    by_cases h2 : q ≤ t ∧ t < i
    · rw [if_pos h2, if_pos (by omega)]
    · rw [if_neg h2, if_neg (by omega)]
theorem sh_put8 {sl : Nat → Int32} {a i : Nat} (h : a ≤ i) : upd (fun t => if a ≤ t ∧ t < i then sl (t + 8) else sl t) i (sl (i + 8)) = (fun t => if a ≤ t ∧ t < i + 1 then sl (t + 8) else sl t) := by
  funext t
  by_cases e : t = i
  · subst e; rw [pk_us, if_pos (by omega)]
  · rw [pk_un e]
    by_cases h2 : a ≤ t ∧ t < i
    · rw [if_pos h2, if_pos (by omega)]
    · rw [if_neg h2, if_neg (by omega)]
/-- the d-th place that a value is looked for at -/
def hsh (v : Int32) (d : Nat) : Nat := (v.toNatClampNeg + d) % 4099
theorem hsh_lt (v : Int32) (d : Nat) : hsh v d < 4099 := Nat.mod_lt _ (by decide)
theorem hsh_onto (v : Int32) {E : Nat} (hE : E < 4099) : ∃ d, d < 4099 ∧ hsh v d = E := by
  refine ⟨(E + 4099 - v.toNatClampNeg % 4099) % 4099, Nat.mod_lt _ (by decide), ?_⟩
  unfold hsh
  have := Nat.mod_lt v.toNatClampNeg (show 0 < 4099 by decide)
  omega
theorem hsh_0 {v : Int32} (hv : 0 < v) : v - v / nI 4099 * nI 4099 = nI (hsh v 0) := by
  obtain ⟨j, hj, rfl⟩ := nI_of (fun h => Int32.lt_irrefl (Int32.lt_trans h hv))
  rw [pk_rem hj (by decide) (by decide)]
  unfold hsh
  rw [nI_clamp hj, Nat.add_zero]
theorem hsh_next {v : Int32} {i : Nat} (h : hsh v i + 1 ≠ 4099) : hsh v (i + 1) = hsh v i + 1 := by
  have := hsh_lt v i
  unfold hsh at *
  omega
theorem hsh_wrap {v : Int32} {i : Nat} (h : hsh v i + 1 = 4099) : hsh v (i + 1) = 0 := by
  unfold hsh at *
  omega
/-- the values of a list that are above 0 -/
def ps (l : List Int32) : List Int32 := l.filter (fun x => decide (0 < x))
theorem ps_app (a b : List Int32) : ps (a ++ b) = ps a ++ ps b := by simp [ps]
theorem ps_1 {x : Int32} (h : 0 < x) : ps [x] = [x] := by simp [ps, h]
theorem ps_0 {x : Int32} (h : ¬ 0 < x) : ps [x] = [] := by simp [ps, h]
theorem ps_mem {l : List Int32} {x : Int32} : x ∈ ps l ↔ x ∈ l ∧ 0 < x := by simp [ps]
theorem ps_le (l : List Int32) : (ps l).length ≤ l.length := List.length_filter_le ..
theorem rw_push {va : Nat → Int32} {G : List Int32} {v : Int32} (h : rw_ va G.length = G) : rw_ (upd va G.length v) (G.length + 1) = G ++ [v] := by
  rw [rw_succ, pk_us, rw_congr (g := va) (fun i hi => pk_un (by omega)), h]
end PUREM
set_option maxHeartbeats 4000000 in
set_option maxRecDepth 100000 in
theorem pX1_thrown (l : Launch) (D : va_G) (k0 k1 k2 k3 k4 k5 k6 : Nat) (cI : ClassId) (th : Int32) (F : Nat) (ca : Int32) (ow sl gl : Nat → Int32) (mn : Int32) (va ki ra : Nat → Int32) : Mi l yX1_thrown wsX1_thrown r0 D (tI cI) [.ref k0] (wM k0 k1 k2 k3 k4 k5 k6 cI th (nI F) ca ow sl gl mn va ki ra) (fun r u => u = wM k0 k1 k2 k3 k4 k5 k6 cI th (nI F) ca ow sl gl mn va ki ra ∧ r = th) := by
  refine Mi.of (cc := cX1_thrown) (maxL := 1) (ty := .int) (by decide +kernel) rfl (Nat.le_of_ble_eq_true rfl) ?_
  rintro p e s m below meth c ls A ⟨hx, hb, hr, hml, hts, hown, hlocks, hnm, hP, hK, hD, hA, hS, hl⟩
  have hown : s.vm.findClass RX1 = some m.cls := hown
  have hl : lv_has ls 1 [(0, .ref k0)] := hl
  have hin : ∀ w ∈ wsX10, w ∈ wsX1_thrown := by decide +kernel
  have hP : va_P D kC (wM k0 k1 k2 k3 k4 k5 k6 cI th (nI F) ca ow sl gl mn va ki ra) s.heap := hP
  have hD : va_D A (wM k0 k1 k2 k3 k4 k5 k6 cI th (nI F) ca ow sl gl mn va ki ra) := hD
  refine lv_aload_n hx hb dX1_thrown_0 rfl (lv_at hl 0 rfl) ?_
  refine va_get (D := D) (ci := 1) (v := .int th) (C := RX1) (T := TX1) (N := 10) hx hb hts hin hown hK hP 0 rfl rfl 0 (by decide) (hts (.fieldLink RX1 32 "FrameRowModel" "thrown" "I") (by decide +kernel)) (fun _ h9 => h9) rfl dX1_thrown_1 ?_
  exact (kReti hx hb hr hlocks dX1_thrown_4 (Nat.le_of_ble_eq_true rfl) (Nat.le_of_ble_eq_true rfl) hK hS hP hD ⟨rfl, rfl⟩)

set_option maxHeartbeats 4000000 in
set_option maxRecDepth 100000 in
theorem pX1_goes (l : Launch) (D : va_G) (k0 k1 k2 k3 k4 k5 k6 : Nat) (cI : ClassId) (th : Int32) (F : Nat) (ca : Int32) (ow sl gl : Nat → Int32) (mn : Int32) (va ki ra : Nat → Int32) (a b : Nat) (ha : a ≤ 1) (hb1 : b ≤ 1) : Mi l yX1_goes wsX1_goes r0 D (tI cI) [.ref k0, .int (nI a), .int (nI b)] (wM k0 k1 k2 k3 k4 k5 k6 cI th (nI F) ca ow sl gl mn va ki ra) (fun r u => u = wM k0 k1 k2 k3 k4 k5 k6 cI (nI (thr a b)) (nI F) ca ow sl gl mn va ki ra ∧ r = nI (if thr a b = 0 then 1 else 0)) := by
  refine Mi.of (cc := cX1_goes) (maxL := 3) (ty := .boolean) (by decide +kernel) rfl (Nat.le_of_ble_eq_true rfl) ?_
  rintro p e s m below meth c ls A ⟨hx, hb, hr, hml, hts, hown, hlocks, hnm, hP, hK, hD, hA, hS, hl⟩
  have hown : s.vm.findClass RX1 = some m.cls := hown
  have hl : lv_has ls 3 [(0, .ref k0), (1, .int (nI a)), (2, .int (nI b))] := hl
  have hin : ∀ w ∈ wsX10, w ∈ wsX1_goes := by decide +kernel
  have hP : va_P D kC (wM k0 k1 k2 k3 k4 k5 k6 cI th (nI F) ca ow sl gl mn va ki ra) s.heap := hP
  have hD : va_D A (wM k0 k1 k2 k3 k4 k5 k6 cI th (nI F) ca ow sl gl mn va ki ra) := hD
  refine lv_aload_n hx hb dX1_goes_0 rfl (lv_at hl 0 rfl) ?_
  refine lv_iload_n hx hb dX1_goes_1 rfl (lv_at hl 1 rfl) ?_
  refine kNe0 (a := a) (by omega) (tgt := 9) hx hb dX1_goes_2 (by decide) (fun c1 => ?_) (fun c1 => ?_)
  · skip
    refine lv_iload_n hx hb dX1_goes_9 rfl (lv_at hl 2 rfl) ?_
    refine kNe0 (a := b) (by omega) (tgt := 17) hx hb dX1_goes_10 (by decide) (fun c2 => ?_) (fun c2 => ?_)
    · skip
      refine lv_iconst (v := nI 0) hx hb dX1_goes_17 (by decide) ?_
      have ht9 : thr a b = 0 := thr_0 c1 c2
      refine va_put (D := D) (ci := 1) (v := .int (nI 0)) (ty := .int) (C := RX1) (T := TX1) (N := 10) hx hb hts hin tyX1 tyX1_ok nmX1 hown hK hP hD hS 0 rfl rfl 0 (by decide) (hts (.fieldLink RX1 32 "FrameRowModel" "thrown" "I") (by decide +kernel)) (fun _ h9 => h9) rfl (by decide +kernel) rfl rfl (Nat.le_of_ble_eq_true rfl) dX1_goes_18 (fun H locs hP hD hS => ?_)
      have hP : va_P D kC (wM k0 k1 k2 k3 k4 k5 k6 cI (nI 0) (nI F) ca ow sl gl mn va ki ra) H := hP
      have hD : va_D A (wM k0 k1 k2 k3 k4 k5 k6 cI (nI 0) (nI F) ca ow sl gl mn va ki ra) := hD
      refine lv_aload_n hx hb dX1_goes_21 rfl (lv_at hl 0 rfl) ?_
      refine va_get (D := D) (ci := 1) (v := .int (nI 0)) (C := RX1) (T := TX1) (N := 10) hx hb hts hin hown hK hP 0 rfl rfl 0 (by decide) (hts (.fieldLink RX1 32 "FrameRowModel" "thrown" "I") (by decide +kernel)) (fun _ h9 => h9) rfl dX1_goes_22 ?_
      refine kNe0 (a := 0) (by omega) (tgt := 32) hx hb dX1_goes_25 (by decide) (fun c9 => ?_) (fun c9 => ?_)
      · skip
        exact absurd c9 (by decide)
      · skip
        refine lv_iconst (v := nI 1) hx hb dX1_goes_28 (by decide) ?_
        refine lv_goto (tgt := 33) hx hb dX1_goes_29 (by decide) ?_
        rw [← ht9] at hP hD
        exact (kRetz hx hb hr hlocks dX1_goes_33 (Or.inr rfl) (Nat.le_of_ble_eq_true rfl) (Nat.le_of_ble_eq_true rfl) hK hS hP hD ⟨rfl, by rw [ht9]; rfl⟩)
    · skip
      refine lv_iconst (v := nI 2) hx hb dX1_goes_13 (by decide) ?_
      refine lv_goto (tgt := 18) hx hb dX1_goes_14 (by decide) ?_
      have ht9 : thr a b = 2 := thr_2 c1 c2
      refine va_put (D := D) (ci := 1) (v := .int (nI 2)) (ty := .int) (C := RX1) (T := TX1) (N := 10) hx hb hts hin tyX1 tyX1_ok nmX1 hown hK hP hD hS 0 rfl rfl 0 (by decide) (hts (.fieldLink RX1 32 "FrameRowModel" "thrown" "I") (by decide +kernel)) (fun _ h9 => h9) rfl (by decide +kernel) rfl rfl (Nat.le_of_ble_eq_true rfl) dX1_goes_18 (fun H locs hP hD hS => ?_)
      have hP : va_P D kC (wM k0 k1 k2 k3 k4 k5 k6 cI (nI 2) (nI F) ca ow sl gl mn va ki ra) H := hP
      have hD : va_D A (wM k0 k1 k2 k3 k4 k5 k6 cI (nI 2) (nI F) ca ow sl gl mn va ki ra) := hD
      refine lv_aload_n hx hb dX1_goes_21 rfl (lv_at hl 0 rfl) ?_
      refine va_get (D := D) (ci := 1) (v := .int (nI 2)) (C := RX1) (T := TX1) (N := 10) hx hb hts hin hown hK hP 0 rfl rfl 0 (by decide) (hts (.fieldLink RX1 32 "FrameRowModel" "thrown" "I") (by decide +kernel)) (fun _ h9 => h9) rfl dX1_goes_22 ?_
      refine kNe0 (a := 2) (by omega) (tgt := 32) hx hb dX1_goes_25 (by decide) (fun c9 => ?_) (fun c9 => ?_)
      · skip
        refine lv_iconst (v := nI 0) hx hb dX1_goes_32 (by decide) ?_
        rw [← ht9] at hP hD
        exact (kRetz hx hb hr hlocks dX1_goes_33 (Or.inl rfl) (Nat.le_of_ble_eq_true rfl) (Nat.le_of_ble_eq_true rfl) hK hS hP hD ⟨rfl, by rw [ht9]; rfl⟩)
      · skip
        exact absurd c9 (by decide)
  · skip
    refine lv_iconst (v := nI 1) hx hb dX1_goes_5 (by decide) ?_
    refine lv_goto (tgt := 18) hx hb dX1_goes_6 (by decide) ?_
    have ht9 : thr a b = 1 := thr_1 c1
    refine va_put (D := D) (ci := 1) (v := .int (nI 1)) (ty := .int) (C := RX1) (T := TX1) (N := 10) hx hb hts hin tyX1 tyX1_ok nmX1 hown hK hP hD hS 0 rfl rfl 0 (by decide) (hts (.fieldLink RX1 32 "FrameRowModel" "thrown" "I") (by decide +kernel)) (fun _ h9 => h9) rfl (by decide +kernel) rfl rfl (Nat.le_of_ble_eq_true rfl) dX1_goes_18 (fun H locs hP hD hS => ?_)
    have hP : va_P D kC (wM k0 k1 k2 k3 k4 k5 k6 cI (nI 1) (nI F) ca ow sl gl mn va ki ra) H := hP
    have hD : va_D A (wM k0 k1 k2 k3 k4 k5 k6 cI (nI 1) (nI F) ca ow sl gl mn va ki ra) := hD
    refine lv_aload_n hx hb dX1_goes_21 rfl (lv_at hl 0 rfl) ?_
    refine va_get (D := D) (ci := 1) (v := .int (nI 1)) (C := RX1) (T := TX1) (N := 10) hx hb hts hin hown hK hP 0 rfl rfl 0 (by decide) (hts (.fieldLink RX1 32 "FrameRowModel" "thrown" "I") (by decide +kernel)) (fun _ h9 => h9) rfl dX1_goes_22 ?_
    refine kNe0 (a := 1) (by omega) (tgt := 32) hx hb dX1_goes_25 (by decide) (fun c9 => ?_) (fun c9 => ?_)
    · skip
      refine lv_iconst (v := nI 0) hx hb dX1_goes_32 (by decide) ?_
      rw [← ht9] at hP hD
      exact (kRetz hx hb hr hlocks dX1_goes_33 (Or.inl rfl) (Nat.le_of_ble_eq_true rfl) (Nat.le_of_ble_eq_true rfl) hK hS hP hD ⟨rfl, by rw [ht9]; rfl⟩)
    · skip
      exact absurd c9 (by decide)

set_option maxHeartbeats 4000000 in
set_option maxRecDepth 100000 in
theorem pX1_isMutator (l : Launch) (D : va_G) (cI : ClassId) (x : Int32) : Mi l yX1_isMutator wsX1_isMutator r0 D (tI cI) [.int x] ([]) (fun r u => u = [] ∧ ((inR x 4 ∧ r = nI 1) ∨ (¬ inR x 4 ∧ r = nI 0))) := by
  refine Mi.of (cc := cX1_isMutator) (maxL := 1) (ty := .boolean) (by decide +kernel) rfl (Nat.le_of_ble_eq_true rfl) ?_
  rintro p e s m below meth c ls A ⟨hx, hb, hr, hml, hts, hown, hlocks, hnm, hP, hK, hD, hA, hS, hl⟩
  have hown : s.vm.findClass RX1 = some m.cls := hown
  have hl : lv_has ls 1 [(0, .int x)] := hl
  refine lv_iload_n hx hb dX1_isMutator_0 rfl (lv_at hl 0 rfl) ?_
  refine lv_if_lt (tgt := 13) hx hb dX1_isMutator_1 (by decide) (fun c1 => ?_) (fun c1 => ?_)
  · skip
    refine lv_iconst (v := nI 0) hx hb dX1_isMutator_13 (by decide) ?_
    exact (kRetz hx hb hr hlocks dX1_isMutator_14 (Or.inl rfl) (Nat.le_of_ble_eq_true rfl) (Nat.le_of_ble_eq_true rfl) hK hS hP hD ⟨rfl, Or.inr ⟨fun h => ((inR_iff (n := 4) (by decide)).mp h).1 c1, rfl⟩⟩)
  · skip
    refine lv_iload_n hx hb dX1_isMutator_4 rfl (lv_at hl 0 rfl) ?_
    refine lv_iconst (v := nI 4) hx hb dX1_isMutator_5 (by decide) ?_
    refine lv_icmp_ge (tgt := 13) hx hb dX1_isMutator_6 (by decide) (fun c2 => ?_) (fun c2 => ?_)
    · skip
      refine lv_iconst (v := nI 0) hx hb dX1_isMutator_13 (by decide) ?_
      exact (kRetz hx hb hr hlocks dX1_isMutator_14 (Or.inl rfl) (Nat.le_of_ble_eq_true rfl) (Nat.le_of_ble_eq_true rfl) hK hS hP hD ⟨rfl, Or.inr ⟨fun h => (Int32.not_le.mpr ((inR_iff (n := 4) (by decide)).mp h).2) c2, rfl⟩⟩)
    · skip
      refine lv_iconst (v := nI 1) hx hb dX1_isMutator_9 (by decide) ?_
      refine lv_goto (tgt := 14) hx hb dX1_isMutator_10 (by decide) ?_
      exact (kRetz hx hb hr hlocks dX1_isMutator_14 (Or.inr rfl) (Nat.le_of_ble_eq_true rfl) (Nat.le_of_ble_eq_true rfl) hK hS hP hD ⟨rfl, Or.inl ⟨(inR_iff (n := 4) (by decide)).mpr ⟨c1, Int32.not_le.mp c2⟩, rfl⟩⟩)

set_option maxHeartbeats 4000000 in
set_option maxRecDepth 100000 in
theorem pX1_isValue (l : Launch) (D : va_G) (cI : ClassId) (x : Int32) : Mi l yX1_isValue wsX1_isValue r0 D (tI cI) [.int x] ([]) (fun r u => u = [] ∧ ((inR x 1000001 ∧ r = nI 1) ∨ (¬ inR x 1000001 ∧ r = nI 0))) := by
  refine Mi.of (cc := cX1_isValue) (maxL := 1) (ty := .boolean) (by decide +kernel) rfl (Nat.le_of_ble_eq_true rfl) ?_
  rintro p e s m below meth c ls A ⟨hx, hb, hr, hml, hts, hown, hlocks, hnm, hP, hK, hD, hA, hS, hl⟩
  have hown : s.vm.findClass RX1 = some m.cls := hown
  have hl : lv_has ls 1 [(0, .int x)] := hl
  refine lv_iload_n hx hb dX1_isValue_0 rfl (lv_at hl 0 rfl) ?_
  refine lv_if_lt (tgt := 14) hx hb dX1_isValue_1 (by decide) (fun c1 => ?_) (fun c1 => ?_)
  · skip
    refine lv_iconst (v := nI 0) hx hb dX1_isValue_14 (by decide) ?_
    exact (kRetz hx hb hr hlocks dX1_isValue_15 (Or.inl rfl) (Nat.le_of_ble_eq_true rfl) (Nat.le_of_ble_eq_true rfl) hK hS hP hD ⟨rfl, Or.inr ⟨fun h => ((inR_le (n := 1000000) (by decide)).mp h).1 c1, rfl⟩⟩)
  · skip
    refine lv_iload_n hx hb dX1_isValue_4 rfl (lv_at hl 0 rfl) ?_
    refine lv_ldc (v := 1000000) hx hb hown (hts (.constant RX1 35 1000000) (by decide +kernel)) dX1_isValue_5 ?_
    refine kTop (v' := nI 1000000) (by decide) ?_
    refine lv_icmp_gt (tgt := 14) hx hb dX1_isValue_7 (by decide) (fun c2 => ?_) (fun c2 => ?_)
    · skip
      refine lv_iconst (v := nI 0) hx hb dX1_isValue_14 (by decide) ?_
      exact (kRetz hx hb hr hlocks dX1_isValue_15 (Or.inl rfl) (Nat.le_of_ble_eq_true rfl) (Nat.le_of_ble_eq_true rfl) hK hS hP hD ⟨rfl, Or.inr ⟨fun h => (Int32.not_lt.mpr ((inR_le (n := 1000000) (by decide)).mp h).2) c2, rfl⟩⟩)
    · skip
      refine lv_iconst (v := nI 1) hx hb dX1_isValue_10 (by decide) ?_
      refine lv_goto (tgt := 15) hx hb dX1_isValue_11 (by decide) ?_
      exact (kRetz hx hb hr hlocks dX1_isValue_15 (Or.inr rfl) (Nat.le_of_ble_eq_true rfl) (Nat.le_of_ble_eq_true rfl) hK hS hP hD ⟨rfl, Or.inl ⟨(inR_le (n := 1000000) (by decide)).mpr ⟨c1, Int32.not_lt.mp c2⟩, rfl⟩⟩)

set_option maxHeartbeats 4000000 in
set_option maxRecDepth 100000 in
theorem pX1_isPlace (l : Launch) (D : va_G) (cI : ClassId) (x y : Int32) : Mi l yX1_isPlace wsX1_isPlace r1 D (tI cI) [.int x, .int y] ([]) (fun r u => u = [] ∧ (((inR x 4 ∧ inR y 24) ∧ r = nI 1) ∨ (¬ (inR x 4 ∧ inR y 24) ∧ r = nI 0))) := by
  refine Mi.of (cc := cX1_isPlace) (maxL := 2) (ty := .boolean) (by decide +kernel) rfl (Nat.le_of_ble_eq_true rfl) ?_
  rintro p e s m below meth c ls A ⟨hx, hb, hr, hml, hts, hown, hlocks, hnm, hP, hK, hD, hA, hS, hl⟩
  have hown : s.vm.findClass RX1 = some m.cls := hown
  have hl : lv_has ls 2 [(0, .int x), (1, .int y)] := hl
  refine lv_iload_n hx hb dX1_isPlace_0 rfl (lv_at hl 0 rfl) ?_
  refine cSi (wr := []) (As := [.int x]) (rest := []) ⟨hx, hb, hml, hown, hts⟩ (pX1_isMutator l D cI x) (va_cwS 1 hts gX1_isPlace_X1_isMutator rfl rfl rfl (by decide +kernel) ⟨(Nat.le_of_ble_eq_true rfl), (Nat.le_of_ble_eq_true rfl)⟩) hK hP hD hS hA [] [] rfl rfl (by decide) (by decide) (by decide) rfl hl.1 rfl (Nat.le_of_ble_eq_true rfl) dX1_isPlace_1 ⟨(Nat.le_of_ble_eq_true rfl), (Nat.le_of_ble_eq_true rfl)⟩ (fun r u H locs hw hP hD hS => ?_)
  obtain ⟨rfl, hw⟩ := hw
  rcases hw with ⟨hx4, rfl⟩ | ⟨hx4, rfl⟩
  · skip
    refine kEq0 (a := 1) (by omega) (tgt := 21) hx hb dX1_isPlace_4 (by decide) (fun c0 => ?_) (fun c0 => ?_)
    · skip
      exact absurd c0 (by decide)
    · skip
      refine lv_iload_n hx hb dX1_isPlace_7 rfl (lv_at hl 1 rfl) ?_
      refine lv_if_lt (tgt := 21) hx hb dX1_isPlace_8 (by decide) (fun c1 => ?_) (fun c1 => ?_)
      · skip
        refine lv_iconst (v := nI 0) hx hb dX1_isPlace_21 (by decide) ?_
        exact (kRetz hx hb hr hlocks dX1_isPlace_22 (Or.inl rfl) (Nat.le_of_ble_eq_true rfl) (Nat.le_of_ble_eq_true rfl) hK hS hP hD ⟨rfl, Or.inr ⟨fun h => ((inR_iff (n := 24) (by decide)).mp h.2).1 c1, rfl⟩⟩)
      · skip
        refine lv_iload_n hx hb dX1_isPlace_11 rfl (lv_at hl 1 rfl) ?_
        refine lv_bipush (v := nI 24) hx hb dX1_isPlace_12 (by decide) ?_
        refine lv_icmp_ge (tgt := 21) hx hb dX1_isPlace_14 (by decide) (fun c2 => ?_) (fun c2 => ?_)
        · skip
          refine lv_iconst (v := nI 0) hx hb dX1_isPlace_21 (by decide) ?_
          exact (kRetz hx hb hr hlocks dX1_isPlace_22 (Or.inl rfl) (Nat.le_of_ble_eq_true rfl) (Nat.le_of_ble_eq_true rfl) hK hS hP hD ⟨rfl, Or.inr ⟨fun h => (Int32.not_le.mpr ((inR_iff (n := 24) (by decide)).mp h.2).2) c2, rfl⟩⟩)
        · skip
          refine lv_iconst (v := nI 1) hx hb dX1_isPlace_17 (by decide) ?_
          refine lv_goto (tgt := 22) hx hb dX1_isPlace_18 (by decide) ?_
          exact (kRetz hx hb hr hlocks dX1_isPlace_22 (Or.inr rfl) (Nat.le_of_ble_eq_true rfl) (Nat.le_of_ble_eq_true rfl) hK hS hP hD ⟨rfl, Or.inl ⟨⟨hx4, (inR_iff (n := 24) (by decide)).mpr ⟨c1, Int32.not_le.mp c2⟩⟩, rfl⟩⟩)
  · skip
    refine kEq0 (a := 0) (by omega) (tgt := 21) hx hb dX1_isPlace_4 (by decide) (fun c0 => ?_) (fun c0 => ?_)
    · skip
      refine lv_iconst (v := nI 0) hx hb dX1_isPlace_21 (by decide) ?_
      exact (kRetz hx hb hr hlocks dX1_isPlace_22 (Or.inl rfl) (Nat.le_of_ble_eq_true rfl) (Nat.le_of_ble_eq_true rfl) hK hS hP hD ⟨rfl, Or.inr ⟨fun h => hx4 h.1, rfl⟩⟩)
    · skip
      exact absurd c0 (by decide)

set_option maxHeartbeats 4000000 in
set_option maxRecDepth 100000 in
theorem pX1_framesOf (l : Launch) (D : va_G) (k0 k1 k2 k3 k4 k5 k6 : Nat) (cI : ClassId) (th : Int32) (F : Nat) (ca : Int32) (ow sl gl : Nat → Int32) (mn : Int32) (va ki ra : Nat → Int32) (hF : F ≤ 256) (x : Int32) : Mi l yX1_framesOf wsX1_framesOf r0 D (tI cI) [.ref k0, .int x] (wM k0 k1 k2 k3 k4 k5 k6 cI th (nI F) ca ow sl gl mn va ki ra) (fun r u => u = wM k0 k1 k2 k3 k4 k5 k6 cI th (nI F) ca ow sl gl mn va ki ra ∧ r = nI ((rw_ ow F).count x)) := by
  refine Mi.of (cc := cX1_framesOf) (maxL := 4) (ty := .int) (by decide +kernel) rfl (Nat.le_of_ble_eq_true rfl) ?_
  rintro p e s m below meth c ls A ⟨hx, hb, hr, hml, hts, hown, hlocks, hnm, hP, hK, hD, hA, hS, hl⟩
  have hown : s.vm.findClass RX1 = some m.cls := hown
  have hl : lv_has ls 4 [(0, .ref k0), (1, .int x)] := hl
  have hin : ∀ w ∈ wsX10, w ∈ wsX1_framesOf := by decide +kernel
  have hP : va_P D kC (wM k0 k1 k2 k3 k4 k5 k6 cI th (nI F) ca ow sl gl mn va ki ra) s.heap := hP
  have hD : va_D A (wM k0 k1 k2 k3 k4 k5 k6 cI th (nI F) ca ow sl gl mn va ki ra) := hD
  refine lv_iconst (v := nI 0) hx hb dX1_framesOf_0 (by decide) ?_
  refine lv_istore_n (lv' := [(2, .int (nI 0)), (0, .ref k0), (1, .int x)]) hx hb dX1_framesOf_1 rfl hl (by decide) rfl (fun ls hl => ?_)
  refine lv_iconst (v := nI 0) hx hb dX1_framesOf_2 (by decide) ?_
  refine lv_istore_n (lv' := [(3, .int (nI 0)), (2, .int (nI 0)), (0, .ref k0), (1, .int x)]) hx hb dX1_framesOf_3 rfl hl (by decide) rfl (fun ls hl => ?_)
  refine kLoop (Q := fun i => ∀  (ls : Array Slot) (H : Heap) (locs : List Loc), va_P D kC (wM k0 k1 k2 k3 k4 k5 k6 cI th (nI F) ca ow sl gl mn va ki ra) H → va_D A (wM k0 k1 k2 k3 k4 k5 k6 cI th (nI F) ca ow sl gl mn va ki ra) → va_S A s.heap H locs → lv_has ls 4 [(0, .ref k0), (1, .int x), (2, .int (nI ((rw_ ow i).count x))), (3, .int (nI i))] → W p l e r0 s m [.ref k0, .int x].toArray below meth c H locs 0 0 (MQ below (va_Qi (fun r u => u = wM k0 k1 k2 k3 k4 k5 k6 cI th (nI F) ca ow sl gl mn va ki ra ∧ r = nI ((rw_ ow F).count x)) (kB D (tI cI) A) A) [.ref k0, .int x].toArray s r0.cells r0.slots A) (F0 m 4 ls [])) (F) ?_ (0) (Nat.zero_le _)  ls _ _  hP hD hS (lv_sub hl [2, 3, 1, 0] rfl)
  intro i hi ih  ls H locs  hP hD hS hl
  have hc := rw_count_le ow i x
  refine lv_iload_n hx hb dX1_framesOf_4 rfl (lv_at hl 3 rfl) ?_
  refine lv_aload_n hx hb dX1_framesOf_5 rfl (lv_at hl 0 rfl) ?_
  refine va_get (D := D) (ci := 1) (v := .int (nI F)) (C := RX1) (T := TX1) (N := 10) hx hb hts hin hown hK hP 0 rfl rfl 1 (by decide) (hts (.fieldLink RX1 7 "FrameRowModel" "frames" "I") (by decide +kernel)) (fun _ h9 => h9) rfl dX1_framesOf_6 ?_
  refine kIge (a := i) (b := F) (by omega) (by omega) (tgt := 36) hx hb dX1_framesOf_9 (by decide) (fun c1 => ?_) (fun c1 => ?_)
  · skip
    refine lv_iload_n hx hb dX1_framesOf_36 rfl (lv_at hl 2 rfl) ?_
    have hi2 : i = F := by omega
    subst hi2
    exact (kReti hx hb hr hlocks dX1_framesOf_37 (Nat.le_of_ble_eq_true rfl) (Nat.le_of_ble_eq_true rfl) hK hS hP hD ⟨rfl, rfl⟩)
  · skip
    refine lv_aload_n hx hb dX1_framesOf_12 rfl (lv_at hl 0 rfl) ?_
    refine va_get (D := D) (ci := 1) (v := .ref k1) (C := RX1) (T := TX1) (N := 10) hx hb hts hin hown hK hP 0 rfl rfl 3 (by decide) (hts (.fieldLink RX1 13 "FrameRowModel" "owners" "[I") (by decide +kernel)) (fun _ h9 => h9) rfl dX1_framesOf_13 ?_
    refine lv_iload_n hx hb dX1_framesOf_16 rfl (lv_at hl 3 rfl) ?_
    refine kLd hx hb hK hP 1 0 rfl rfl (j := i) (by omega) (by decide) dX1_framesOf_17 ?_
    refine lv_iload_n hx hb dX1_framesOf_18 rfl (lv_at hl 1 rfl) ?_
    refine lv_icmp_ne (tgt := 28) hx hb dX1_framesOf_19 (by decide) (fun c2 => ?_) (fun c2 => ?_)
    · skip
      refine lv_iload_n hx hb dX1_framesOf_28 rfl (lv_at hl 2 rfl) ?_
      refine lv_istore_n (lv' := [(2, .int (nI ((rw_ ow i).count x))), (0, .ref k0), (1, .int x), (3, .int (nI i))]) hx hb dX1_framesOf_29 rfl hl (by decide) rfl (fun ls hl => ?_)
      refine lv_iinc (v := nI (i + 1)) (lv' := [(3, .int (nI (i + 1))), (2, .int (nI ((rw_ ow i).count x))), (0, .ref k0), (1, .int x)]) hx hb dX1_framesOf_30 hl (k := 3) rfl (kInc1 _) (by decide) rfl (fun ls hl => ?_)
      refine lv_goto (tgt := 4) hx hb dX1_framesOf_33 (by decide) ?_
      exact ih c1  ls _ _  hP hD hS (by have h := (lv_sub (l' := [(0, .ref k0), (1, .int x), (2, .int (nI ((rw_ ow i).count x))), (3, .int (nI (i + 1)))]) hl [2, 3, 1, 0] rfl); rw [show (rw_ ow (i + 1)).count x = (rw_ ow i).count x by rw [rw_succ, List.count_append, List.count_cons_of_ne c2, List.count_nil]; rfl]; exact h)
    · skip
      refine lv_iload_n hx hb dX1_framesOf_22 rfl (lv_at hl 2 rfl) ?_
      refine lv_iconst (v := nI 1) hx hb dX1_framesOf_23 (by decide) ?_
      refine kAdd hx hb dX1_framesOf_24 ?_
      refine lv_goto (tgt := 29) hx hb dX1_framesOf_25 (by decide) ?_
      refine lv_istore_n (lv' := [(2, .int (nI (((rw_ ow i).count x) + 1))), (0, .ref k0), (1, .int x), (3, .int (nI i))]) hx hb dX1_framesOf_29 rfl hl (by decide) rfl (fun ls hl => ?_)
      refine lv_iinc (v := nI (i + 1)) (lv' := [(3, .int (nI (i + 1))), (2, .int (nI (((rw_ ow i).count x) + 1))), (0, .ref k0), (1, .int x)]) hx hb dX1_framesOf_30 hl (k := 3) rfl (kInc1 _) (by decide) rfl (fun ls hl => ?_)
      refine lv_goto (tgt := 4) hx hb dX1_framesOf_33 (by decide) ?_
      exact ih c1  ls _ _  hP hD hS (by have h := (lv_sub (l' := [(0, .ref k0), (1, .int x), (2, .int (nI (((rw_ ow i).count x) + 1))), (3, .int (nI (i + 1)))]) hl [2, 3, 1, 0] rfl); rw [show (rw_ ow (i + 1)).count x = (rw_ ow i).count x + 1 by rw [rw_succ, List.count_append, c2, List.count_cons_self, List.count_nil]]; exact h)

set_option maxHeartbeats 4000000 in
set_option maxRecDepth 100000 in
theorem pX1_frame (l : Launch) (D : va_G) (k0 k1 k2 k3 k4 k5 k6 : Nat) (cI : ClassId) (th : Int32) (F : Nat) (ca : Int32) (ow sl gl : Nat → Int32) (mn : Int32) (va ki ra : Nat → Int32) (hF : F ≤ 256) (x : Int32) (k : Nat) (hk : k < 2147483648) : Mi l yX1_frame wsX1_frame r0 D (tI cI) [.ref k0, .int x, .int (nI k)] (wM k0 k1 k2 k3 k4 k5 k6 cI th (nI F) ca ow sl gl mn va ki ra) (fun r u => u = wM k0 k1 k2 k3 k4 k5 k6 cI th (nI F) ca ow sl gl mn va ki ra ∧ ((r = (-1) ∧ (rw_ ow F).count x ≤ k) ∨ ∃ q, r = nI q ∧ q < F ∧ ow q = x ∧ (rw_ ow q).count x = k)) := by
  refine Mi.of (cc := cX1_frame) (maxL := 5) (ty := .int) (by decide +kernel) rfl (Nat.le_of_ble_eq_true rfl) ?_
  rintro p e s m below meth c ls A ⟨hx, hb, hr, hml, hts, hown, hlocks, hnm, hP, hK, hD, hA, hS, hl⟩
  have hown : s.vm.findClass RX1 = some m.cls := hown
  have hl : lv_has ls 5 [(0, .ref k0), (1, .int x), (2, .int (nI k))] := hl
  have hin : ∀ w ∈ wsX10, w ∈ wsX1_frame := by decide +kernel
  have hP : va_P D kC (wM k0 k1 k2 k3 k4 k5 k6 cI th (nI F) ca ow sl gl mn va ki ra) s.heap := hP
  have hD : va_D A (wM k0 k1 k2 k3 k4 k5 k6 cI th (nI F) ca ow sl gl mn va ki ra) := hD
  refine lv_iload_n hx hb dX1_frame_0 rfl (lv_at hl 2 rfl) ?_
  refine lv_istore_n (lv' := [(3, .int (nI k)), (0, .ref k0), (1, .int x), (2, .int (nI k))]) hx hb dX1_frame_1 rfl hl (by decide) rfl (fun ls hl => ?_)
  refine lv_iconst (v := nI 0) hx hb dX1_frame_2 (by decide) ?_
  refine lv_istore (lv' := [(4, .int (nI 0)), (3, .int (nI k)), (0, .ref k0), (1, .int x), (2, .int (nI k))]) hx hb dX1_frame_3 hl (by decide) rfl (fun ls hl => ?_)
  refine kLoop (Q := fun i => ∀  (ls : Array Slot) (H : Heap) (locs : List Loc), (rw_ ow i).count x ≤ k → va_P D kC (wM k0 k1 k2 k3 k4 k5 k6 cI th (nI F) ca ow sl gl mn va ki ra) H → va_D A (wM k0 k1 k2 k3 k4 k5 k6 cI th (nI F) ca ow sl gl mn va ki ra) → va_S A s.heap H locs → lv_has ls 5 [(0, .ref k0), (1, .int x), (2, .int (nI k)), (3, .int (nI (k - (rw_ ow i).count x))), (4, .int (nI i))] → W p l e r0 s m [.ref k0, .int x, .int (nI k)].toArray below meth c H locs 0 0 (MQ below (va_Qi (fun r u => u = wM k0 k1 k2 k3 k4 k5 k6 cI th (nI F) ca ow sl gl mn va ki ra ∧ ((r = (-1) ∧ (rw_ ow F).count x ≤ k) ∨ ∃ q, r = nI q ∧ q < F ∧ ow q = x ∧ (rw_ ow q).count x = k)) (kB D (tI cI) A) A) [.ref k0, .int x, .int (nI k)].toArray s r0.cells r0.slots A) (F0 m 5 ls [])) (F) ?_ (0) (Nat.zero_le _)  ls _ _ (Nat.zero_le _) hP hD hS (lv_sub hl [2, 3, 4, 1, 0] rfl)
  intro i hi ih  ls H locs hck hP hD hS hl
  have hc := rw_count_le ow i x
  refine lv_iload hx hb dX1_frame_5 (lv_at hl 4 rfl) ?_
  refine lv_aload_n hx hb dX1_frame_7 rfl (lv_at hl 0 rfl) ?_
  refine va_get (D := D) (ci := 1) (v := .int (nI F)) (C := RX1) (T := TX1) (N := 10) hx hb hts hin hown hK hP 0 rfl rfl 1 (by decide) (hts (.fieldLink RX1 7 "FrameRowModel" "frames" "I") (by decide +kernel)) (fun _ h9 => h9) rfl dX1_frame_8 ?_
  refine kIge (a := i) (b := F) (by omega) (by omega) (tgt := 54) hx hb dX1_frame_11 (by decide) (fun c1 => ?_) (fun c1 => ?_)
  · skip
    have hi2 : i = F := by omega
    subst hi2
    refine lv_iconst (v := (-1)) hx hb dX1_frame_54 (by decide) ?_
    exact (kReti hx hb hr hlocks dX1_frame_55 (Nat.le_of_ble_eq_true rfl) (Nat.le_of_ble_eq_true rfl) hK hS hP hD ⟨rfl, Or.inl ⟨rfl, hck⟩⟩)
  · skip
    refine lv_aload_n hx hb dX1_frame_14 rfl (lv_at hl 0 rfl) ?_
    refine va_get (D := D) (ci := 1) (v := .ref k1) (C := RX1) (T := TX1) (N := 10) hx hb hts hin hown hK hP 0 rfl rfl 3 (by decide) (hts (.fieldLink RX1 13 "FrameRowModel" "owners" "[I") (by decide +kernel)) (fun _ h9 => h9) rfl dX1_frame_15 ?_
    refine lv_iload hx hb dX1_frame_18 (lv_at hl 4 rfl) ?_
    refine kLd hx hb hK hP 1 0 rfl rfl (j := i) (by omega) (by decide) dX1_frame_20 ?_
    refine lv_iload_n hx hb dX1_frame_21 rfl (lv_at hl 1 rfl) ?_
    refine lv_icmp_ne (tgt := 31) hx hb dX1_frame_22 (by decide) (fun c2 => ?_) (fun c2 => ?_)
    · skip
      have hsm : (rw_ ow (i + 1)).count x = (rw_ ow i).count x := by rw [rw_succ, List.count_append, List.count_cons_of_ne c2, List.count_nil]; rfl
      refine lv_iload_n hx hb dX1_frame_31 rfl (lv_at hl 3 rfl) ?_
      refine lv_istore_n (lv' := [(3, .int (nI (k - (rw_ ow i).count x))), (0, .ref k0), (1, .int x), (2, .int (nI k)), (4, .int (nI i))]) hx hb dX1_frame_32 rfl hl (by decide) rfl (fun ls hl => ?_)
      refine lv_iload_n hx hb dX1_frame_33 rfl (lv_at hl 0 rfl) ?_
      refine lv_if_ge (tgt := 48) hx hb dX1_frame_34 (by decide) (fun c3 => ?_) (fun c3 => ?_)
      · skip
        refine lv_iinc (v := nI (i + 1)) (lv' := [(4, .int (nI (i + 1))), (3, .int (nI (k - (rw_ ow i).count x))), (0, .ref k0), (1, .int x), (2, .int (nI k))]) hx hb dX1_frame_48 hl (k := 4) rfl (kInc1 _) (by decide) rfl (fun ls hl => ?_)
        refine lv_goto (tgt := 5) hx hb dX1_frame_51 (by decide) ?_
        exact ih c1  ls _ _ (by rw [hsm]; exact hck) hP hD hS (by have h := (lv_sub (l' := [(0, .ref k0), (1, .int x), (2, .int (nI k)), (3, .int (nI (k - (rw_ ow i).count x))), (4, .int (nI (i + 1)))]) hl [2, 3, 4, 1, 0] rfl); rw [hsm]; exact h)
      · skip
        exact absurd (nI_pos' (by omega)) c3
    · skip
      have hsm : (rw_ ow (i + 1)).count x = (rw_ ow i).count x + 1 := by rw [rw_succ, List.count_append, c2, List.count_cons_self, List.count_nil]
      by_cases c4 : (rw_ ow i).count x = k
      · skip
        refine lv_iload_n hx hb dX1_frame_25 rfl (lv_at hl 3 rfl) ?_
        refine lv_iconst (v := nI 1) hx hb dX1_frame_26 (by decide) ?_
        refine lv_isub hx hb dX1_frame_27 ?_
        refine kTop (v' := (-1)) (by rw [c4, Nat.sub_self]; rfl) ?_
        refine lv_goto (tgt := 32) hx hb dX1_frame_28 (by decide) ?_
        refine lv_istore_n (lv' := [(3, .int ((-1))), (0, .ref k0), (1, .int x), (2, .int (nI k)), (4, .int (nI i))]) hx hb dX1_frame_32 rfl hl (by decide) rfl (fun ls hl => ?_)
        refine lv_iload_n hx hb dX1_frame_33 rfl (lv_at hl 0 rfl) ?_
        refine lv_if_ge (tgt := 48) hx hb dX1_frame_34 (by decide) (fun c3 => ?_) (fun c3 => ?_)
        · skip
          exact absurd c3 (by decide)
        · skip
          refine lv_iload_n hx hb dX1_frame_37 rfl (lv_at hl 3 rfl) ?_
          refine lv_if_ge (tgt := 45) hx hb dX1_frame_38 (by decide) (fun c5 => ?_) (fun c5 => ?_)
          · skip
            refine lv_iload hx hb dX1_frame_45 (lv_at hl 4 rfl) ?_
            exact (kReti hx hb hr hlocks dX1_frame_47 (Nat.le_of_ble_eq_true rfl) (Nat.le_of_ble_eq_true rfl) hK hS hP hD ⟨rfl, Or.inr ⟨i, rfl, c1, c2, c4⟩⟩)
          · skip
            exact absurd (nI_pos' hk) c5
      · skip
        refine lv_iload_n hx hb dX1_frame_25 rfl (lv_at hl 3 rfl) ?_
        refine lv_iconst (v := nI 1) hx hb dX1_frame_26 (by decide) ?_
        refine kSub (by omega) hx hb dX1_frame_27 ?_
        refine lv_goto (tgt := 32) hx hb dX1_frame_28 (by decide) ?_
        refine lv_istore_n (lv' := [(3, .int (nI ((k - (rw_ ow i).count x) - 1))), (0, .ref k0), (1, .int x), (2, .int (nI k)), (4, .int (nI i))]) hx hb dX1_frame_32 rfl hl (by decide) rfl (fun ls hl => ?_)
        refine lv_iload_n hx hb dX1_frame_33 rfl (lv_at hl 0 rfl) ?_
        refine lv_if_ge (tgt := 48) hx hb dX1_frame_34 (by decide) (fun c3 => ?_) (fun c3 => ?_)
        · skip
          refine lv_iinc (v := nI (i + 1)) (lv' := [(4, .int (nI (i + 1))), (3, .int (nI ((k - (rw_ ow i).count x) - 1))), (0, .ref k0), (1, .int x), (2, .int (nI k))]) hx hb dX1_frame_48 hl (k := 4) rfl (kInc1 _) (by decide) rfl (fun ls hl => ?_)
          refine lv_goto (tgt := 5) hx hb dX1_frame_51 (by decide) ?_
          exact ih c1  ls _ _ (by rw [hsm]; omega) hP hD hS (by have h := (lv_sub (l' := [(0, .ref k0), (1, .int x), (2, .int (nI k)), (3, .int (nI ((k - (rw_ ow i).count x) - 1))), (4, .int (nI (i + 1)))]) hl [2, 3, 4, 1, 0] rfl); rw [show k - (rw_ ow (i + 1)).count x = k - (rw_ ow i).count x - 1 by rw [hsm]; omega]; exact h)
        · skip
          exact absurd (nI_pos' (by omega)) c3

set_option maxHeartbeats 4000000 in
set_option maxRecDepth 100000 in
theorem pX1_frameN (l : Launch) (D : va_G) (k0 k1 k2 k3 k4 k5 k6 : Nat) (cI : ClassId) (th : Int32) (F : Nat) (ca : Int32) (ow sl gl : Nat → Int32) (mn : Int32) (va ki ra : Nat → Int32) (hF : F ≤ 256) (x k : Int32) (hk : k < 0) : Mi l yX1_frame wsX1_frame r0 D (tI cI) [.ref k0, .int x, .int k] (wM k0 k1 k2 k3 k4 k5 k6 cI th (nI F) ca ow sl gl mn va ki ra) (fun r u => u = wM k0 k1 k2 k3 k4 k5 k6 cI th (nI F) ca ow sl gl mn va ki ra ∧ r = (-1)) := by
  refine Mi.of (cc := cX1_frame) (maxL := 5) (ty := .int) (by decide +kernel) rfl (Nat.le_of_ble_eq_true rfl) ?_
  rintro p e s m below meth c ls A ⟨hx, hb, hr, hml, hts, hown, hlocks, hnm, hP, hK, hD, hA, hS, hl⟩
  have hown : s.vm.findClass RX1 = some m.cls := hown
  have hl : lv_has ls 5 [(0, .ref k0), (1, .int x), (2, .int k)] := hl
  have hin : ∀ w ∈ wsX10, w ∈ wsX1_frame := by decide +kernel
  have hP : va_P D kC (wM k0 k1 k2 k3 k4 k5 k6 cI th (nI F) ca ow sl gl mn va ki ra) s.heap := hP
  have hD : va_D A (wM k0 k1 k2 k3 k4 k5 k6 cI th (nI F) ca ow sl gl mn va ki ra) := hD
  refine lv_iload_n hx hb dX1_frame_0 rfl (lv_at hl 2 rfl) ?_
  refine lv_istore_n (lv' := [(3, .int k), (0, .ref k0), (1, .int x), (2, .int k)]) hx hb dX1_frame_1 rfl hl (by decide) rfl (fun ls hl => ?_)
  refine lv_iconst (v := nI 0) hx hb dX1_frame_2 (by decide) ?_
  refine lv_istore (lv' := [(4, .int (nI 0)), (3, .int k), (0, .ref k0), (1, .int x), (2, .int k)]) hx hb dX1_frame_3 hl (by decide) rfl (fun ls hl => ?_)
  refine kLoop (Q := fun i => ∀ (z : Int32) (ls : Array Slot) (H : Heap) (locs : List Loc), va_P D kC (wM k0 k1 k2 k3 k4 k5 k6 cI th (nI F) ca ow sl gl mn va ki ra) H → va_D A (wM k0 k1 k2 k3 k4 k5 k6 cI th (nI F) ca ow sl gl mn va ki ra) → va_S A s.heap H locs → lv_has ls 5 [(0, .ref k0), (1, .int x), (2, .int k), (3, .int z), (4, .int (nI i))] → W p l e r0 s m [.ref k0, .int x, .int k].toArray below meth c H locs 0 0 (MQ below (va_Qi (fun r u => u = wM k0 k1 k2 k3 k4 k5 k6 cI th (nI F) ca ow sl gl mn va ki ra ∧ r = (-1)) (kB D (tI cI) A) A) [.ref k0, .int x, .int k].toArray s r0.cells r0.slots A) (F0 m 5 ls [])) (F) ?_ (0) (Nat.zero_le _) k ls _ _  hP hD hS (lv_sub hl [2, 3, 4, 1, 0] rfl)
  intro i hi ih z ls H locs  hP hD hS hl
  refine lv_iload hx hb dX1_frame_5 (lv_at hl 4 rfl) ?_
  refine lv_aload_n hx hb dX1_frame_7 rfl (lv_at hl 0 rfl) ?_
  refine va_get (D := D) (ci := 1) (v := .int (nI F)) (C := RX1) (T := TX1) (N := 10) hx hb hts hin hown hK hP 0 rfl rfl 1 (by decide) (hts (.fieldLink RX1 7 "FrameRowModel" "frames" "I") (by decide +kernel)) (fun _ h9 => h9) rfl dX1_frame_8 ?_
  refine kIge (a := i) (b := F) (by omega) (by omega) (tgt := 54) hx hb dX1_frame_11 (by decide) (fun c1 => ?_) (fun c1 => ?_)
  · skip
    refine lv_iconst (v := (-1)) hx hb dX1_frame_54 (by decide) ?_
    exact (kReti hx hb hr hlocks dX1_frame_55 (Nat.le_of_ble_eq_true rfl) (Nat.le_of_ble_eq_true rfl) hK hS hP hD ⟨rfl, rfl⟩)
  · skip
    refine lv_aload_n hx hb dX1_frame_14 rfl (lv_at hl 0 rfl) ?_
    refine va_get (D := D) (ci := 1) (v := .ref k1) (C := RX1) (T := TX1) (N := 10) hx hb hts hin hown hK hP 0 rfl rfl 3 (by decide) (hts (.fieldLink RX1 13 "FrameRowModel" "owners" "[I") (by decide +kernel)) (fun _ h9 => h9) rfl dX1_frame_15 ?_
    refine lv_iload hx hb dX1_frame_18 (lv_at hl 4 rfl) ?_
    refine kLd hx hb hK hP 1 0 rfl rfl (j := i) (by omega) (by decide) dX1_frame_20 ?_
    refine lv_iload_n hx hb dX1_frame_21 rfl (lv_at hl 1 rfl) ?_
    refine lv_icmp_ne (tgt := 31) hx hb dX1_frame_22 (by decide) (fun c2 => ?_) (fun c2 => ?_)
    · skip
      refine lv_iload_n hx hb dX1_frame_31 rfl (lv_at hl 3 rfl) ?_
      refine lv_istore_n (lv' := [(3, .int z), (0, .ref k0), (1, .int x), (2, .int k), (4, .int (nI i))]) hx hb dX1_frame_32 rfl hl (by decide) rfl (fun ls hl => ?_)
      refine lv_iload_n hx hb dX1_frame_33 rfl (lv_at hl 0 rfl) ?_
      refine lv_if_ge (tgt := 48) hx hb dX1_frame_34 (by decide) (fun c3 => ?_) (fun c3 => ?_)
      · skip
        refine lv_iinc (v := nI (i + 1)) (lv' := [(4, .int (nI (i + 1))), (3, .int z), (0, .ref k0), (1, .int x), (2, .int k)]) hx hb dX1_frame_48 hl (k := 4) rfl (kInc1 _) (by decide) rfl (fun ls hl => ?_)
        refine lv_goto (tgt := 5) hx hb dX1_frame_51 (by decide) ?_
        exact ih c1 z ls _ _  hP hD hS (lv_sub (l' := [(0, .ref k0), (1, .int x), (2, .int k), (3, .int z), (4, .int (nI (i + 1)))]) hl [2, 3, 4, 1, 0] rfl)
      · skip
        refine lv_iload_n hx hb dX1_frame_37 rfl (lv_at hl 3 rfl) ?_
        refine lv_if_ge (tgt := 45) hx hb dX1_frame_38 (by decide) (fun c5 => ?_) (fun c5 => ?_)
        · skip
          exact absurd hk (Int32.not_lt.mpr c5)
        · skip
          refine lv_iconst (v := (-1)) hx hb dX1_frame_41 (by decide) ?_
          refine lv_goto (tgt := 47) hx hb dX1_frame_42 (by decide) ?_
          exact (kReti hx hb hr hlocks dX1_frame_47 (Nat.le_of_ble_eq_true rfl) (Nat.le_of_ble_eq_true rfl) hK hS hP hD ⟨rfl, rfl⟩)
    · skip
      refine lv_iload_n hx hb dX1_frame_25 rfl (lv_at hl 3 rfl) ?_
      refine lv_iconst (v := nI 1) hx hb dX1_frame_26 (by decide) ?_
      refine lv_isub hx hb dX1_frame_27 ?_
      refine lv_goto (tgt := 32) hx hb dX1_frame_28 (by decide) ?_
      refine lv_istore_n (lv' := [(3, .int (z - (nI 1))), (0, .ref k0), (1, .int x), (2, .int k), (4, .int (nI i))]) hx hb dX1_frame_32 rfl hl (by decide) rfl (fun ls hl => ?_)
      refine lv_iload_n hx hb dX1_frame_33 rfl (lv_at hl 0 rfl) ?_
      refine lv_if_ge (tgt := 48) hx hb dX1_frame_34 (by decide) (fun c3 => ?_) (fun c3 => ?_)
      · skip
        refine lv_iinc (v := nI (i + 1)) (lv' := [(4, .int (nI (i + 1))), (3, .int (z - (nI 1))), (0, .ref k0), (1, .int x), (2, .int k)]) hx hb dX1_frame_48 hl (k := 4) rfl (kInc1 _) (by decide) rfl (fun ls hl => ?_)
        refine lv_goto (tgt := 5) hx hb dX1_frame_51 (by decide) ?_
        exact ih c1 (z - (nI 1)) ls _ _  hP hD hS (lv_sub (l' := [(0, .ref k0), (1, .int x), (2, .int k), (3, .int (z - (nI 1))), (4, .int (nI (i + 1)))]) hl [2, 3, 4, 1, 0] rfl)
      · skip
        refine lv_iload_n hx hb dX1_frame_37 rfl (lv_at hl 3 rfl) ?_
        refine lv_if_ge (tgt := 45) hx hb dX1_frame_38 (by decide) (fun c5 => ?_) (fun c5 => ?_)
        · skip
          exact absurd hk (Int32.not_lt.mpr c5)
        · skip
          refine lv_iconst (v := (-1)) hx hb dX1_frame_41 (by decide) ?_
          refine lv_goto (tgt := 47) hx hb dX1_frame_42 (by decide) ?_
          exact (kReti hx hb hr hlocks dX1_frame_47 (Nat.le_of_ble_eq_true rfl) (Nat.le_of_ble_eq_true rfl) hK hS hP hD ⟨rfl, rfl⟩)

set_option maxHeartbeats 4000000 in
set_option maxRecDepth 100000 in
theorem pX1_drop (l : Launch) (D : va_G) (k0 k1 k2 k3 k4 k5 k6 : Nat) (cI : ClassId) (th : Int32) (F : Nat) (ca : Int32) (ow sl gl : Nat → Int32) (mn : Int32) (va ki ra : Nat → Int32) (hF : F ≤ 256) (q : Nat) (hq : q < F) : Mv l yX1_drop wsX1_drop r0 D (tI cI) [.ref k0, .int (nI q)] (wM k0 k1 k2 k3 k4 k5 k6 cI th (nI F) ca ow sl gl mn va ki ra) (fun u => u = wM k0 k1 k2 k3 k4 k5 k6 cI th (nI (F - 1)) ca ((fun t => if q ≤ t ∧ t < F - 1 then ow (t + 1) else ow t)) ((fun t => if 8 * q ≤ t ∧ t < 8 * (F - 1) then sl (t + 8) else sl t)) gl mn va ki ra) := by
  refine Mv.of (cc := cX1_drop) (maxL := 4) (by decide +kernel) rfl (Nat.le_of_ble_eq_true rfl) ?_
  rintro p e s m below meth c ls A ⟨hx, hb, hr, hml, hts, hown, hlocks, hnm, hP, hK, hD, hA, hS, hl⟩
  have hown : s.vm.findClass RX1 = some m.cls := hown
  have hl : lv_has ls 4 [(0, .ref k0), (1, .int (nI q))] := hl
  have hin : ∀ w ∈ wsX10, w ∈ wsX1_drop := by decide +kernel
  have hP : va_P D kC (wM k0 k1 k2 k3 k4 k5 k6 cI th (nI F) ca ow sl gl mn va ki ra) s.heap := hP
  have hD : va_D A (wM k0 k1 k2 k3 k4 k5 k6 cI th (nI F) ca ow sl gl mn va ki ra) := hD
  refine lv_iload_n hx hb dX1_drop_0 rfl (lv_at hl 1 rfl) ?_
  refine lv_istore_n (lv' := [(2, .int (nI q)), (0, .ref k0), (1, .int (nI q))]) hx hb dX1_drop_1 rfl hl (by decide) rfl (fun ls hl => ?_)
  have hP : va_P D kC (wM k0 k1 k2 k3 k4 k5 k6 cI th (nI F) ca ((fun t => if q ≤ t ∧ t < q then ow (t + 1) else ow t)) ((fun t => if 8 * q ≤ t ∧ t < 8 * q then sl (t + 8) else sl t)) gl mn va ki ra) s.heap := by rw [sh_start, sh_start8]; exact hP
  have hD : va_D A (wM k0 k1 k2 k3 k4 k5 k6 cI th (nI F) ca ((fun t => if q ≤ t ∧ t < q then ow (t + 1) else ow t)) ((fun t => if 8 * q ≤ t ∧ t < 8 * q then sl (t + 8) else sl t)) gl mn va ki ra) := by rw [sh_start, sh_start8]; exact hD
  refine kLoop (Q := fun i => ∀  (ls : Array Slot) (H : Heap) (locs : List Loc), q ≤ i → va_P D kC (wM k0 k1 k2 k3 k4 k5 k6 cI th (nI F) ca ((fun t => if q ≤ t ∧ t < i then ow (t + 1) else ow t)) ((fun t => if 8 * q ≤ t ∧ t < 8 * i then sl (t + 8) else sl t)) gl mn va ki ra) H → va_D A (wM k0 k1 k2 k3 k4 k5 k6 cI th (nI F) ca ((fun t => if q ≤ t ∧ t < i then ow (t + 1) else ow t)) ((fun t => if 8 * q ≤ t ∧ t < 8 * i then sl (t + 8) else sl t)) gl mn va ki ra) → va_S A s.heap H locs → lv_has ls 4 [(0, .ref k0), (2, .int (nI i))] → W p l e r0 s m [.ref k0, .int (nI q)].toArray below meth c H locs 0 0 (MQ below (va_Qv (fun u => u = wM k0 k1 k2 k3 k4 k5 k6 cI th (nI (F - 1)) ca ((fun t => if q ≤ t ∧ t < F - 1 then ow (t + 1) else ow t)) ((fun t => if 8 * q ≤ t ∧ t < 8 * (F - 1) then sl (t + 8) else sl t)) gl mn va ki ra) (kB D (tI cI) A) A) [.ref k0, .int (nI q)].toArray s r0.cells r0.slots A) (F0 m 2 ls [])) (F - 1) ?_ (q) (by omega)  ls _ _ (Nat.le_refl q) hP hD hS (lv_sub hl [1, 0] rfl)
  intro i hi ih  ls H locs hqi hP hD hS hl
  refine lv_iload_n hx hb dX1_drop_2 rfl (lv_at hl 1 rfl) ?_
  refine lv_iconst (v := nI 1) hx hb dX1_drop_3 (by decide) ?_
  refine kAdd hx hb dX1_drop_4 ?_
  refine lv_aload_n hx hb dX1_drop_5 rfl (lv_at hl 0 rfl) ?_
  refine va_get (D := D) (ci := 1) (v := .int (nI F)) (C := RX1) (T := TX1) (N := 10) hx hb hts hin hown hK hP 0 rfl rfl 1 (by decide) (hts (.fieldLink RX1 7 "FrameRowModel" "frames" "I") (by decide +kernel)) (fun _ h9 => h9) rfl dX1_drop_6 ?_
  refine kIge (a := i + 1) (b := F) (by omega) (by omega) (tgt := 71) hx hb dX1_drop_9 (by decide) (fun c1 => ?_) (fun c1 => ?_)
  · skip
    have hi2 : i = F - 1 := by omega
    subst hi2
    refine lv_aload_n hx hb dX1_drop_71 rfl (lv_at hl 0 rfl) ?_
    refine lv_dup hx hb dX1_drop_72 rfl ?_
    refine va_get (D := D) (ci := 1) (v := .int (nI F)) (C := RX1) (T := TX1) (N := 10) hx hb hts hin hown hK hP 0 rfl rfl 1 (by decide) (hts (.fieldLink RX1 7 "FrameRowModel" "frames" "I") (by decide +kernel)) (fun _ h9 => h9) rfl dX1_drop_73 ?_
    refine lv_iconst (v := nI 1) hx hb dX1_drop_76 (by decide) ?_
    refine kSub (by omega) hx hb dX1_drop_77 ?_
    refine va_put (D := D) (ci := 1) (v := .int (nI (F - 1))) (ty := .int) (C := RX1) (T := TX1) (N := 10) hx hb hts hin tyX1 tyX1_ok nmX1 hown hK hP hD hS 0 rfl rfl 1 (by decide) (hts (.fieldLink RX1 7 "FrameRowModel" "frames" "I") (by decide +kernel)) (fun _ h9 => h9) rfl (by decide +kernel) rfl rfl (Nat.le_of_ble_eq_true rfl) dX1_drop_78 (fun H locs hP hD hS => ?_)
    have hP : va_P D kC (wM k0 k1 k2 k3 k4 k5 k6 cI th (nI (F - 1)) ca ((fun t => if q ≤ t ∧ t < F - 1 then ow (t + 1) else ow t)) ((fun t => if 8 * q ≤ t ∧ t < 8 * (F - 1) then sl (t + 8) else sl t)) gl mn va ki ra) H := hP
    have hD : va_D A (wM k0 k1 k2 k3 k4 k5 k6 cI th (nI (F - 1)) ca ((fun t => if q ≤ t ∧ t < F - 1 then ow (t + 1) else ow t)) ((fun t => if 8 * q ≤ t ∧ t < 8 * (F - 1) then sl (t + 8) else sl t)) gl mn va ki ra) := hD
    exact (kRetv hx hb hr hlocks dX1_drop_81 (Nat.le_of_ble_eq_true rfl) (Nat.le_of_ble_eq_true rfl) hK hS hP hD rfl)
  · skip
    refine lv_aload_n hx hb dX1_drop_12 rfl (lv_at hl 0 rfl) ?_
    refine va_get (D := D) (ci := 1) (v := .ref k1) (C := RX1) (T := TX1) (N := 10) hx hb hts hin hown hK hP 0 rfl rfl 3 (by decide) (hts (.fieldLink RX1 13 "FrameRowModel" "owners" "[I") (by decide +kernel)) (fun _ h9 => h9) rfl dX1_drop_13 ?_
    refine lv_iload_n hx hb dX1_drop_16 rfl (lv_at hl 1 rfl) ?_
    refine lv_aload_n hx hb dX1_drop_17 rfl (lv_at hl 0 rfl) ?_
    refine va_get (D := D) (ci := 1) (v := .ref k1) (C := RX1) (T := TX1) (N := 10) hx hb hts hin hown hK hP 0 rfl rfl 3 (by decide) (hts (.fieldLink RX1 13 "FrameRowModel" "owners" "[I") (by decide +kernel)) (fun _ h9 => h9) rfl dX1_drop_18 ?_
    refine lv_iload_n hx hb dX1_drop_21 rfl (lv_at hl 1 rfl) ?_
    refine lv_iconst (v := nI 1) hx hb dX1_drop_22 (by decide) ?_
    refine kAdd hx hb dX1_drop_23 ?_
    refine kLd hx hb hK hP 1 0 rfl rfl (j := i + 1) (by omega) (by decide) dX1_drop_24 ?_
    refine kTop (v' := ow (i + 1)) (if_neg (by omega)) ?_
    refine kSt hx hb hK hP hD hS 1 0 rfl rfl (j := i) (by omega) (by decide) dX1_drop_25 (fun H locs hP hD hS => ?_)
    have hP : va_P D kC (wM k0 k1 k2 k3 k4 k5 k6 cI th (nI F) ca (upd ((fun t => if q ≤ t ∧ t < i then ow (t + 1) else ow t)) i (ow (i + 1))) ((fun t => if 8 * q ≤ t ∧ t < 8 * i then sl (t + 8) else sl t)) gl mn va ki ra) H := hP
    have hD : va_D A (wM k0 k1 k2 k3 k4 k5 k6 cI th (nI F) ca (upd ((fun t => if q ≤ t ∧ t < i then ow (t + 1) else ow t)) i (ow (i + 1))) ((fun t => if 8 * q ≤ t ∧ t < 8 * i then sl (t + 8) else sl t)) gl mn va ki ra) := hD
    rw [sh_put hqi] at hP hD
    refine lv_iconst (v := nI 0) hx hb dX1_drop_26 (by decide) ?_
    refine lv_istore_n (lv' := [(3, .int (nI 0)), (0, .ref k0), (2, .int (nI i))]) hx hb dX1_drop_27 rfl hl (by decide) rfl (fun ls hl => ?_)
    have hsl0 : ((fun t => if 8 * q ≤ t ∧ t < 8 * i then sl (t + 8) else sl t)) = ((fun t => if 8 * q ≤ t ∧ t < 8 * i + 0 then sl (t + 8) else sl t)) := rfl
    rw [hsl0] at hP hD
    refine kLoop (Q := fun j => ∀  (ls : Array Slot) (H : Heap) (locs : List Loc), va_P D kC (wM k0 k1 k2 k3 k4 k5 k6 cI th (nI F) ca ((fun t => if q ≤ t ∧ t < i + 1 then ow (t + 1) else ow t)) ((fun t => if 8 * q ≤ t ∧ t < 8 * i + j then sl (t + 8) else sl t)) gl mn va ki ra) H → va_D A (wM k0 k1 k2 k3 k4 k5 k6 cI th (nI F) ca ((fun t => if q ≤ t ∧ t < i + 1 then ow (t + 1) else ow t)) ((fun t => if 8 * q ≤ t ∧ t < 8 * i + j then sl (t + 8) else sl t)) gl mn va ki ra) → va_S A s.heap H locs → lv_has ls 4 [(0, .ref k0), (2, .int (nI i)), (3, .int (nI j))] → W p l e r0 s m [.ref k0, .int (nI q)].toArray below meth c H locs 0 0 (MQ below (va_Qv (fun u => u = wM k0 k1 k2 k3 k4 k5 k6 cI th (nI (F - 1)) ca ((fun t => if q ≤ t ∧ t < F - 1 then ow (t + 1) else ow t)) ((fun t => if 8 * q ≤ t ∧ t < 8 * (F - 1) then sl (t + 8) else sl t)) gl mn va ki ra) (kB D (tI cI) A) A) [.ref k0, .int (nI q)].toArray s r0.cells r0.slots A) (F0 m 28 ls [])) (8) ?_ (0) (Nat.zero_le _)  ls _ _  hP hD hS (lv_sub hl [1, 2, 0] rfl)
    intro j hj ih2  ls H locs  hP hD hS hl
    refine lv_iload_n hx hb dX1_drop_28 rfl (lv_at hl 2 rfl) ?_
    refine lv_bipush (v := nI 8) hx hb dX1_drop_29 (by decide) ?_
    refine kIge (a := j) (b := 8) (by omega) (by omega) (tgt := 65) hx hb dX1_drop_31 (by decide) (fun c2 => ?_) (fun c2 => ?_)
    · skip
      have hj2 : j = 8 := by omega
      subst hj2
      rw [show 8 * i + 8 = 8 * (i + 1) by omega] at hP hD
      refine lv_iinc (v := nI (i + 1)) (lv' := [(2, .int (nI (i + 1))), (0, .ref k0), (3, .int (nI 8))]) hx hb dX1_drop_65 hl (k := 1) rfl (kInc1 _) (by decide) rfl (fun ls hl => ?_)
      refine lv_goto (tgt := 2) hx hb dX1_drop_68 (by decide) ?_
      exact ih (by omega)  ls _ _ (by omega) hP hD hS (lv_sub (l' := [(0, .ref k0), (2, .int (nI (i + 1)))]) hl [1, 0] rfl)
    · skip
      refine lv_aload_n hx hb dX1_drop_34 rfl (lv_at hl 0 rfl) ?_
      refine va_get (D := D) (ci := 1) (v := .ref k2) (C := RX1) (T := TX1) (N := 10) hx hb hts hin hown hK hP 0 rfl rfl 4 (by decide) (hts (.fieldLink RX1 17 "FrameRowModel" "slots" "[I") (by decide +kernel)) (fun _ h9 => h9) rfl dX1_drop_35 ?_
      refine lv_bipush (v := nI 8) hx hb dX1_drop_38 (by decide) ?_
      refine lv_iload_n hx hb dX1_drop_40 rfl (lv_at hl 1 rfl) ?_
      refine kMul hx hb dX1_drop_41 ?_
      refine lv_iload_n hx hb dX1_drop_42 rfl (lv_at hl 2 rfl) ?_
      refine kAdd hx hb dX1_drop_43 ?_
      refine lv_aload_n hx hb dX1_drop_44 rfl (lv_at hl 0 rfl) ?_
      refine va_get (D := D) (ci := 1) (v := .ref k2) (C := RX1) (T := TX1) (N := 10) hx hb hts hin hown hK hP 0 rfl rfl 4 (by decide) (hts (.fieldLink RX1 17 "FrameRowModel" "slots" "[I") (by decide +kernel)) (fun _ h9 => h9) rfl dX1_drop_45 ?_
      refine lv_bipush (v := nI 8) hx hb dX1_drop_48 (by decide) ?_
      refine lv_iload_n hx hb dX1_drop_50 rfl (lv_at hl 1 rfl) ?_
      refine kMul hx hb dX1_drop_51 ?_
      refine lv_bipush (v := nI 8) hx hb dX1_drop_52 (by decide) ?_
      refine kAdd hx hb dX1_drop_54 ?_
      refine lv_iload_n hx hb dX1_drop_55 rfl (lv_at hl 2 rfl) ?_
      refine kAdd hx hb dX1_drop_56 ?_
      refine kLd hx hb hK hP 2 0 rfl rfl (j := ((8 * i) + 8) + j) (by omega) (by decide) dX1_drop_57 ?_
      refine kTop (v' := sl (8 * i + j + 8)) (by rw [if_neg (by omega)]; congr 1; omega) ?_
      refine kSt hx hb hK hP hD hS 2 0 rfl rfl (j := (8 * i) + j) (by omega) (by decide) dX1_drop_58 (fun H locs hP hD hS => ?_)
      have hP : va_P D kC (wM k0 k1 k2 k3 k4 k5 k6 cI th (nI F) ca ((fun t => if q ≤ t ∧ t < i + 1 then ow (t + 1) else ow t)) (upd ((fun t => if 8 * q ≤ t ∧ t < 8 * i + j then sl (t + 8) else sl t)) ((8 * i) + j) (sl (8 * i + j + 8))) gl mn va ki ra) H := hP
      have hD : va_D A (wM k0 k1 k2 k3 k4 k5 k6 cI th (nI F) ca ((fun t => if q ≤ t ∧ t < i + 1 then ow (t + 1) else ow t)) (upd ((fun t => if 8 * q ≤ t ∧ t < 8 * i + j then sl (t + 8) else sl t)) ((8 * i) + j) (sl (8 * i + j + 8))) gl mn va ki ra) := hD
      rw [sh_put8 (by omega)] at hP hD
      refine lv_iinc (v := nI (j + 1)) (lv' := [(3, .int (nI (j + 1))), (0, .ref k0), (2, .int (nI i))]) hx hb dX1_drop_59 hl (k := 2) rfl (kInc1 _) (by decide) rfl (fun ls hl => ?_)
      refine lv_goto (tgt := 28) hx hb dX1_drop_62 (by decide) ?_
      exact ih2 c2  ls _ _  hP hD hS (lv_sub (l' := [(0, .ref k0), (2, .int (nI i)), (3, .int (nI (j + 1)))]) hl [1, 2, 0] rfl)

set_option maxHeartbeats 4000000 in
set_option maxRecDepth 100000 in
theorem pX1_note (l : Launch) (D : va_G) (k0 k1 k2 k3 k4 k5 k6 : Nat) (cI : ClassId) (th : Int32) (F : Nat) (ca : Int32) (ow sl gl : Nat → Int32) (mn : Int32) (va ki ra : Nat → Int32) (G : List Int32) (hmn : mn = nI G.length) (hG : rw_ va G.length = G) (v : Int32) (hb9 : 0 < v → G.length < 2064) : Mv l yX1_note wsX1_note r0 D (tI cI) [.ref k0, .int v] (wM k0 k1 k2 k3 k4 k5 k6 cI th (nI F) ca ow sl gl mn va ki ra) (fun u => ∃ va' : Nat → Int32, u = wM k0 k1 k2 k3 k4 k5 k6 cI th (nI F) ca ow sl gl (nI (G ++ ps [v]).length) va' ki ra ∧ rw_ va' (G ++ ps [v]).length = G ++ ps [v]) := by
  refine Mv.of (cc := cX1_note) (maxL := 2) (by decide +kernel) rfl (Nat.le_of_ble_eq_true rfl) ?_
  rintro p e s m below meth c ls A ⟨hx, hb, hr, hml, hts, hown, hlocks, hnm, hP, hK, hD, hA, hS, hl⟩
  have hown : s.vm.findClass RX1 = some m.cls := hown
  have hl : lv_has ls 2 [(0, .ref k0), (1, .int v)] := hl
  have hin : ∀ w ∈ wsX10, w ∈ wsX1_note := by decide +kernel
  have hP : va_P D kC (wM k0 k1 k2 k3 k4 k5 k6 cI th (nI F) ca ow sl gl mn va ki ra) s.heap := hP
  have hD : va_D A (wM k0 k1 k2 k3 k4 k5 k6 cI th (nI F) ca ow sl gl mn va ki ra) := hD
  subst hmn
  refine lv_iload_n hx hb dX1_note_0 rfl (lv_at hl 1 rfl) ?_
  refine lv_if_le (tgt := 24) hx hb dX1_note_1 (by decide) (fun c1 => ?_) (fun c1 => ?_)
  · skip
    have hv0 : ps [v] = [] := ps_0 (Int32.not_lt.mpr c1)
    exact (kRetv hx hb hr hlocks dX1_note_24 (Nat.le_of_ble_eq_true rfl) (Nat.le_of_ble_eq_true rfl) hK hS hP hD ⟨va, by rw [hv0, List.append_nil], by rw [hv0, List.append_nil]; exact hG⟩)
  · skip
    have hv0 : 0 < v := Int32.not_le.mp c1
    have hb9 := hb9 hv0
    refine lv_aload_n hx hb dX1_note_4 rfl (lv_at hl 0 rfl) ?_
    refine va_get (D := D) (ci := 1) (v := .ref k4) (C := RX1) (T := TX1) (N := 10) hx hb hts hin hown hK hP 0 rfl rfl 7 (by decide) (hts (.fieldLink RX1 23 "FrameRowModel" "values" "[I") (by decide +kernel)) (fun _ h9 => h9) rfl dX1_note_5 ?_
    refine lv_aload_n hx hb dX1_note_8 rfl (lv_at hl 0 rfl) ?_
    refine va_get (D := D) (ci := 1) (v := .int (nI (G.length))) (C := RX1) (T := TX1) (N := 10) hx hb hts hin hown hK hP 0 rfl rfl 6 (by decide) (hts (.fieldLink RX1 69 "FrameRowModel" "many" "I") (by decide +kernel)) (fun _ h9 => h9) rfl dX1_note_9 ?_
    refine lv_iload_n hx hb dX1_note_12 rfl (lv_at hl 1 rfl) ?_
    refine kSt hx hb hK hP hD hS 4 0 rfl rfl (j := G.length) (by omega) (by decide) dX1_note_13 (fun H locs hP hD hS => ?_)
    have hP : va_P D kC (wM k0 k1 k2 k3 k4 k5 k6 cI th (nI F) ca ow sl gl (nI G.length) (upd va (G.length) v) ki ra) H := hP
    have hD : va_D A (wM k0 k1 k2 k3 k4 k5 k6 cI th (nI F) ca ow sl gl (nI G.length) (upd va (G.length) v) ki ra) := hD
    refine lv_aload_n hx hb dX1_note_14 rfl (lv_at hl 0 rfl) ?_
    refine lv_dup hx hb dX1_note_15 rfl ?_
    refine va_get (D := D) (ci := 1) (v := .int (nI (G.length))) (C := RX1) (T := TX1) (N := 10) hx hb hts hin hown hK hP 0 rfl rfl 6 (by decide) (hts (.fieldLink RX1 69 "FrameRowModel" "many" "I") (by decide +kernel)) (fun _ h9 => h9) rfl dX1_note_16 ?_
    refine lv_iconst (v := nI 1) hx hb dX1_note_19 (by decide) ?_
    refine kAdd hx hb dX1_note_20 ?_
    refine va_put (D := D) (ci := 1) (v := .int (nI ((G.length) + 1))) (ty := .int) (C := RX1) (T := TX1) (N := 10) hx hb hts hin tyX1 tyX1_ok nmX1 hown hK hP hD hS 0 rfl rfl 6 (by decide) (hts (.fieldLink RX1 69 "FrameRowModel" "many" "I") (by decide +kernel)) (fun _ h9 => h9) rfl (by decide +kernel) rfl rfl (Nat.le_of_ble_eq_true rfl) dX1_note_21 (fun H locs hP hD hS => ?_)
    have hP : va_P D kC (wM k0 k1 k2 k3 k4 k5 k6 cI th (nI F) ca ow sl gl (nI ((G.length) + 1)) (upd va (G.length) v) ki ra) H := hP
    have hD : va_D A (wM k0 k1 k2 k3 k4 k5 k6 cI th (nI F) ca ow sl gl (nI ((G.length) + 1)) (upd va (G.length) v) ki ra) := hD
    exact (kRetv hx hb hr hlocks dX1_note_24 (Nat.le_of_ble_eq_true rfl) (Nat.le_of_ble_eq_true rfl) hK hS hP hD ⟨upd va G.length v, by rw [ps_1 hv0, List.length_append]; rfl, by rw [ps_1 hv0, List.length_append]; exact (rw_push hG)⟩)

set_option maxHeartbeats 4000000 in
set_option maxRecDepth 100000 in
theorem pX1_find (l : Launch) (D : va_G) (k0 k1 k2 k3 k4 k5 k6 : Nat) (cI : ClassId) (th : Int32) (F : Nat) (ca : Int32) (ow sl gl : Nat → Int32) (mn : Int32) (va ki ra : Nat → Int32) (v : Int32) (hv : 0 < v) (E : Nat) (hE : E < 4099) (h0 : ki E = 0) : Mi l yX1_find wsX1_find r0 D (tI cI) [.ref k0, .int v] (wM k0 k1 k2 k3 k4 k5 k6 cI th (nI F) ca ow sl gl mn va ki ra) (fun r u => u = wM k0 k1 k2 k3 k4 k5 k6 cI th (nI F) ca ow sl gl mn va ki ra ∧ ∃ d, d < 4099 ∧ r = nI (hsh v d) ∧ (ki (hsh v d) = 0 ∨ ki (hsh v d) = v) ∧ ∀ j, j < d → ki (hsh v j) ≠ 0 ∧ ki (hsh v j) ≠ v) := by
  refine Mi.of (cc := cX1_find) (maxL := 3) (ty := .int) (by decide +kernel) rfl (Nat.le_of_ble_eq_true rfl) ?_
  rintro p e s m below meth c ls A ⟨hx, hb, hr, hml, hts, hown, hlocks, hnm, hP, hK, hD, hA, hS, hl⟩
  have hown : s.vm.findClass RX1 = some m.cls := hown
  have hl : lv_has ls 3 [(0, .ref k0), (1, .int v)] := hl
  have hin : ∀ w ∈ wsX10, w ∈ wsX1_find := by decide +kernel
  have hP : va_P D kC (wM k0 k1 k2 k3 k4 k5 k6 cI th (nI F) ca ow sl gl mn va ki ra) s.heap := hP
  have hD : va_D A (wM k0 k1 k2 k3 k4 k5 k6 cI th (nI F) ca ow sl gl mn va ki ra) := hD
  obtain ⟨d0, hd0, he⟩ := hsh_onto v hE
  refine lv_iload_n hx hb dX1_find_0 rfl (lv_at hl 1 rfl) ?_
  refine lv_sipush (v := nI 4099) hx hb dX1_find_1 (by decide) ?_
  refine lv_irem hx hb dX1_find_4 (by decide) ?_
  refine kTop (v' := nI (hsh v 0)) (hsh_0 hv) ?_
  refine lv_istore_n (lv' := [(2, .int (nI (hsh v 0))), (0, .ref k0), (1, .int v)]) hx hb dX1_find_5 rfl hl (by decide) rfl (fun ls hl => ?_)
  refine kLoop (Q := fun i => ∀  (ls : Array Slot) (H : Heap) (locs : List Loc), (∀ j, j < i → ki (hsh v j) ≠ 0 ∧ ki (hsh v j) ≠ v) → va_P D kC (wM k0 k1 k2 k3 k4 k5 k6 cI th (nI F) ca ow sl gl mn va ki ra) H → va_D A (wM k0 k1 k2 k3 k4 k5 k6 cI th (nI F) ca ow sl gl mn va ki ra) → va_S A s.heap H locs → lv_has ls 3 [(0, .ref k0), (1, .int v), (2, .int (nI (hsh v i)))] → W p l e r0 s m [.ref k0, .int v].toArray below meth c H locs 0 0 (MQ below (va_Qi (fun r u => u = wM k0 k1 k2 k3 k4 k5 k6 cI th (nI F) ca ow sl gl mn va ki ra ∧ ∃ d, d < 4099 ∧ r = nI (hsh v d) ∧ (ki (hsh v d) = 0 ∨ ki (hsh v d) = v) ∧ ∀ j, j < d → ki (hsh v j) ≠ 0 ∧ ki (hsh v j) ≠ v) (kB D (tI cI) A) A) [.ref k0, .int v].toArray s r0.cells r0.slots A) (F0 m 6 ls [])) (d0) ?_ (0) (Nat.zero_le _)  ls _ _ (fun j hj => absurd hj (Nat.not_lt_zero j)) hP hD hS (lv_sub hl [1, 2, 0] rfl)
  intro i hi ih  ls H locs hpath hP hD hS hl
  have hlt := hsh_lt v i
  refine lv_aload_n hx hb dX1_find_6 rfl (lv_at hl 0 rfl) ?_
  refine va_get (D := D) (ci := 1) (v := .ref k5) (C := RX1) (T := TX1) (N := 10) hx hb hts hin hown hK hP 0 rfl rfl 8 (by decide) (hts (.fieldLink RX1 26 "FrameRowModel" "kinds" "[I") (by decide +kernel)) (fun _ h9 => h9) rfl dX1_find_7 ?_
  refine lv_iload_n hx hb dX1_find_10 rfl (lv_at hl 2 rfl) ?_
  refine kLd hx hb hK hP 5 0 rfl rfl (j := hsh v i) (by omega) (by decide) dX1_find_11 ?_
  refine lv_if_eq (tgt := 45) hx hb dX1_find_12 (by decide) (fun c1 => ?_) (fun c1 => ?_)
  · skip
    refine lv_iload_n hx hb dX1_find_45 rfl (lv_at hl 2 rfl) ?_
    exact (kReti hx hb hr hlocks dX1_find_46 (Nat.le_of_ble_eq_true rfl) (Nat.le_of_ble_eq_true rfl) hK hS hP hD ⟨rfl, i, by omega, rfl, Or.inl c1, hpath⟩)
  · skip
    have hid : i < d0 := Nat.lt_of_le_of_ne hi (fun h => c1 (by rw [h, he]; exact h0))
    refine lv_aload_n hx hb dX1_find_15 rfl (lv_at hl 0 rfl) ?_
    refine va_get (D := D) (ci := 1) (v := .ref k5) (C := RX1) (T := TX1) (N := 10) hx hb hts hin hown hK hP 0 rfl rfl 8 (by decide) (hts (.fieldLink RX1 26 "FrameRowModel" "kinds" "[I") (by decide +kernel)) (fun _ h9 => h9) rfl dX1_find_16 ?_
    refine lv_iload_n hx hb dX1_find_19 rfl (lv_at hl 2 rfl) ?_
    refine kLd hx hb hK hP 5 0 rfl rfl (j := hsh v i) (by omega) (by decide) dX1_find_20 ?_
    refine lv_iload_n hx hb dX1_find_21 rfl (lv_at hl 1 rfl) ?_
    refine lv_icmp_eq (tgt := 45) hx hb dX1_find_22 (by decide) (fun c2 => ?_) (fun c2 => ?_)
    · skip
      refine lv_iload_n hx hb dX1_find_45 rfl (lv_at hl 2 rfl) ?_
      exact (kReti hx hb hr hlocks dX1_find_46 (Nat.le_of_ble_eq_true rfl) (Nat.le_of_ble_eq_true rfl) hK hS hP hD ⟨rfl, i, by omega, rfl, Or.inr c2, hpath⟩)
    · skip
      have hpath2 : ∀ j, j < i + 1 → ki (hsh v j) ≠ 0 ∧ ki (hsh v j) ≠ v := fun j hj => (Nat.lt_or_ge j i).elim (hpath j) (fun h => by rw [show j = i by omega]; exact ⟨c1, c2⟩)
      refine lv_iload_n hx hb dX1_find_25 rfl (lv_at hl 2 rfl) ?_
      refine lv_iconst (v := nI 1) hx hb dX1_find_26 (by decide) ?_
      refine kAdd hx hb dX1_find_27 ?_
      refine lv_sipush (v := nI 4099) hx hb dX1_find_28 (by decide) ?_
      refine kIne (a := (hsh v i) + 1) (b := 4099) (by omega) (by omega) (tgt := 38) hx hb dX1_find_31 (by decide) (fun c3 => ?_) (fun c3 => ?_)
      · skip
        refine lv_iload_n hx hb dX1_find_38 rfl (lv_at hl 2 rfl) ?_
        refine lv_iconst (v := nI 1) hx hb dX1_find_39 (by decide) ?_
        refine kAdd hx hb dX1_find_40 ?_
        refine lv_istore_n (lv' := [(2, .int (nI ((hsh v i) + 1))), (0, .ref k0), (1, .int v)]) hx hb dX1_find_41 rfl hl (by decide) rfl (fun ls hl => ?_)
        refine lv_goto (tgt := 6) hx hb dX1_find_42 (by decide) ?_
        exact ih hid  ls _ _ hpath2 hP hD hS (by have h := (lv_sub (l' := [(0, .ref k0), (1, .int v), (2, .int (nI ((hsh v i) + 1)))]) hl [1, 2, 0] rfl); rw [hsh_next c3]; exact h)
      · skip
        refine lv_iconst (v := nI 0) hx hb dX1_find_34 (by decide) ?_
        refine lv_goto (tgt := 41) hx hb dX1_find_35 (by decide) ?_
        refine lv_istore_n (lv' := [(2, .int (nI 0)), (0, .ref k0), (1, .int v)]) hx hb dX1_find_41 rfl hl (by decide) rfl (fun ls hl => ?_)
        refine lv_goto (tgt := 6) hx hb dX1_find_42 (by decide) ?_
        exact ih hid  ls _ _ hpath2 hP hD hS (by have h := (lv_sub (l' := [(0, .ref k0), (1, .int v), (2, .int (nI 0))]) hl [1, 2, 0] rfl); rw [hsh_wrap c3]; exact h)
