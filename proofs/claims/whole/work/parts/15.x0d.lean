section PURED
theorem tab_out {x : Int32} (h : ¬ inR x 5) : x.toInt < 0 ∨ 4 < x.toInt := by
  rw [inR_iff (by decide)] at h
  rw [Int32.lt_iff_toInt_lt, Int32.lt_iff_toInt_lt, Int32.toInt_zero, nI_toInt (by decide)] at h
  omega
/-- a value that stands in D is marked by its number below 0 -/
def mk (D : List Int32) (x : Int32) : Int32 := if x ∈ D then -(nI (D.idxOf x + 1)) else x
theorem mk_out {D : List Int32} {x : Int32} (h : x ∉ D) : mk D x = x := if_neg h
theorem mk_in {D : List Int32} {x : Int32} (h : x ∈ D) : mk D x = -(nI (D.idxOf x + 1)) := if_pos h
theorem neg_nI {k : Nat} (h0 : 0 < k) (hk : k < 2147483648) : -(nI k) ≤ 0 ∧ ¬ -(nI k) = 0 := by
  have h1 := sb_negT hk
  refine ⟨?_, fun h => ?_⟩
  · rw [Int32.le_iff_toInt_le, h1, Int32.toInt_zero]; omega
  · rw [h, Int32.toInt_zero] at h1; omega
theorem mk_start {f : Nat → Int32} {L : Nat} : (fun t => if t < L then mk (dd (nz (rw_ f 0))) (f t) else f t) = f := by
  funext t
  by_cases h : t < L
  · rw [if_pos h]; exact mk_out (by rw [rw_zero]; exact List.not_mem_nil)
  · rw [if_neg h]
theorem ng_start {f : Nat → Int32} {i : Nat} : (fun t => if t < 0 then -(mk (dd (nz (rw_ f i))) (f t)) else if t < i then mk (dd (nz (rw_ f i))) (f t) else f t) = (fun t => if t < i then mk (dd (nz (rw_ f i))) (f t) else f t) := by
  funext t; rw [if_neg (by omega)]
theorem ng_put {f : Nat → Int32} {i j : Nat} (h : j < i) : upd (fun t => if t < j then -(mk (dd (nz (rw_ f i))) (f t)) else if t < i then mk (dd (nz (rw_ f i))) (f t) else f t) j (-(mk (dd (nz (rw_ f i))) (f j))) = (fun t => if t < j + 1 then -(mk (dd (nz (rw_ f i))) (f t)) else if t < i then mk (dd (nz (rw_ f i))) (f t) else f t) := by
  funext t
  by_cases e : t = j
  · subst e; rw [pk_us, if_pos (by omega)]
  · rw [pk_un e]
    by_cases h2 : t < j
    · rw [if_pos h2, if_pos (by omega)]
    · rw [if_neg h2, if_neg (show ¬ t < j + 1 by omega)]
theorem mk_neg {f : Nat → Int32} {i : Nat} {x : Int32} (h : x ∈ rw_ f i) : -(mk (dd (nz (rw_ f i))) x) = rk (dd (nz (rw_ f i))) x := by
  unfold rk
  by_cases hx : x = 0
  · subst hx
    rw [if_pos rfl, mk_out (by rw [dd_mem, nz_mem]; exact fun q => q.2 rfl)]; rfl
  · rw [if_neg hx, mk_in (by rw [dd_mem, nz_mem]; exact ⟨h, hx⟩)]
    exact Int32.neg_neg
theorem mk_seen {f : Nat → Int32} {i : Nat} (hpos : ¬ f i < 0) (h : mk (dd (nz (rw_ f i))) (f i) ≤ 0) : dd (nz (rw_ f (i + 1))) = dd (nz (rw_ f i)) := by
  rw [rw_succ, nz_app]
  by_cases hz : f i = 0
  · rw [nz_0 hz, List.append_nil]
  · rw [nz_1 hz, dd_snoc]
    by_cases hm : f i ∈ dd (nz (rw_ f i))
    · exact ddS_in hm
    · rw [mk_out hm] at h
      exact absurd (Int32.le_antisymm h (Int32.not_lt.mp hpos)) hz
theorem mk_new {f : Nat → Int32} {i : Nat} (hpos : ¬ f i < 0) (hi : i < 2147483647) (h : ¬ mk (dd (nz (rw_ f i))) (f i) ≤ 0) : f i ≠ 0 ∧ f i ∉ dd (nz (rw_ f i)) := by
  have hm : f i ∉ dd (nz (rw_ f i)) := fun hm => h (by
    rw [mk_in hm]
    have h1 := List.idxOf_lt_length_of_mem hm
    have h2 := dd_len (nz (rw_ f i))
    have h3 := nz_le (rw_ f i)
    rw [rw_len] at h3
    exact (neg_nI (by omega) (by omega)).1)
  exact ⟨fun hz => h (by rw [mk_out hm, hz]; exact Int32.le_refl 0), hm⟩
theorem mk_put {f : Nat → Int32} {L i : Nat} (hpos : ∀ t, t < L → ¬ f t < 0) (hi : i < L) (hz : f i ≠ 0) (hnew : f i ∉ dd (nz (rw_ f i))) (hL : L < 2147483647) :
    (fun t => if i ≤ t ∧ t < L ∧ (fun t => if t < L then mk (dd (nz (rw_ f i))) (f t) else f t) t = f i then -(nI ((dd (nz (rw_ f i))).length + 1)) else (fun t => if t < L then mk (dd (nz (rw_ f i))) (f t) else f t) t) = (fun t => if t < L then mk (dd (nz (rw_ f (i + 1)))) (f t) else f t) := by
  have hnx : dd (nz (rw_ f (i + 1))) = dd (nz (rw_ f i)) ++ [f i] := by rw [rw_succ, nz_app, nz_1 hz, dd_snoc, ddS_new hnew]
  have hlt : ∀ {x : Int32}, x ∈ dd (nz (rw_ f i)) → (dd (nz (rw_ f i))).idxOf x + 1 < 2147483648 := fun hx => by
    have h1 := List.idxOf_lt_length_of_mem hx
    have h2 := dd_len (nz (rw_ f i))
    have h3 := nz_le (rw_ f i)
    rw [rw_len] at h3
    omega
  funext t
  show (if i ≤ t ∧ t < L ∧ (if t < L then mk (dd (nz (rw_ f i))) (f t) else f t) = f i then _ else if t < L then mk (dd (nz (rw_ f i))) (f t) else f t) = _
  by_cases ht : t < L
  · rw [if_pos ht, if_pos ht, hnx]
    by_cases he : f t = f i
    · have hti : i ≤ t := Nat.not_lt.mp (fun h => hnew (by rw [dd_mem, nz_mem]; exact ⟨rw_mem.mpr ⟨t, h, he⟩, hz⟩))
      rw [he, if_pos ⟨hti, ht, mk_out hnew⟩, mk_in (List.mem_append_right _ List.mem_cons_self), List.idxOf_append, if_neg hnew]
      simp [Nat.add_comm]
    · have hne : ¬ mk (dd (nz (rw_ f i))) (f t) = f i := by
        by_cases hm : f t ∈ dd (nz (rw_ f i))
        · rw [mk_in hm]
          intro h
          have h1 := (neg_nI (k := (dd (nz (rw_ f i))).idxOf (f t) + 1) (by omega) (hlt hm)).1
          rw [h] at h1
          exact hz (Int32.le_antisymm h1 (Int32.not_lt.mp (hpos i hi)))
        · rw [mk_out hm]; exact he
      rw [if_neg (fun q => hne q.2.2)]
      by_cases hm : f t ∈ dd (nz (rw_ f i))
      · rw [mk_in hm, mk_in (List.mem_append_left _ hm), List.idxOf_append, if_pos hm]
      · rw [mk_out hm, mk_out (by rw [List.mem_append, List.mem_singleton]; rintro (h | h); exact hm h; exact he h)]
  · rw [if_neg ht, if_neg ht, if_neg (fun q => ht q.2.1)]
end PURED
set_option maxHeartbeats 4000000 in
set_option maxRecDepth 100000 in
theorem pX0_count (l : Launch) (htr : l.stackTraces = false) (D : va_G) (h0 h1 h2 : Nat) (cI : ClassId) (f g : Nat → Int32) (L : Nat) (ca : Int32) (n : Nat → Nat) (hok : okC g n) (hlen : L = lenN n) (x : Int32) : Xi l yX0_count wsX0_count x2 D (tI cI) [.ref h0, .int x] (wX h0 h1 h2 cI f g (nI L) ca) (fun r u => u = wX h0 h1 h2 cI f g (nI L) ca ∧ ((x = 0 ∧ r = nI (sN n 4)) ∨ (x = 1 ∧ r = nI (L - (rw_ f L).count 0)) ∨ (x = 2 ∧ r = nI (mxN n 4)) ∨ (x = 3 ∧ r = ca) ∨ (x = 4 ∧ r = nI (dd (nz (rw_ f L))).length))) (fun E u => u = wX h0 h1 h2 cI f g (nI L) ca ∧ E = "java/lang/IllegalArgumentException" ∧ ¬ inR x 5) := by
  refine Xi.of (cc := cX0_count) (maxL := 2) (ty := .int) (by decide +kernel) rfl (Nat.le_of_ble_eq_true rfl) ?_
  rintro p e s m below meth c ls A ⟨hx, hb, hr, hml, hts, hown, hlocks, hnm, hP, hK, hD, hA, hS, hl⟩ hZ hno
  have hown : s.vm.findClass RX0 = some m.cls := hown
  have hl : lv_has ls 2 [(0, .ref h0), (1, .int x)] := hl
  have hin : ∀ w ∈ wsX00, w ∈ wsX0_count := by decide +kernel
  have hP : va_P D kC (wX h0 h1 h2 cI f g (nI L) ca) s.heap := hP
  have hD : va_D A (wX h0 h1 h2 cI f g (nI L) ca) := hD
  have hle := hok.le
  have hL : L ≤ 2064 := by rw [hlen]; unfold lenN; omega
  refine lv_iload_n hx hb dX0_count_0 rfl (lv_at hl 1 rfl) ?_
  by_cases c1 : inR x 5
  · skip
    obtain ⟨j, hj, rfl⟩ := c1
    have hji : (nI j).toInt = (j : Int) := nI_toInt (by omega)
    rcases (show j = 0 ∨ j = 1 ∨ j = 2 ∨ j = 3 ∨ j = 4 by omega) with rfl | rfl | rfl | rfl | rfl
    · skip
      refine lv_tableIn (tgt := 36) hx hb dX0_count_1 (by decide) (by decide) (off := 35) (by decide) (by decide) ?_
      refine lv_aload_n hx hb dX0_count_36 rfl (lv_at hl 0 rfl) ?_
      refine cVi (wr := []) (As := []) (rest := []) ⟨hx, hb, hml, hown, hts⟩ (pX0_framesOfAll l D h0 h1 h2 cI f g L ca n hok) (cwV 0 hts gX0_count_X0_framesOfAll rfl rfl rfl (by decide +kernel) ⟨(Nat.le_of_ble_eq_true rfl), (Nat.le_of_ble_eq_true rfl)⟩) hK hP hD hS hA [0, 1, 2] [] rfl rfl (by decide) (by decide) (by decide) 0 rfl rfl rfl hl.1 rfl (Nat.le_of_ble_eq_true rfl) dX0_count_37 ⟨(Nat.le_of_ble_eq_true rfl), (Nat.le_of_ble_eq_true rfl)⟩ (fun r u H locs hw hP hD hS => ?_)
      obtain ⟨rfl, rfl⟩ := hw
      have hP : va_P D kC (wX h0 h1 h2 cI f g (nI L) ca) H := hP
      have hD : va_D A (wX h0 h1 h2 cI f g (nI L) ca) := hD
      exact vx_ret (kReti hx hb hr hlocks dX0_count_40 (Nat.le_of_ble_eq_true rfl) (Nat.le_of_ble_eq_true rfl) hK hS hP hD ⟨rfl, Or.inl ⟨rfl, rfl⟩⟩)
    · skip
      refine lv_tableIn (tgt := 41) hx hb dX0_count_1 (by decide) (by decide) (off := 40) (by decide) (by decide) ?_
      refine lv_aload_n hx hb dX0_count_41 rfl (lv_at hl 0 rfl) ?_
      refine va_get (D := D) (ci := 0) (v := .int (nI L)) (C := RX0) (T := TX0) (N := 4) hx hb hts hin hown hK hP 0 rfl rfl 2 (by decide) (hts (.fieldLink RX0 22 "FrameRow" "length" "I") (by decide +kernel)) (fun _ h9 => h9) rfl dX0_count_42 ?_
      refine lv_aload_n hx hb dX0_count_45 rfl (lv_at hl 0 rfl) ?_
      refine lv_iconst (v := nI 0) hx hb dX0_count_46 (by decide) ?_
      refine cVi (wr := []) (As := [.int (nI 0)]) (rest := [.int (nI L)]) ⟨hx, hb, hml, hown, hts⟩ (pX0_countOf l D h0 h1 h2 cI f g L ca hL (nI 0)) (cwV 1 hts gX0_count_X0_countOf rfl rfl rfl (by decide +kernel) ⟨(Nat.le_of_ble_eq_true rfl), (Nat.le_of_ble_eq_true rfl)⟩) hK hP hD hS hA [0, 1, 2] [] rfl rfl (by decide) (by decide) (by decide) 0 rfl rfl rfl hl.1 rfl (Nat.le_of_ble_eq_true rfl) dX0_count_47 ⟨(Nat.le_of_ble_eq_true rfl), (Nat.le_of_ble_eq_true rfl)⟩ (fun r u H locs hw hP hD hS => ?_)
      obtain ⟨rfl, rfl⟩ := hw
      have hP : va_P D kC (wX h0 h1 h2 cI f g (nI L) ca) H := hP
      have hD : va_D A (wX h0 h1 h2 cI f g (nI L) ca) := hD
      have hcl := rw_count_le f L (nI 0)
      refine kSub (by omega) hx hb dX0_count_50 ?_
      exact vx_ret (kReti hx hb hr hlocks dX0_count_51 (Nat.le_of_ble_eq_true rfl) (Nat.le_of_ble_eq_true rfl) hK hS hP hD ⟨rfl, Or.inr (Or.inl ⟨rfl, rfl⟩)⟩)
    · skip
      refine lv_tableIn (tgt := 52) hx hb dX0_count_1 (by decide) (by decide) (off := 51) (by decide) (by decide) ?_
      refine lv_aload_n hx hb dX0_count_52 rfl (lv_at hl 0 rfl) ?_
      refine cVi (wr := []) (As := []) (rest := []) ⟨hx, hb, hml, hown, hts⟩ (pX0_mostFrames l D h0 h1 h2 cI f g L ca n hok) (cwV 0 hts gX0_count_X0_mostFrames rfl rfl rfl (by decide +kernel) ⟨(Nat.le_of_ble_eq_true rfl), (Nat.le_of_ble_eq_true rfl)⟩) hK hP hD hS hA [0, 1, 2] [] rfl rfl (by decide) (by decide) (by decide) 0 rfl rfl rfl hl.1 rfl (Nat.le_of_ble_eq_true rfl) dX0_count_53 ⟨(Nat.le_of_ble_eq_true rfl), (Nat.le_of_ble_eq_true rfl)⟩ (fun r u H locs hw hP hD hS => ?_)
      obtain ⟨rfl, rfl⟩ := hw
      have hP : va_P D kC (wX h0 h1 h2 cI f g (nI L) ca) H := hP
      have hD : va_D A (wX h0 h1 h2 cI f g (nI L) ca) := hD
      exact vx_ret (kReti hx hb hr hlocks dX0_count_56 (Nat.le_of_ble_eq_true rfl) (Nat.le_of_ble_eq_true rfl) hK hS hP hD ⟨rfl, Or.inr (Or.inr (Or.inl ⟨rfl, rfl⟩))⟩)
    · skip
      refine lv_tableIn (tgt := 57) hx hb dX0_count_1 (by decide) (by decide) (off := 56) (by decide) (by decide) ?_
      refine lv_aload_n hx hb dX0_count_57 rfl (lv_at hl 0 rfl) ?_
      refine va_get (D := D) (ci := 0) (v := .int ca) (C := RX0) (T := TX0) (N := 4) hx hb hts hin hown hK hP 0 rfl rfl 3 (by decide) (hts (.fieldLink RX0 26 "FrameRow" "calls" "I") (by decide +kernel)) (fun _ h9 => h9) rfl dX0_count_58 ?_
      exact vx_ret (kReti hx hb hr hlocks dX0_count_61 (Nat.le_of_ble_eq_true rfl) (Nat.le_of_ble_eq_true rfl) hK hS hP hD ⟨rfl, Or.inr (Or.inr (Or.inr (Or.inl ⟨rfl, rfl⟩)))⟩)
    · skip
      refine lv_tableIn (tgt := 62) hx hb dX0_count_1 (by decide) (by decide) (off := 61) (by decide) (by decide) ?_
      refine lv_aload_n hx hb dX0_count_62 rfl (lv_at hl 0 rfl) ?_
      refine cVi (wr := []) (As := []) (rest := []) ⟨hx, hb, hml, hown, hts⟩ (pX0_differentValues l D h0 h1 h2 cI f g L ca hL) (cwV 0 hts gX0_count_X0_differentValues rfl rfl rfl (by decide +kernel) ⟨(Nat.le_of_ble_eq_true rfl), (Nat.le_of_ble_eq_true rfl)⟩) hK hP hD hS hA [0, 1, 2] [] rfl rfl (by decide) (by decide) (by decide) 0 rfl rfl rfl hl.1 rfl (Nat.le_of_ble_eq_true rfl) dX0_count_63 ⟨(Nat.le_of_ble_eq_true rfl), (Nat.le_of_ble_eq_true rfl)⟩ (fun r u H locs hw hP hD hS => ?_)
      obtain ⟨rfl, rfl⟩ := hw
      have hP : va_P D kC (wX h0 h1 h2 cI f g (nI L) ca) H := hP
      have hD : va_D A (wX h0 h1 h2 cI f g (nI L) ca) := hD
      exact vx_ret (kReti hx hb hr hlocks dX0_count_66 (Nat.le_of_ble_eq_true rfl) (Nat.le_of_ble_eq_true rfl) hK hS hP hD ⟨rfl, Or.inr (Or.inr (Or.inr (Or.inr ⟨rfl, rfl⟩)))⟩)
  · skip
    refine lv_tableOut (tgt := 67) hx hb dX0_count_1 (tab_out c1) (by decide) ?_
    exact kThrowA hx hb htr (hml.trans hl.1.symm) hown hts hZ hno hlocks (by decide +kernel) (by decide +kernel) (is := 98) (text := "there is no such count") (by decide +kernel) (by decide +kernel) dX0_count_67 dX0_count_70 dX0_count_71 dX0_count_73 dX0_count_76 (Nat.le_of_ble_eq_true rfl) (Nat.le_of_ble_eq_true rfl) (Nat.le_of_ble_eq_true rfl) (Nat.le_of_ble_eq_true rfl) (Nat.le_of_ble_eq_true rfl) (Nat.le_of_ble_eq_true rfl) hK hS hP hD ⟨rfl, rfl, c1⟩

set_option maxHeartbeats 4000000 in
set_option maxRecDepth 100000 in
theorem pX0_renew (l : Launch) (D : va_G) (h0 h1 h2 : Nat) (cI : ClassId) (f g : Nat → Int32) (L : Nat) (ca : Int32) (hL : L ≤ 2064) (hpos : ∀ t, t < L → ¬ f t < 0) : Mi l yX0_renew wsX0_renew r1 D (tI cI) [.ref h0] (wX h0 h1 h2 cI f g (nI L) ca) (fun r u => r = nI (dd (nz (rw_ f L))).length ∧ ∃ f' : Nat → Int32, u = wX h0 h1 h2 cI f' g (nI L) ca ∧ ∀ t, t < L → f' t = rk (dd (nz (rw_ f L))) (f t)) := by
  refine Mi.of (cc := cX0_renew) (maxL := 3) (ty := .int) (by decide +kernel) rfl (Nat.le_of_ble_eq_true rfl) ?_
  rintro p e s m below meth c ls A ⟨hx, hb, hr, hml, hts, hown, hlocks, hnm, hP, hK, hD, hA, hS, hl⟩
  have hown : s.vm.findClass RX0 = some m.cls := hown
  have hl : lv_has ls 3 [(0, .ref h0)] := hl
  have hin : ∀ w ∈ wsX00, w ∈ wsX0_renew := by decide +kernel
  have hP : va_P D kC (wX h0 h1 h2 cI f g (nI L) ca) s.heap := hP
  have hD : va_D A (wX h0 h1 h2 cI f g (nI L) ca) := hD
  refine lv_iconst (v := nI 0) hx hb dX0_renew_0 (by decide) ?_
  refine lv_istore_n (lv' := [(1, .int (nI 0)), (0, .ref h0)]) hx hb dX0_renew_1 rfl hl (by decide) rfl (fun ls hl => ?_)
  refine lv_iconst (v := nI 0) hx hb dX0_renew_2 (by decide) ?_
  refine lv_istore_n (lv' := [(2, .int (nI 0)), (1, .int (nI 0)), (0, .ref h0)]) hx hb dX0_renew_3 rfl hl (by decide) rfl (fun ls hl => ?_)
  have hP : va_P D kC (wX h0 h1 h2 cI ((fun t => if t < L then mk (dd (nz (rw_ f 0))) (f t) else f t)) g (nI L) ca) s.heap := by rw [mk_start]; exact hP
  have hD : va_D A (wX h0 h1 h2 cI ((fun t => if t < L then mk (dd (nz (rw_ f 0))) (f t) else f t)) g (nI L) ca) := by rw [mk_start]; exact hD
  refine kLoop (Q := fun i => ∀  (ls : Array Slot) (H : Heap) (locs : List Loc), va_P D kC (wX h0 h1 h2 cI ((fun t => if t < L then mk (dd (nz (rw_ f i))) (f t) else f t)) g (nI L) ca) H → va_D A (wX h0 h1 h2 cI ((fun t => if t < L then mk (dd (nz (rw_ f i))) (f t) else f t)) g (nI L) ca) → va_S A s.heap H locs → lv_has ls 3 [(0, .ref h0), (1, .int (nI ((dd (nz (rw_ f i))).length))), (2, .int (nI i))] → W p l e r1 s m [.ref h0].toArray below meth c H locs 0 0 (MQ below (va_Qi (fun r u => r = nI (dd (nz (rw_ f L))).length ∧ ∃ f' : Nat → Int32, u = wX h0 h1 h2 cI f' g (nI L) ca ∧ ∀ t, t < L → f' t = rk (dd (nz (rw_ f L))) (f t)) (kB D (tI cI) A) A) [.ref h0].toArray s r1.cells r1.slots A) (F0 m 4 ls [])) (L) ?_ (0) (Nat.zero_le _)  ls _ _  hP hD hS (lv_sub hl [2, 1, 0] rfl)
  intro i hi ih  ls H locs  hP hD hS hl
  have hd1 := dd_len (nz (rw_ f i))
  have hd2 := nz_le (rw_ f i)
  rw [rw_len] at hd2
  refine lv_iload_n hx hb dX0_renew_4 rfl (lv_at hl 2 rfl) ?_
  refine lv_aload_n hx hb dX0_renew_5 rfl (lv_at hl 0 rfl) ?_
  refine va_get (D := D) (ci := 0) (v := .int (nI L)) (C := RX0) (T := TX0) (N := 4) hx hb hts hin hown hK hP 0 rfl rfl 2 (by decide) (hts (.fieldLink RX0 22 "FrameRow" "length" "I") (by decide +kernel)) (fun _ h9 => h9) rfl dX0_renew_6 ?_
  refine kIge (a := i) (b := L) (by omega) (by omega) (tgt := 44) hx hb dX0_renew_9 (by decide) (fun c1 => ?_) (fun c1 => ?_)
  · skip
    have hi2 : i = L := by omega
    subst hi2
    refine lv_iconst (v := nI 0) hx hb dX0_renew_44 (by decide) ?_
    refine lv_istore_n (lv' := [(2, .int (nI 0)), (0, .ref h0), (1, .int (nI ((dd (nz (rw_ f i))).length)))]) hx hb dX0_renew_45 rfl hl (by decide) rfl (fun ls hl => ?_)
    clear ih
    have hP : va_P D kC (wX h0 h1 h2 cI ((fun t => if t < 0 then -(mk (dd (nz (rw_ f i))) (f t)) else if t < i then mk (dd (nz (rw_ f i))) (f t) else f t)) g (nI i) ca) H := by rw [ng_start]; exact hP
    have hD : va_D A (wX h0 h1 h2 cI ((fun t => if t < 0 then -(mk (dd (nz (rw_ f i))) (f t)) else if t < i then mk (dd (nz (rw_ f i))) (f t) else f t)) g (nI i) ca) := by rw [ng_start]; exact hD
    refine kLoop (Q := fun j => ∀ (ls : Array Slot) (H : Heap) (locs : List Loc), va_P D kC (wX h0 h1 h2 cI ((fun t => if t < j then -(mk (dd (nz (rw_ f i))) (f t)) else if t < i then mk (dd (nz (rw_ f i))) (f t) else f t)) g (nI i) ca) H → va_D A (wX h0 h1 h2 cI ((fun t => if t < j then -(mk (dd (nz (rw_ f i))) (f t)) else if t < i then mk (dd (nz (rw_ f i))) (f t) else f t)) g (nI i) ca) → va_S A s.heap H locs → lv_has ls 3 [(0, .ref h0), (1, .int (nI ((dd (nz (rw_ f i))).length))), (2, .int (nI j))] → W p l e r1 s m [.ref h0].toArray below meth c H locs 0 0 (MQ below (va_Qi (fun r u => r = nI (dd (nz (rw_ f (i)))).length ∧ ∃ f' : Nat → Int32, u = wX h0 h1 h2 cI f' g (nI (i)) ca ∧ ∀ t, t < (i) → f' t = rk (dd (nz (rw_ f (i)))) (f t)) (kB D (tI cI) A) A) [.ref h0].toArray s r1.cells r1.slots A) (F0 m 46 ls [])) i ?_ 0 (Nat.zero_le _) ls _ _ hP hD hS (lv_sub hl [1, 2, 0] rfl)
    intro j hj ih ls H locs hP hD hS hl
    refine lv_iload_n hx hb dX0_renew_46 rfl (lv_at hl 2 rfl) ?_
    refine lv_aload_n hx hb dX0_renew_47 rfl (lv_at hl 0 rfl) ?_
    refine va_get (D := D) (ci := 0) (v := .int (nI i)) (C := RX0) (T := TX0) (N := 4) hx hb hts hin hown hK hP 0 rfl rfl 2 (by decide) (hts (.fieldLink RX0 22 "FrameRow" "length" "I") (by decide +kernel)) (fun _ h9 => h9) rfl dX0_renew_48 ?_
    refine kIge (a := j) (b := i) (by omega) (by omega) (tgt := 73) hx hb dX0_renew_51 (by decide) (fun c2 => ?_) (fun c2 => ?_)
    · skip
      have hj2 : j = i := by omega
      subst hj2
      refine lv_iload_n hx hb dX0_renew_73 rfl (lv_at hl 1 rfl) ?_
      exact (kReti hx hb hr hlocks dX0_renew_74 (Nat.le_of_ble_eq_true rfl) (Nat.le_of_ble_eq_true rfl) hK hS hP hD ⟨rfl, _, rfl, fun t ht => by rw [if_pos ht]; exact mk_neg (rw_mem.mpr ⟨t, ht, rfl⟩)⟩)
    · skip
      refine lv_aload_n hx hb dX0_renew_54 rfl (lv_at hl 0 rfl) ?_
      refine va_get (D := D) (ci := 0) (v := .ref h1) (C := RX0) (T := TX0) (N := 4) hx hb hts hin hown hK hP 0 rfl rfl 0 (by decide) (hts (.fieldLink RX0 9 "FrameRow" "row" "[I") (by decide +kernel)) (fun _ h9 => h9) rfl dX0_renew_55 ?_
      refine lv_iload_n hx hb dX0_renew_58 rfl (lv_at hl 2 rfl) ?_
      refine lv_aload_n hx hb dX0_renew_59 rfl (lv_at hl 0 rfl) ?_
      refine va_get (D := D) (ci := 0) (v := .ref h1) (C := RX0) (T := TX0) (N := 4) hx hb hts hin hown hK hP 0 rfl rfl 0 (by decide) (hts (.fieldLink RX0 9 "FrameRow" "row" "[I") (by decide +kernel)) (fun _ h9 => h9) rfl dX0_renew_60 ?_
      refine lv_iload_n hx hb dX0_renew_63 rfl (lv_at hl 2 rfl) ?_
      refine kLd hx hb hK hP 1 0 rfl rfl (j := j) (by omega) (by decide) dX0_renew_64 ?_
      refine kTop (v' := mk (dd (nz (rw_ f i))) (f j)) (by rw [if_neg (by omega), if_pos c2]) ?_
      refine lv_ineg hx hb dX0_renew_65 ?_
      refine kSt hx hb hK hP hD hS 1 0 rfl rfl (j := j) (by omega) (by decide) dX0_renew_66 (fun H locs hP hD hS => ?_)
      have hP : va_P D kC (wX h0 h1 h2 cI (upd ((fun t => if t < j then -(mk (dd (nz (rw_ f i))) (f t)) else if t < i then mk (dd (nz (rw_ f i))) (f t) else f t)) j (-(mk (dd (nz (rw_ f i))) (f j)))) g (nI i) ca) H := hP
      have hD : va_D A (wX h0 h1 h2 cI (upd ((fun t => if t < j then -(mk (dd (nz (rw_ f i))) (f t)) else if t < i then mk (dd (nz (rw_ f i))) (f t) else f t)) j (-(mk (dd (nz (rw_ f i))) (f j)))) g (nI i) ca) := hD
      rw [ng_put c2] at hP hD
      refine lv_iinc (v := nI (j + 1)) (lv' := [(2, .int (nI (j + 1))), (0, .ref h0), (1, .int (nI ((dd (nz (rw_ f i))).length)))]) hx hb dX0_renew_67 hl (k := 2) rfl (kInc1 _) (by decide) rfl (fun ls hl => ?_)
      refine lv_goto (tgt := 46) hx hb dX0_renew_70 (by decide) ?_
      exact ih c2  ls _ _  hP hD hS (lv_sub (l' := [(0, .ref h0), (1, .int (nI ((dd (nz (rw_ f i))).length))), (2, .int (nI (j + 1)))]) hl [1, 2, 0] rfl)
  · skip
    refine lv_aload_n hx hb dX0_renew_12 rfl (lv_at hl 0 rfl) ?_
    refine va_get (D := D) (ci := 0) (v := .ref h1) (C := RX0) (T := TX0) (N := 4) hx hb hts hin hown hK hP 0 rfl rfl 0 (by decide) (hts (.fieldLink RX0 9 "FrameRow" "row" "[I") (by decide +kernel)) (fun _ h9 => h9) rfl dX0_renew_13 ?_
    refine lv_iload_n hx hb dX0_renew_16 rfl (lv_at hl 2 rfl) ?_
    refine kLd hx hb hK hP 1 0 rfl rfl (j := i) (by omega) (by decide) dX0_renew_17 ?_
    refine kTop (v' := mk (dd (nz (rw_ f i))) (f i)) (if_pos c1) ?_
    refine lv_if_le (tgt := 38) hx hb dX0_renew_18 (by decide) (fun c3 => ?_) (fun c3 => ?_)
    · skip
      have hsame : dd (nz (rw_ f (i + 1))) = dd (nz (rw_ f i)) := mk_seen (hpos i c1) c3
      refine lv_iinc (v := nI (i + 1)) (lv' := [(2, .int (nI (i + 1))), (0, .ref h0), (1, .int (nI ((dd (nz (rw_ f i))).length)))]) hx hb dX0_renew_38 hl (k := 2) rfl (kInc1 _) (by decide) rfl (fun ls hl => ?_)
      refine lv_goto (tgt := 4) hx hb dX0_renew_41 (by decide) ?_
      rw [← hsame] at hP hD
      exact ih c1  ls _ _  hP hD hS (by have h := (lv_sub (l' := [(0, .ref h0), (1, .int (nI ((dd (nz (rw_ f i))).length))), (2, .int (nI (i + 1)))]) hl [1, 2, 0] rfl); rw [hsame]; exact h)
    · skip
      obtain ⟨hz, hnew⟩ := mk_new (hpos i c1) (by omega) c3
      have hmk : mk (dd (nz (rw_ f i))) (f i) = f i := mk_out hnew
      have hnx : dd (nz (rw_ f (i + 1))) = dd (nz (rw_ f i)) ++ [f i] := by rw [rw_succ, nz_app, nz_1 hz, dd_snoc, ddS_new hnew]
      refine lv_iinc (v := nI ((dd (nz (rw_ f i))).length + 1)) (lv' := [(1, .int (nI ((dd (nz (rw_ f i))).length + 1))), (0, .ref h0), (2, .int (nI i))]) hx hb dX0_renew_21 hl (k := 1) rfl (kInc1 _) (by decide) rfl (fun ls hl => ?_)
      refine lv_aload_n hx hb dX0_renew_24 rfl (lv_at hl 1 rfl) ?_
      refine lv_iload_n hx hb dX0_renew_25 rfl (lv_at hl 2 rfl) ?_
      refine lv_aload_n hx hb dX0_renew_26 rfl (lv_at hl 1 rfl) ?_
      refine va_get (D := D) (ci := 0) (v := .ref h1) (C := RX0) (T := TX0) (N := 4) hx hb hts hin hown hK hP 0 rfl rfl 0 (by decide) (hts (.fieldLink RX0 9 "FrameRow" "row" "[I") (by decide +kernel)) (fun _ h9 => h9) rfl dX0_renew_27 ?_
      refine lv_iload_n hx hb dX0_renew_30 rfl (lv_at hl 2 rfl) ?_
      refine kLd hx hb hK hP 1 0 rfl rfl (j := i) (by omega) (by decide) dX0_renew_31 ?_
      refine kTop (v' := f i) ((if_pos c1).trans hmk) ?_
      refine lv_iload_n hx hb dX0_renew_32 rfl (lv_at hl 0 rfl) ?_
      refine lv_ineg hx hb dX0_renew_33 ?_
      refine cVi (wr := []) (As := [.int (nI i), .int (f i), .int (-(nI ((dd (nz (rw_ f i))).length + 1)))]) (rest := []) ⟨hx, hb, hml, hown, hts⟩ (pX0_replace l D h0 h1 h2 cI (fun t => if t < L then mk (dd (nz (rw_ f i))) (f t) else f t) g L ca hL i (by omega) (f i) (-(nI ((dd (nz (rw_ f i))).length + 1)))) (cwV 3 hts gX0_renew_X0_replace rfl rfl rfl (by decide +kernel) ⟨(Nat.le_of_ble_eq_true rfl), (Nat.le_of_ble_eq_true rfl)⟩) hK hP hD hS hA [0, 1, 2] [] rfl rfl (by decide) (by decide) (by decide) 0 rfl rfl rfl hl.1 rfl (Nat.le_of_ble_eq_true rfl) dX0_renew_34 ⟨(Nat.le_of_ble_eq_true rfl), (Nat.le_of_ble_eq_true rfl)⟩ (fun r u H locs hw hP hD hS => ?_)
      obtain ⟨rfl, -⟩ := hw
      have hP : va_P D kC (wX h0 h1 h2 cI (fun t => if i ≤ t ∧ t < L ∧ (fun t => if t < L then mk (dd (nz (rw_ f i))) (f t) else f t) t = f i then -(nI ((dd (nz (rw_ f i))).length + 1)) else (fun t => if t < L then mk (dd (nz (rw_ f i))) (f t) else f t) t) g (nI L) ca) H := hP
      have hD : va_D A (wX h0 h1 h2 cI (fun t => if i ≤ t ∧ t < L ∧ (fun t => if t < L then mk (dd (nz (rw_ f i))) (f t) else f t) t = f i then -(nI ((dd (nz (rw_ f i))).length + 1)) else (fun t => if t < L then mk (dd (nz (rw_ f i))) (f t) else f t) t) g (nI L) ca) := hD
      rw [mk_put hpos c1 hz hnew (by omega)] at hP hD
      refine lv_pop hx hb dX0_renew_37 rfl ?_
      refine lv_iinc (v := nI (i + 1)) (lv' := [(2, .int (nI (i + 1))), (1, .int (nI ((dd (nz (rw_ f i))).length + 1))), (0, .ref h0)]) hx hb dX0_renew_38 hl (k := 2) rfl (kInc1 _) (by decide) rfl (fun ls hl => ?_)
      refine lv_goto (tgt := 4) hx hb dX0_renew_41 (by decide) ?_
      exact ih c1  ls _ _  hP hD hS (by have h := (lv_sub (l' := [(0, .ref h0), (1, .int (nI ((dd (nz (rw_ f i))).length + 1))), (2, .int (nI (i + 1)))]) hl [2, 1, 0] rfl); rw [hnx, List.length_append]; exact h)
