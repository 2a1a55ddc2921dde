section PUREC
def upN (n : Nat → Nat) (mu k : Nat) : Nat → Nat := fun j => if j = mu then k else n j
theorem upN_s {n : Nat → Nat} {mu k : Nat} : upN n mu k mu = k := if_pos rfl
theorem upN_n {n : Nat → Nat} {mu k j : Nat} (h : j ≠ mu) : upN n mu k j = n j := if_neg h
theorem sN_up {n : Nat → Nat} {mu k : Nat} : ∀ {q : Nat}, q ≤ mu → sN (upN n mu k) q = sN n q
  | 0, _ => rfl
  | q + 1, h => by
    show sN (upN n mu k) q + upN n mu k q = sN n q + n q
    rw [sN_up (q := q) (by omega), upN_n (by omega)]
theorem okC_up {g : Nat → Int32} {n : Nat → Nat} {mu k : Nat} (h : okC g n) (h1 : 1 ≤ k) (h2 : k ≤ 64) : okC (upd g mu (nI k)) (upN n mu k) := by
  refine ⟨fun j hj => ?_, fun j hj => ?_⟩
  · by_cases e : j = mu
    · subst e; rw [pk_us, upN_s]
    · rw [pk_un e, upN_n e]; exact h.1 j hj
  · by_cases e : j = mu
    · subst e; rw [upN_s]; exact ⟨h1, h2⟩
    · rw [upN_n e]; exact h.2 j hj
theorem sN_lt {g : Nat → Int32} {n : Nat → Nat} {mu : Nat} (h : okC g n) (hmu : mu < 4) (h1 : n mu < 64) : sN n 4 ≤ 255 := by
  have h0 := (h.2 0 (by decide)).2
  have h1' := (h.2 1 (by decide)).2
  have h2 := (h.2 2 (by decide)).2
  have h3 := (h.2 3 (by decide)).2
  show ((0 + n 0) + n 1 + n 2) + n 3 ≤ 255
  rcases (show mu = 0 ∨ mu = 1 ∨ mu = 2 ∨ mu = 3 by omega) with rfl | rfl | rfl | rfl <;> omega
def idxP (n : Nat → Nat) (mu a : Nat) : Nat := if a < 8 then 8 * (n mu - 1 + sN n mu) + a else 8 * sN n 4 + (a - 8)
theorem idxP_lt {g : Nat → Int32} {n : Nat → Nat} {mu a : Nat} (h : okC g n) (hmu : mu < 4) (ha : a < 24) : idxP n mu a < 2064 := by
  have h1 := h.le
  have h2 := sN_mono (n := n) hmu
  have h3 := h.2 mu hmu
  unfold idxP
  split <;> omega
theorem cut_of {y : Int32} {N : Nat} (hN : N < 2147483648) (h1 : ¬ y < nI 1) (h2 : y ≤ nI N) : ∃ lf, 1 ≤ lf ∧ lf ≤ N ∧ y = nI lf := by
  have h0 : ¬ y < 0 := fun h => h1 (by
    rw [Int32.lt_iff_toInt_lt, nI_toInt (by decide)]
    rw [Int32.lt_iff_toInt_lt, Int32.toInt_zero] at h
    omega)
  obtain ⟨j, hj, rfl⟩ := nI_of h0
  refine ⟨j, ?_, (nI_leI hj hN).mp h2, rfl⟩
  exact Nat.not_lt.mp (fun h => h1 ((nI_ltI hj (by decide)).mpr h))
theorem getD_out {l : List Int32} {k : Nat} (h : l.length ≤ k) : l.getD k 0 = 0 := by
  rw [List.getD_eq_getElem?_getD, List.getElem?_eq_none h]; rfl
theorem kDec {a : Nat} (h : 0 < a) : nI a + Int32.ofInt (-1) = nI (a - 1) := sb_m1 h
theorem rw_split {f : Nat → Int32} {L i : Nat} (h : i < L) : ∃ t, rw_ f L = rw_ f i ++ f i :: t := by
  induction L with
  | zero => omega
  | succ L ih =>
    rcases Nat.lt_or_ge i L with h1 | h1
    · obtain ⟨t, ht⟩ := ih h1
      exact ⟨t ++ [f L], by rw [rw_succ, ht]; simp⟩
    · have : i = L := by omega
      subst this
      exact ⟨[], rw_succ f i⟩
theorem root_at {f : Nat → Int32} {L i k : Nat} (h : i < L) (hz : ¬ f i = 0) (hk : k = (nz (rw_ f i)).length) : (nz (rw_ f L)).getD k 0 = f i := by
  obtain ⟨t, ht⟩ := rw_split (f := f) h
  rw [ht, nz_app, show f i :: t = [f i] ++ t from rfl, nz_app, nz_1 hz, List.getD_eq_getElem?_getD, hk, List.getElem?_append_right (Nat.le_refl _), Nat.sub_self]
  rfl
end PUREC
set_option maxHeartbeats 4000000 in
set_option maxRecDepth 100000 in
theorem pX0_call (l : Launch) (htr : l.stackTraces = false) (D : va_G) (h0 h1 h2 : Nat) (cI : ClassId) (f g : Nat → Int32) (L : Nat) (ca : Int32) (n : Nat → Nat) (hok : okC g n) (hlen : L = lenN n) (x : Int32) : Xi l yX0_call wsX0_call x2 D (tI cI) [.ref h0, .int x] (wX h0 h1 h2 cI f g (nI L) ca) (fun r u => ∃ mu, mu < 4 ∧ x = nI mu ∧ n mu < 64 ∧ r = nI (n mu + 1) ∧ ∃ f' : Nat → Int32, u = wX h0 h1 h2 cI f' (upd g mu (nI (n mu + 1))) (nI (L + 8)) (ca + nI 1) ∧ ∀ t, t < L + 8 → f' t = insF f (8 * (n mu + sN n mu)) t) (fun E u => u = wX h0 h1 h2 cI f g (nI L) ca ∧ ((E = "java/util/NoSuchElementException" ∧ ¬ inR x 4) ∨ (E = "java/lang/IllegalStateException" ∧ ∃ mu, mu < 4 ∧ x = nI mu ∧ n mu = 64))) := by
  refine Xi.of (cc := cX0_call) (maxL := 2) (ty := .int) (by decide +kernel) rfl (Nat.le_of_ble_eq_true rfl) ?_
  rintro p e s m below meth c ls A ⟨hx, hb, hr, hml, hts, hown, hlocks, hnm, hP, hK, hD, hA, hS, hl⟩ hZ hno
  have hown : s.vm.findClass RX0 = some m.cls := hown
  have hl : lv_has ls 2 [(0, .ref h0), (1, .int x)] := hl
  have hin : ∀ w ∈ wsX00, w ∈ wsX0_call := by decide +kernel
  have hP : va_P D kC (wX h0 h1 h2 cI f g (nI L) ca) s.heap := hP
  have hD : va_D A (wX h0 h1 h2 cI f g (nI L) ca) := hD
  refine lv_iload_n hx hb dX0_call_0 rfl (lv_at hl 1 rfl) ?_
  refine xSv (wr := wX h0 h1 h2 cI f g (nI L) ca) (As := [.int x]) (rest := []) ⟨hx, hb, hml, hown, hts⟩ (pX0_checkMutator l htr D cI x) (va_cwS 1 hts gX0_call_X0_checkMutator rfl rfl rfl (by decide +kernel) ⟨(Nat.le_of_ble_eq_true rfl), (Nat.le_of_ble_eq_true rfl)⟩) hK hP hD hS hA hZ [] [0, 1, 2] rfl rfl (by decide) (by decide) (by decide) rfl hl.1 rfl (Nat.le_of_ble_eq_true rfl) dX0_call_1 ⟨(Nat.le_of_ble_eq_true rfl), (Nat.le_of_ble_eq_true rfl)⟩ (fun E ce q9 u H locs hpx hP hD hS hce hcv hcl => ?_) (fun u H locs hw hP hD hS => ?_)
  · obtain ⟨rfl, rfl, hni⟩ := hpx; exact kOut hno hlocks hce hcv hcl (Nat.le_of_ble_eq_true rfl) (Nat.le_of_ble_eq_true rfl) hK hS hP hD ⟨rfl, Or.inl ⟨rfl, hni⟩⟩
  · skip
    obtain ⟨rfl, mu, hmu, rfl⟩ := hw
    have hP : va_P D kC (wX h0 h1 h2 cI f g (nI L) ca) H := hP
    have hD : va_D A (wX h0 h1 h2 cI f g (nI L) ca) := hD
    have hm := hok.2 mu hmu
    have hmo := sN_mono (n := n) hmu
    have hle := hok.le
    refine lv_aload_n hx hb dX0_call_4 rfl (lv_at hl 0 rfl) ?_
    refine va_get (D := D) (ci := 0) (v := .ref h2) (C := RX0) (T := TX0) (N := 4) hx hb hts hin hown hK hP 0 rfl rfl 1 (by decide) (hts (.fieldLink RX0 13 "FrameRow" "frameCounts" "[I") (by decide +kernel)) (fun _ h9 => h9) rfl dX0_call_5 ?_
    refine lv_iload_n hx hb dX0_call_8 rfl (lv_at hl 1 rfl) ?_
    refine kLd hx hb hK hP 2 0 rfl rfl (j := mu) (by omega) (by decide) dX0_call_9 ?_
    refine kTop (v' := nI (n mu)) (hok.1 mu hmu) ?_
    refine lv_bipush (v := nI 64) hx hb dX0_call_10 (by decide) ?_
    refine kIlt (a := n mu) (b := 64) (by omega) (by omega) (tgt := 25) hx hb dX0_call_12 (by decide) (fun c1 => ?_) (fun c1 => ?_)
    · skip
      have hL8 : L + 8 ≤ 2064 := by have h9 := sN_lt hok hmu c1; rw [hlen]; unfold lenN; omega
      refine lv_aload_n hx hb dX0_call_25 rfl (lv_at hl 0 rfl) ?_
      refine lv_iload_n hx hb dX0_call_26 rfl (lv_at hl 1 rfl) ?_
      refine cVv (wr := []) (As := [.int (nI mu)]) (rest := []) ⟨hx, hb, hml, hown, hts⟩ (pX0_addFrame l D h0 h1 h2 cI f g L ca n hok hlen mu hmu hL8) (cwV 1 hts gX0_call_X0_addFrame rfl rfl rfl (by decide +kernel) ⟨(Nat.le_of_ble_eq_true rfl), (Nat.le_of_ble_eq_true rfl)⟩) hK hP hD hS hA [0, 1, 2] [] rfl rfl (by decide) (by decide) (by decide) 0 rfl rfl rfl hl.1 rfl (Nat.le_of_ble_eq_true rfl) dX0_call_27 ⟨(Nat.le_of_ble_eq_true rfl), (Nat.le_of_ble_eq_true rfl)⟩ (fun u H locs hw hP hD hS => ?_)
      obtain ⟨f', rfl, hf'⟩ := hw
      have hP : va_P D kC (wX h0 h1 h2 cI f' (upd g mu (nI (n mu + 1))) (nI (L + 8)) ca) H := hP
      have hD : va_D A (wX h0 h1 h2 cI f' (upd g mu (nI (n mu + 1))) (nI (L + 8)) ca) := hD
      refine lv_aload_n hx hb dX0_call_30 rfl (lv_at hl 0 rfl) ?_
      refine lv_dup hx hb dX0_call_31 rfl ?_
      refine va_get (D := D) (ci := 0) (v := .int ca) (C := RX0) (T := TX0) (N := 4) hx hb hts hin hown hK hP 0 rfl rfl 3 (by decide) (hts (.fieldLink RX0 26 "FrameRow" "calls" "I") (by decide +kernel)) (fun _ h9 => h9) rfl dX0_call_32 ?_
      refine lv_iconst (v := nI 1) hx hb dX0_call_35 (by decide) ?_
      refine lv_iadd hx hb dX0_call_36 ?_
      refine va_put (D := D) (ci := 0) (v := .int (ca + (nI 1))) (ty := .int) (C := RX0) (T := TX0) (N := 4) hx hb hts hin tyX0 tyX0_ok nmX0 hown hK hP hD hS 0 rfl rfl 3 (by decide) (hts (.fieldLink RX0 26 "FrameRow" "calls" "I") (by decide +kernel)) (fun _ h9 => h9) rfl (by decide +kernel) rfl rfl (Nat.le_of_ble_eq_true rfl) dX0_call_37 (fun H locs hP hD hS => ?_)
      have hP : va_P D kC (wX h0 h1 h2 cI f' (upd g mu (nI (n mu + 1))) (nI (L + 8)) (ca + (nI 1))) H := hP
      have hD : va_D A (wX h0 h1 h2 cI f' (upd g mu (nI (n mu + 1))) (nI (L + 8)) (ca + (nI 1))) := hD
      refine lv_aload_n hx hb dX0_call_40 rfl (lv_at hl 0 rfl) ?_
      refine va_get (D := D) (ci := 0) (v := .ref h2) (C := RX0) (T := TX0) (N := 4) hx hb hts hin hown hK hP 0 rfl rfl 1 (by decide) (hts (.fieldLink RX0 13 "FrameRow" "frameCounts" "[I") (by decide +kernel)) (fun _ h9 => h9) rfl dX0_call_41 ?_
      refine lv_iload_n hx hb dX0_call_44 rfl (lv_at hl 1 rfl) ?_
      refine kLd hx hb hK hP 2 0 rfl rfl (j := mu) (by omega) (by decide) dX0_call_45 ?_
      refine kTop (v' := nI (n mu + 1)) pk_us ?_
      exact vx_ret (kReti hx hb hr hlocks dX0_call_46 (Nat.le_of_ble_eq_true rfl) (Nat.le_of_ble_eq_true rfl) hK hS hP hD ⟨mu, hmu, rfl, c1, rfl, f', rfl, hf'⟩)
    · skip
      exact kThrowS hx hb htr (hml.trans hl.1.symm) hown hts hZ hno hlocks (by decide +kernel) (by decide +kernel) (is := 35) (text := "the mutator has all the frames it may have") (by decide +kernel) (by decide +kernel) dX0_call_15 dX0_call_18 dX0_call_19 dX0_call_21 dX0_call_24 (Nat.le_of_ble_eq_true rfl) (Nat.le_of_ble_eq_true rfl) (Nat.le_of_ble_eq_true rfl) (Nat.le_of_ble_eq_true rfl) (Nat.le_of_ble_eq_true rfl) (Nat.le_of_ble_eq_true rfl) hK hS hP hD ⟨rfl, Or.inr ⟨rfl, mu, hmu, rfl, by omega⟩⟩

set_option maxHeartbeats 4000000 in
set_option maxRecDepth 100000 in
theorem pX0_leave (l : Launch) (htr : l.stackTraces = false) (D : va_G) (h0 h1 h2 : Nat) (cI : ClassId) (f g : Nat → Int32) (L : Nat) (ca : Int32) (n : Nat → Nat) (hok : okC g n) (hlen : L = lenN n) (x y : Int32) : Xi l yX0_leave wsX0_leave x2 D (tI cI) [.ref h0, .int x, .int y] (wX h0 h1 h2 cI f g (nI L) ca) (fun r u => ∃ mu sl, mu < 4 ∧ sl < 8 ∧ x = nI mu ∧ y = nI sl ∧ 1 < n mu ∧ r = nI (n mu - 1) ∧ ∃ f' : Nat → Int32, u = wX h0 h1 h2 cI (upd f' (8 * (n mu - 2 + sN n mu)) (f (8 * (n mu - 1 + sN n mu) + sl))) (upd g mu (nI (n mu - 1))) (nI (L - 8)) ca ∧ ∀ t, t < L - 8 → f' t = delF f (8 * (n mu - 1 + sN n mu)) 8 t) (fun E u => u = wX h0 h1 h2 cI f g (nI L) ca ∧ ((E = "java/util/NoSuchElementException" ∧ (¬ inR x 4 ∨ ¬ inR y 8)) ∨ (E = "java/lang/IllegalStateException" ∧ inR y 8 ∧ ∃ mu, mu < 4 ∧ x = nI mu ∧ n mu = 1))) := by
  refine Xi.of (cc := cX0_leave) (maxL := 4) (ty := .int) (by decide +kernel) rfl (Nat.le_of_ble_eq_true rfl) ?_
  rintro p e s m below meth c ls A ⟨hx, hb, hr, hml, hts, hown, hlocks, hnm, hP, hK, hD, hA, hS, hl⟩ hZ hno
  have hown : s.vm.findClass RX0 = some m.cls := hown
  have hl : lv_has ls 4 [(0, .ref h0), (1, .int x), (2, .int y)] := hl
  have hin : ∀ w ∈ wsX00, w ∈ wsX0_leave := by decide +kernel
  have hP : va_P D kC (wX h0 h1 h2 cI f g (nI L) ca) s.heap := hP
  have hD : va_D A (wX h0 h1 h2 cI f g (nI L) ca) := hD
  refine lv_iload_n hx hb dX0_leave_0 rfl (lv_at hl 1 rfl) ?_
  refine xSv (wr := wX h0 h1 h2 cI f g (nI L) ca) (As := [.int x]) (rest := []) ⟨hx, hb, hml, hown, hts⟩ (pX0_checkMutator l htr D cI x) (va_cwS 1 hts gX0_leave_X0_checkMutator rfl rfl rfl (by decide +kernel) ⟨(Nat.le_of_ble_eq_true rfl), (Nat.le_of_ble_eq_true rfl)⟩) hK hP hD hS hA hZ [] [0, 1, 2] rfl rfl (by decide) (by decide) (by decide) rfl hl.1 rfl (Nat.le_of_ble_eq_true rfl) dX0_leave_1 ⟨(Nat.le_of_ble_eq_true rfl), (Nat.le_of_ble_eq_true rfl)⟩ (fun E ce q9 u H locs hpx hP hD hS hce hcv hcl => ?_) (fun u H locs hw hP hD hS => ?_)
  · obtain ⟨rfl, rfl, hni⟩ := hpx; exact kOut hno hlocks hce hcv hcl (Nat.le_of_ble_eq_true rfl) (Nat.le_of_ble_eq_true rfl) hK hS hP hD ⟨rfl, Or.inl ⟨rfl, Or.inl hni⟩⟩
  · skip
    obtain ⟨rfl, mu, hmu, rfl⟩ := hw
    have hP : va_P D kC (wX h0 h1 h2 cI f g (nI L) ca) H := hP
    have hD : va_D A (wX h0 h1 h2 cI f g (nI L) ca) := hD
    refine lv_iload_n hx hb dX0_leave_4 rfl (lv_at hl 2 rfl) ?_
    refine xSv (wr := wX h0 h1 h2 cI f g (nI L) ca) (As := [.int y]) (rest := []) ⟨hx, hb, hml, hown, hts⟩ (pX0_checkSlot l htr D cI y) (va_cwS 1 hts gX0_leave_X0_checkSlot rfl rfl rfl (by decide +kernel) ⟨(Nat.le_of_ble_eq_true rfl), (Nat.le_of_ble_eq_true rfl)⟩) hK hP hD hS hA hZ [] [0, 1, 2] rfl rfl (by decide) (by decide) (by decide) rfl hl.1 rfl (Nat.le_of_ble_eq_true rfl) dX0_leave_5 ⟨(Nat.le_of_ble_eq_true rfl), (Nat.le_of_ble_eq_true rfl)⟩ (fun E ce q9 u H locs hpx hP hD hS hce hcv hcl => ?_) (fun u H locs hw hP hD hS => ?_)
    · obtain ⟨rfl, rfl, hni⟩ := hpx; exact kOut hno hlocks hce hcv hcl (Nat.le_of_ble_eq_true rfl) (Nat.le_of_ble_eq_true rfl) hK hS hP hD ⟨rfl, Or.inl ⟨rfl, Or.inr hni⟩⟩
    · skip
      obtain ⟨rfl, sl, hsl, rfl⟩ := hw
      have hP : va_P D kC (wX h0 h1 h2 cI f g (nI L) ca) H := hP
      have hD : va_D A (wX h0 h1 h2 cI f g (nI L) ca) := hD
      have hm := hok.2 mu hmu
      have hmo := sN_mono (n := n) hmu
      have hle := hok.le
      have hL0 : L = 8 * sN n 4 + 16 := hlen
      refine lv_aload_n hx hb dX0_leave_8 rfl (lv_at hl 0 rfl) ?_
      refine va_get (D := D) (ci := 0) (v := .ref h2) (C := RX0) (T := TX0) (N := 4) hx hb hts hin hown hK hP 0 rfl rfl 1 (by decide) (hts (.fieldLink RX0 13 "FrameRow" "frameCounts" "[I") (by decide +kernel)) (fun _ h9 => h9) rfl dX0_leave_9 ?_
      refine lv_iload_n hx hb dX0_leave_12 rfl (lv_at hl 1 rfl) ?_
      refine kLd hx hb hK hP 2 0 rfl rfl (j := mu) (by omega) (by decide) dX0_leave_13 ?_
      refine kTop (v' := nI (n mu)) (hok.1 mu hmu) ?_
      refine lv_iconst (v := nI 1) hx hb dX0_leave_14 (by decide) ?_
      refine kIgt (a := n mu) (b := 1) (by omega) (by omega) (tgt := 28) hx hb dX0_leave_15 (by decide) (fun c1 => ?_) (fun c1 => ?_)
      · skip
        refine lv_aload_n hx hb dX0_leave_28 rfl (lv_at hl 0 rfl) ?_
        refine va_get (D := D) (ci := 0) (v := .ref h1) (C := RX0) (T := TX0) (N := 4) hx hb hts hin hown hK hP 0 rfl rfl 0 (by decide) (hts (.fieldLink RX0 9 "FrameRow" "row" "[I") (by decide +kernel)) (fun _ h9 => h9) rfl dX0_leave_29 ?_
        refine lv_aload_n hx hb dX0_leave_32 rfl (lv_at hl 0 rfl) ?_
        refine lv_iload_n hx hb dX0_leave_33 rfl (lv_at hl 1 rfl) ?_
        refine cVi (wr := []) (As := [.int (nI mu)]) (rest := [.ref h1]) ⟨hx, hb, hml, hown, hts⟩ (pX0_upperFrame l D h0 h1 h2 cI f g L ca n hok mu hmu) (cwV 1 hts gX0_leave_X0_upperFrame rfl rfl rfl (by decide +kernel) ⟨(Nat.le_of_ble_eq_true rfl), (Nat.le_of_ble_eq_true rfl)⟩) hK hP hD hS hA [0, 1, 2] [] rfl rfl (by decide) (by decide) (by decide) 0 rfl rfl rfl hl.1 rfl (Nat.le_of_ble_eq_true rfl) dX0_leave_34 ⟨(Nat.le_of_ble_eq_true rfl), (Nat.le_of_ble_eq_true rfl)⟩ (fun r u H locs hw hP hD hS => ?_)
        obtain ⟨rfl, rfl⟩ := hw
        have hP : va_P D kC (wX h0 h1 h2 cI f g (nI L) ca) H := hP
        have hD : va_D A (wX h0 h1 h2 cI f g (nI L) ca) := hD
        refine lv_iload_n hx hb dX0_leave_37 rfl (lv_at hl 2 rfl) ?_
        refine kAdd hx hb dX0_leave_38 ?_
        refine kLd hx hb hK hP 1 0 rfl rfl (j := (8 * (n mu - 1 + sN n mu)) + sl) (by omega) (by decide) dX0_leave_39 ?_
        refine lv_istore_n (lv' := [(3, .int (f ((8 * (n mu - 1 + sN n mu)) + sl))), (0, .ref h0), (1, .int (nI mu)), (2, .int (nI sl))]) hx hb dX0_leave_40 rfl hl (by decide) rfl (fun ls hl => ?_)
        refine lv_aload_n hx hb dX0_leave_41 rfl (lv_at hl 1 rfl) ?_
        refine lv_iload_n hx hb dX0_leave_42 rfl (lv_at hl 2 rfl) ?_
        refine lv_aload_n hx hb dX0_leave_43 rfl (lv_at hl 1 rfl) ?_
        refine va_get (D := D) (ci := 0) (v := .ref h2) (C := RX0) (T := TX0) (N := 4) hx hb hts hin hown hK hP 0 rfl rfl 1 (by decide) (hts (.fieldLink RX0 13 "FrameRow" "frameCounts" "[I") (by decide +kernel)) (fun _ h9 => h9) rfl dX0_leave_44 ?_
        refine lv_iload_n hx hb dX0_leave_47 rfl (lv_at hl 2 rfl) ?_
        refine kLd hx hb hK hP 2 0 rfl rfl (j := mu) (by omega) (by decide) dX0_leave_48 ?_
        refine kTop (v' := nI (n mu)) (hok.1 mu hmu) ?_
        refine lv_iconst (v := nI 1) hx hb dX0_leave_49 (by decide) ?_
        refine kSub (by omega) hx hb dX0_leave_50 ?_
        refine cVv (wr := []) (As := [.int (nI mu), .int (nI ((n mu) - 1))]) (rest := []) ⟨hx, hb, hml, hown, hts⟩ (pX0_dropFrames l D h0 h1 h2 cI f g L ca n hok hlen mu (n mu - 1) hmu (by omega)) (cwV 2 hts gX0_leave_X0_dropFrames rfl rfl rfl (by decide +kernel) ⟨(Nat.le_of_ble_eq_true rfl), (Nat.le_of_ble_eq_true rfl)⟩) hK hP hD hS hA [0, 1, 2] [] rfl rfl (by decide) (by decide) (by decide) 0 rfl rfl rfl hl.1 rfl (Nat.le_of_ble_eq_true rfl) dX0_leave_51 ⟨(Nat.le_of_ble_eq_true rfl), (Nat.le_of_ble_eq_true rfl)⟩ (fun u H locs hw hP hD hS => ?_)
        obtain ⟨f', rfl, hf'⟩ := hw
        have hP : va_P D kC (wX h0 h1 h2 cI f' (upd g mu (nI (n mu - 1))) (nI (L - 8 * (n mu - (n mu - 1)))) ca) H := hP
        have hD : va_D A (wX h0 h1 h2 cI f' (upd g mu (nI (n mu - 1))) (nI (L - 8 * (n mu - (n mu - 1)))) ca) := hD
        have h8 : 8 * (n mu - (n mu - 1)) = 8 := by omega
        rw [h8] at hP hD hf'
        refine lv_aload_n hx hb dX0_leave_54 rfl (lv_at hl 1 rfl) ?_
        refine va_get (D := D) (ci := 0) (v := .ref h1) (C := RX0) (T := TX0) (N := 4) hx hb hts hin hown hK hP 0 rfl rfl 0 (by decide) (hts (.fieldLink RX0 9 "FrameRow" "row" "[I") (by decide +kernel)) (fun _ h9 => h9) rfl dX0_leave_55 ?_
        refine lv_aload_n hx hb dX0_leave_58 rfl (lv_at hl 1 rfl) ?_
        refine lv_iload_n hx hb dX0_leave_59 rfl (lv_at hl 2 rfl) ?_
        refine cVi (wr := []) (As := [.int (nI mu)]) (rest := [.ref h1]) ⟨hx, hb, hml, hown, hts⟩ (pX0_upperFrame l D h0 h1 h2 cI f' (upd g mu (nI (n mu - 1))) (L - 8) ca (upN n mu (n mu - 1)) (okC_up hok (by omega) (by omega)) mu hmu) (cwV 1 hts gX0_leave_X0_upperFrame rfl rfl rfl (by decide +kernel) ⟨(Nat.le_of_ble_eq_true rfl), (Nat.le_of_ble_eq_true rfl)⟩) hK hP hD hS hA [0, 1, 2] [] rfl rfl (by decide) (by decide) (by decide) 0 rfl rfl rfl hl.1 rfl (Nat.le_of_ble_eq_true rfl) dX0_leave_60 ⟨(Nat.le_of_ble_eq_true rfl), (Nat.le_of_ble_eq_true rfl)⟩ (fun r u H locs hw hP hD hS => ?_)
        obtain ⟨rfl, rfl⟩ := hw
        have hP : va_P D kC (wX h0 h1 h2 cI f' (upd g mu (nI (n mu - 1))) (nI (L - 8)) ca) H := hP
        have hD : va_D A (wX h0 h1 h2 cI f' (upd g mu (nI (n mu - 1))) (nI (L - 8)) ca) := hD
        refine kTop (v' := nI (8 * (n mu - 2 + sN n mu))) (by rw [upN_s, sN_up (Nat.le_refl mu), Nat.sub_sub]) ?_
        refine lv_iload_n hx hb dX0_leave_63 rfl (lv_at hl 0 rfl) ?_
        refine kSt hx hb hK hP hD hS 1 0 rfl rfl (j := 8 * (n mu - 2 + sN n mu)) (by omega) (by decide) dX0_leave_64 (fun H locs hP hD hS => ?_)
        have hP : va_P D kC (wX h0 h1 h2 cI (upd f' (8 * (n mu - 2 + sN n mu)) (f ((8 * (n mu - 1 + sN n mu)) + sl))) (upd g mu (nI (n mu - 1))) (nI (L - 8)) ca) H := hP
        have hD : va_D A (wX h0 h1 h2 cI (upd f' (8 * (n mu - 2 + sN n mu)) (f ((8 * (n mu - 1 + sN n mu)) + sl))) (upd g mu (nI (n mu - 1))) (nI (L - 8)) ca) := hD
        refine lv_aload_n hx hb dX0_leave_65 rfl (lv_at hl 1 rfl) ?_
        refine va_get (D := D) (ci := 0) (v := .ref h2) (C := RX0) (T := TX0) (N := 4) hx hb hts hin hown hK hP 0 rfl rfl 1 (by decide) (hts (.fieldLink RX0 13 "FrameRow" "frameCounts" "[I") (by decide +kernel)) (fun _ h9 => h9) rfl dX0_leave_66 ?_
        refine lv_iload_n hx hb dX0_leave_69 rfl (lv_at hl 2 rfl) ?_
        refine kLd hx hb hK hP 2 0 rfl rfl (j := mu) (by omega) (by decide) dX0_leave_70 ?_
        refine kTop (v' := nI (n mu - 1)) pk_us ?_
        exact vx_ret (kReti hx hb hr hlocks dX0_leave_71 (Nat.le_of_ble_eq_true rfl) (Nat.le_of_ble_eq_true rfl) hK hS hP hD ⟨mu, sl, hmu, hsl, rfl, rfl, c1, rfl, f', rfl, hf'⟩)
      · skip
        exact kThrowS hx hb htr (hml.trans hl.1.symm) hown hts hZ hno hlocks (by decide +kernel) (by decide +kernel) (is := 46) (text := "the mutator has one frame only") (by decide +kernel) (by decide +kernel) dX0_leave_18 dX0_leave_21 dX0_leave_22 dX0_leave_24 dX0_leave_27 (Nat.le_of_ble_eq_true rfl) (Nat.le_of_ble_eq_true rfl) (Nat.le_of_ble_eq_true rfl) (Nat.le_of_ble_eq_true rfl) (Nat.le_of_ble_eq_true rfl) (Nat.le_of_ble_eq_true rfl) hK hS hP hD ⟨rfl, Or.inr ⟨rfl, ⟨sl, hsl, rfl⟩, mu, hmu, rfl, by omega⟩⟩

set_option maxHeartbeats 4000000 in
set_option maxRecDepth 100000 in
theorem pX0_cut (l : Launch) (htr : l.stackTraces = false) (D : va_G) (h0 h1 h2 : Nat) (cI : ClassId) (f g : Nat → Int32) (L : Nat) (ca : Int32) (n : Nat → Nat) (hok : okC g n) (hlen : L = lenN n) (x y : Int32) : Xi l yX0_cut wsX0_cut x2 D (tI cI) [.ref h0, .int x, .int y] (wX h0 h1 h2 cI f g (nI L) ca) (fun r u => ∃ mu lf, mu < 4 ∧ x = nI mu ∧ y = nI lf ∧ 1 ≤ lf ∧ lf ≤ n mu ∧ r = nI (n mu - lf) ∧ ∃ f' : Nat → Int32, u = wX h0 h1 h2 cI f' (upd g mu (nI lf)) (nI (L - 8 * (n mu - lf))) ca ∧ ∀ t, t < L - 8 * (n mu - lf) → f' t = delF f (8 * (lf + sN n mu)) (8 * (n mu - lf)) t) (fun E u => u = wX h0 h1 h2 cI f g (nI L) ca ∧ E = "java/util/NoSuchElementException" ∧ (¬ inR x 4 ∨ ∃ mu, mu < 4 ∧ x = nI mu ∧ ¬ ∃ lf, y = nI lf ∧ 1 ≤ lf ∧ lf ≤ n mu)) := by
  refine Xi.of (cc := cX0_cut) (maxL := 4) (ty := .int) (by decide +kernel) rfl (Nat.le_of_ble_eq_true rfl) ?_
  rintro p e s m below meth c ls A ⟨hx, hb, hr, hml, hts, hown, hlocks, hnm, hP, hK, hD, hA, hS, hl⟩ hZ hno
  have hown : s.vm.findClass RX0 = some m.cls := hown
  have hl : lv_has ls 4 [(0, .ref h0), (1, .int x), (2, .int y)] := hl
  have hin : ∀ w ∈ wsX00, w ∈ wsX0_cut := by decide +kernel
  have hP : va_P D kC (wX h0 h1 h2 cI f g (nI L) ca) s.heap := hP
  have hD : va_D A (wX h0 h1 h2 cI f g (nI L) ca) := hD
  refine lv_iload_n hx hb dX0_cut_0 rfl (lv_at hl 1 rfl) ?_
  refine xSv (wr := wX h0 h1 h2 cI f g (nI L) ca) (As := [.int x]) (rest := []) ⟨hx, hb, hml, hown, hts⟩ (pX0_checkMutator l htr D cI x) (va_cwS 1 hts gX0_cut_X0_checkMutator rfl rfl rfl (by decide +kernel) ⟨(Nat.le_of_ble_eq_true rfl), (Nat.le_of_ble_eq_true rfl)⟩) hK hP hD hS hA hZ [] [0, 1, 2] rfl rfl (by decide) (by decide) (by decide) rfl hl.1 rfl (Nat.le_of_ble_eq_true rfl) dX0_cut_1 ⟨(Nat.le_of_ble_eq_true rfl), (Nat.le_of_ble_eq_true rfl)⟩ (fun E ce q9 u H locs hpx hP hD hS hce hcv hcl => ?_) (fun u H locs hw hP hD hS => ?_)
  · obtain ⟨rfl, rfl, hni⟩ := hpx; exact kOut hno hlocks hce hcv hcl (Nat.le_of_ble_eq_true rfl) (Nat.le_of_ble_eq_true rfl) hK hS hP hD ⟨rfl, rfl, Or.inl hni⟩
  · skip
    obtain ⟨rfl, mu, hmu, rfl⟩ := hw
    have hP : va_P D kC (wX h0 h1 h2 cI f g (nI L) ca) H := hP
    have hD : va_D A (wX h0 h1 h2 cI f g (nI L) ca) := hD
    have hm := hok.2 mu hmu
    refine lv_aload_n hx hb dX0_cut_4 rfl (lv_at hl 0 rfl) ?_
    refine va_get (D := D) (ci := 0) (v := .ref h2) (C := RX0) (T := TX0) (N := 4) hx hb hts hin hown hK hP 0 rfl rfl 1 (by decide) (hts (.fieldLink RX0 13 "FrameRow" "frameCounts" "[I") (by decide +kernel)) (fun _ h9 => h9) rfl dX0_cut_5 ?_
    refine lv_iload_n hx hb dX0_cut_8 rfl (lv_at hl 1 rfl) ?_
    refine kLd hx hb hK hP 2 0 rfl rfl (j := mu) (by omega) (by decide) dX0_cut_9 ?_
    refine kTop (v' := nI (n mu)) (hok.1 mu hmu) ?_
    refine lv_istore_n (lv' := [(3, .int (nI (n mu))), (0, .ref h0), (1, .int (nI mu)), (2, .int y)]) hx hb dX0_cut_10 rfl hl (by decide) rfl (fun ls hl => ?_)
    refine lv_iload_n hx hb dX0_cut_11 rfl (lv_at hl 3 rfl) ?_
    refine lv_iconst (v := nI 1) hx hb dX0_cut_12 (by decide) ?_
    refine lv_icmp_lt (tgt := 21) hx hb dX0_cut_13 (by decide) (fun c1 => ?_) (fun c1 => ?_)
    · skip
      exact kThrowN hx hb htr (hml.trans hl.1.symm) hown hts hZ hno hlocks (by decide +kernel) (by decide +kernel) (is := 58) (text := "the mutator has no such frame") (by decide +kernel) (by decide +kernel) dX0_cut_21 dX0_cut_24 dX0_cut_25 dX0_cut_27 dX0_cut_30 (Nat.le_of_ble_eq_true rfl) (Nat.le_of_ble_eq_true rfl) (Nat.le_of_ble_eq_true rfl) (Nat.le_of_ble_eq_true rfl) (Nat.le_of_ble_eq_true rfl) (Nat.le_of_ble_eq_true rfl) hK hS hP hD ⟨rfl, rfl, Or.inr ⟨mu, hmu, rfl, fun ⟨lf, e1, e2, e3⟩ => absurd c1 (by rw [e1]; exact nI_nlt e2 (by omega))⟩⟩
    · skip
      refine lv_iload_n hx hb dX0_cut_16 rfl (lv_at hl 3 rfl) ?_
      refine lv_iload_n hx hb dX0_cut_17 rfl (lv_at hl 0 rfl) ?_
      refine lv_icmp_le (tgt := 31) hx hb dX0_cut_18 (by decide) (fun c2 => ?_) (fun c2 => ?_)
      · skip
        obtain ⟨lf, h1f, h2f, rfl⟩ : ∃ lf, 1 ≤ lf ∧ lf ≤ n mu ∧ y = nI lf := cut_of (by omega) c1 c2
        refine lv_aload_n hx hb dX0_cut_31 rfl (lv_at hl 1 rfl) ?_
        refine lv_iload_n hx hb dX0_cut_32 rfl (lv_at hl 2 rfl) ?_
        refine lv_iload_n hx hb dX0_cut_33 rfl (lv_at hl 3 rfl) ?_
        refine cVv (wr := []) (As := [.int (nI mu), .int (nI lf)]) (rest := []) ⟨hx, hb, hml, hown, hts⟩ (pX0_dropFrames l D h0 h1 h2 cI f g L ca n hok hlen mu lf hmu h2f) (cwV 2 hts gX0_cut_X0_dropFrames rfl rfl rfl (by decide +kernel) ⟨(Nat.le_of_ble_eq_true rfl), (Nat.le_of_ble_eq_true rfl)⟩) hK hP hD hS hA [0, 1, 2] [] rfl rfl (by decide) (by decide) (by decide) 0 rfl rfl rfl hl.1 rfl (Nat.le_of_ble_eq_true rfl) dX0_cut_34 ⟨(Nat.le_of_ble_eq_true rfl), (Nat.le_of_ble_eq_true rfl)⟩ (fun u H locs hw hP hD hS => ?_)
        obtain ⟨f', rfl, hf'⟩ := hw
        have hP : va_P D kC (wX h0 h1 h2 cI f' (upd g mu (nI lf)) (nI (L - 8 * (n mu - lf))) ca) H := hP
        have hD : va_D A (wX h0 h1 h2 cI f' (upd g mu (nI lf)) (nI (L - 8 * (n mu - lf))) ca) := hD
        refine lv_iload_n hx hb dX0_cut_37 rfl (lv_at hl 0 rfl) ?_
        refine lv_iload_n hx hb dX0_cut_38 rfl (lv_at hl 3 rfl) ?_
        refine kSub (by omega) hx hb dX0_cut_39 ?_
        exact vx_ret (kReti hx hb hr hlocks dX0_cut_40 (Nat.le_of_ble_eq_true rfl) (Nat.le_of_ble_eq_true rfl) hK hS hP hD ⟨mu, lf, hmu, rfl, rfl, h1f, h2f, rfl, f', rfl, hf'⟩)
      · skip
        exact kThrowN hx hb htr (hml.trans hl.1.symm) hown hts hZ hno hlocks (by decide +kernel) (by decide +kernel) (is := 58) (text := "the mutator has no such frame") (by decide +kernel) (by decide +kernel) dX0_cut_21 dX0_cut_24 dX0_cut_25 dX0_cut_27 dX0_cut_30 (Nat.le_of_ble_eq_true rfl) (Nat.le_of_ble_eq_true rfl) (Nat.le_of_ble_eq_true rfl) (Nat.le_of_ble_eq_true rfl) (Nat.le_of_ble_eq_true rfl) (Nat.le_of_ble_eq_true rfl) hK hS hP hD ⟨rfl, rfl, Or.inr ⟨mu, hmu, rfl, fun ⟨lf, e1, e2, e3⟩ => absurd (by rw [e1]; exact nI_le e3 (by omega)) c2⟩⟩

set_option maxHeartbeats 4000000 in
set_option maxRecDepth 100000 in
theorem pX0_get (l : Launch) (htr : l.stackTraces = false) (D : va_G) (h0 h1 h2 : Nat) (cI : ClassId) (f g : Nat → Int32) (L : Nat) (ca : Int32) (n : Nat → Nat) (hok : okC g n) (hlen : L = lenN n) (x y : Int32) : Xi l yX0_get wsX0_get x2 D (tI cI) [.ref h0, .int x, .int y] (wX h0 h1 h2 cI f g (nI L) ca) (fun r u => u = wX h0 h1 h2 cI f g (nI L) ca ∧ ∃ mu a, mu < 4 ∧ a < 24 ∧ x = nI mu ∧ y = nI a ∧ r = f (idxP n mu a)) (fun E u => u = wX h0 h1 h2 cI f g (nI L) ca ∧ E = "java/util/NoSuchElementException" ∧ (¬ inR x 4 ∨ ¬ inR y 24)) := by
  refine Xi.of (cc := cX0_get) (maxL := 3) (ty := .int) (by decide +kernel) rfl (Nat.le_of_ble_eq_true rfl) ?_
  rintro p e s m below meth c ls A ⟨hx, hb, hr, hml, hts, hown, hlocks, hnm, hP, hK, hD, hA, hS, hl⟩ hZ hno
  have hown : s.vm.findClass RX0 = some m.cls := hown
  have hl : lv_has ls 3 [(0, .ref h0), (1, .int x), (2, .int y)] := hl
  have hin : ∀ w ∈ wsX00, w ∈ wsX0_get := by decide +kernel
  have hP : va_P D kC (wX h0 h1 h2 cI f g (nI L) ca) s.heap := hP
  have hD : va_D A (wX h0 h1 h2 cI f g (nI L) ca) := hD
  refine lv_iload_n hx hb dX0_get_0 rfl (lv_at hl 1 rfl) ?_
  refine xSv (wr := wX h0 h1 h2 cI f g (nI L) ca) (As := [.int x]) (rest := []) ⟨hx, hb, hml, hown, hts⟩ (pX0_checkMutator l htr D cI x) (va_cwS 1 hts gX0_get_X0_checkMutator rfl rfl rfl (by decide +kernel) ⟨(Nat.le_of_ble_eq_true rfl), (Nat.le_of_ble_eq_true rfl)⟩) hK hP hD hS hA hZ [] [0, 1, 2] rfl rfl (by decide) (by decide) (by decide) rfl hl.1 rfl (Nat.le_of_ble_eq_true rfl) dX0_get_1 ⟨(Nat.le_of_ble_eq_true rfl), (Nat.le_of_ble_eq_true rfl)⟩ (fun E ce q9 u H locs hpx hP hD hS hce hcv hcl => ?_) (fun u H locs hw hP hD hS => ?_)
  · obtain ⟨rfl, rfl, hni⟩ := hpx; exact kOut hno hlocks hce hcv hcl (Nat.le_of_ble_eq_true rfl) (Nat.le_of_ble_eq_true rfl) hK hS hP hD ⟨rfl, rfl, Or.inl hni⟩
  · skip
    obtain ⟨rfl, mu, hmu, rfl⟩ := hw
    have hP : va_P D kC (wX h0 h1 h2 cI f g (nI L) ca) H := hP
    have hD : va_D A (wX h0 h1 h2 cI f g (nI L) ca) := hD
    refine lv_iload_n hx hb dX0_get_4 rfl (lv_at hl 2 rfl) ?_
    refine xSv (wr := wX h0 h1 h2 cI f g (nI L) ca) (As := [.int y]) (rest := []) ⟨hx, hb, hml, hown, hts⟩ (pX0_checkPlace l htr D cI y) (va_cwS 1 hts gX0_get_X0_checkPlace rfl rfl rfl (by decide +kernel) ⟨(Nat.le_of_ble_eq_true rfl), (Nat.le_of_ble_eq_true rfl)⟩) hK hP hD hS hA hZ [] [0, 1, 2] rfl rfl (by decide) (by decide) (by decide) rfl hl.1 rfl (Nat.le_of_ble_eq_true rfl) dX0_get_5 ⟨(Nat.le_of_ble_eq_true rfl), (Nat.le_of_ble_eq_true rfl)⟩ (fun E ce q9 u H locs hpx hP hD hS hce hcv hcl => ?_) (fun u H locs hw hP hD hS => ?_)
    · obtain ⟨rfl, rfl, hni⟩ := hpx; exact kOut hno hlocks hce hcv hcl (Nat.le_of_ble_eq_true rfl) (Nat.le_of_ble_eq_true rfl) hK hS hP hD ⟨rfl, rfl, Or.inr hni⟩
    · skip
      obtain ⟨rfl, a, ha, rfl⟩ := hw
      have hP : va_P D kC (wX h0 h1 h2 cI f g (nI L) ca) H := hP
      have hD : va_D A (wX h0 h1 h2 cI f g (nI L) ca) := hD
      refine lv_aload_n hx hb dX0_get_8 rfl (lv_at hl 0 rfl) ?_
      refine va_get (D := D) (ci := 0) (v := .ref h1) (C := RX0) (T := TX0) (N := 4) hx hb hts hin hown hK hP 0 rfl rfl 0 (by decide) (hts (.fieldLink RX0 9 "FrameRow" "row" "[I") (by decide +kernel)) (fun _ h9 => h9) rfl dX0_get_9 ?_
      refine lv_aload_n hx hb dX0_get_12 rfl (lv_at hl 0 rfl) ?_
      refine lv_iload_n hx hb dX0_get_13 rfl (lv_at hl 1 rfl) ?_
      refine lv_iload_n hx hb dX0_get_14 rfl (lv_at hl 2 rfl) ?_
      refine cVi (wr := []) (As := [.int (nI mu), .int (nI a)]) (rest := [.ref h1]) ⟨hx, hb, hml, hown, hts⟩ (pX0_indexOfPlace l D h0 h1 h2 cI f g L ca n hok hlen mu a hmu ha) (cwV 2 hts gX0_get_X0_indexOfPlace rfl rfl rfl (by decide +kernel) ⟨(Nat.le_of_ble_eq_true rfl), (Nat.le_of_ble_eq_true rfl)⟩) hK hP hD hS hA [0, 1, 2] [] rfl rfl (by decide) (by decide) (by decide) 0 rfl rfl rfl hl.1 rfl (Nat.le_of_ble_eq_true rfl) dX0_get_15 ⟨(Nat.le_of_ble_eq_true rfl), (Nat.le_of_ble_eq_true rfl)⟩ (fun r u H locs hw hP hD hS => ?_)
      obtain ⟨rfl, rfl⟩ := hw
      have hP : va_P D kC (wX h0 h1 h2 cI f g (nI L) ca) H := hP
      have hD : va_D A (wX h0 h1 h2 cI f g (nI L) ca) := hD
      have hix := idxP_lt hok hmu ha
      refine kLd hx hb hK hP 1 0 rfl rfl (j := idxP n mu a) (by omega) (by decide) dX0_get_18 ?_
      exact vx_ret (kReti hx hb hr hlocks dX0_get_19 (Nat.le_of_ble_eq_true rfl) (Nat.le_of_ble_eq_true rfl) hK hS hP hD ⟨rfl, mu, a, hmu, ha, rfl, rfl, rfl⟩)

set_option maxHeartbeats 4000000 in
set_option maxRecDepth 100000 in
theorem pX0_put (l : Launch) (htr : l.stackTraces = false) (D : va_G) (h0 h1 h2 : Nat) (cI : ClassId) (f g : Nat → Int32) (L : Nat) (ca : Int32) (n : Nat → Nat) (hok : okC g n) (hlen : L = lenN n) (x y z : Int32) : Xi l yX0_put wsX0_put x2 D (tI cI) [.ref h0, .int x, .int y, .int z] (wX h0 h1 h2 cI f g (nI L) ca) (fun r u => inR z 1000001 ∧ ∃ mu a, mu < 4 ∧ a < 24 ∧ x = nI mu ∧ y = nI a ∧ r = f (idxP n mu a) ∧ u = wX h0 h1 h2 cI (upd f (idxP n mu a) z) g (nI L) ca) (fun E u => u = wX h0 h1 h2 cI f g (nI L) ca ∧ ((E = "java/util/NoSuchElementException" ∧ (¬ inR x 4 ∨ ¬ inR y 24)) ∨ (E = "java/lang/IllegalArgumentException" ∧ inR x 4 ∧ inR y 24 ∧ ¬ inR z 1000001))) := by
  refine Xi.of (cc := cX0_put) (maxL := 6) (ty := .int) (by decide +kernel) rfl (Nat.le_of_ble_eq_true rfl) ?_
  rintro p e s m below meth c ls A ⟨hx, hb, hr, hml, hts, hown, hlocks, hnm, hP, hK, hD, hA, hS, hl⟩ hZ hno
  have hown : s.vm.findClass RX0 = some m.cls := hown
  have hl : lv_has ls 6 [(0, .ref h0), (1, .int x), (2, .int y), (3, .int z)] := hl
  have hin : ∀ w ∈ wsX00, w ∈ wsX0_put := by decide +kernel
  have hP : va_P D kC (wX h0 h1 h2 cI f g (nI L) ca) s.heap := hP
  have hD : va_D A (wX h0 h1 h2 cI f g (nI L) ca) := hD
  refine lv_iload_n hx hb dX0_put_0 rfl (lv_at hl 1 rfl) ?_
  refine xSv (wr := wX h0 h1 h2 cI f g (nI L) ca) (As := [.int x]) (rest := []) ⟨hx, hb, hml, hown, hts⟩ (pX0_checkMutator l htr D cI x) (va_cwS 1 hts gX0_put_X0_checkMutator rfl rfl rfl (by decide +kernel) ⟨(Nat.le_of_ble_eq_true rfl), (Nat.le_of_ble_eq_true rfl)⟩) hK hP hD hS hA hZ [] [0, 1, 2] rfl rfl (by decide) (by decide) (by decide) rfl hl.1 rfl (Nat.le_of_ble_eq_true rfl) dX0_put_1 ⟨(Nat.le_of_ble_eq_true rfl), (Nat.le_of_ble_eq_true rfl)⟩ (fun E ce q9 u H locs hpx hP hD hS hce hcv hcl => ?_) (fun u H locs hw hP hD hS => ?_)
  · obtain ⟨rfl, rfl, hni⟩ := hpx; exact kOut hno hlocks hce hcv hcl (Nat.le_of_ble_eq_true rfl) (Nat.le_of_ble_eq_true rfl) hK hS hP hD ⟨rfl, Or.inl ⟨rfl, Or.inl hni⟩⟩
  · skip
    obtain ⟨rfl, mu, hmu, rfl⟩ := hw
    have hP : va_P D kC (wX h0 h1 h2 cI f g (nI L) ca) H := hP
    have hD : va_D A (wX h0 h1 h2 cI f g (nI L) ca) := hD
    refine lv_iload_n hx hb dX0_put_4 rfl (lv_at hl 2 rfl) ?_
    refine xSv (wr := wX h0 h1 h2 cI f g (nI L) ca) (As := [.int y]) (rest := []) ⟨hx, hb, hml, hown, hts⟩ (pX0_checkPlace l htr D cI y) (va_cwS 1 hts gX0_put_X0_checkPlace rfl rfl rfl (by decide +kernel) ⟨(Nat.le_of_ble_eq_true rfl), (Nat.le_of_ble_eq_true rfl)⟩) hK hP hD hS hA hZ [] [0, 1, 2] rfl rfl (by decide) (by decide) (by decide) rfl hl.1 rfl (Nat.le_of_ble_eq_true rfl) dX0_put_5 ⟨(Nat.le_of_ble_eq_true rfl), (Nat.le_of_ble_eq_true rfl)⟩ (fun E ce q9 u H locs hpx hP hD hS hce hcv hcl => ?_) (fun u H locs hw hP hD hS => ?_)
    · obtain ⟨rfl, rfl, hni⟩ := hpx; exact kOut hno hlocks hce hcv hcl (Nat.le_of_ble_eq_true rfl) (Nat.le_of_ble_eq_true rfl) hK hS hP hD ⟨rfl, Or.inl ⟨rfl, Or.inr hni⟩⟩
    · skip
      obtain ⟨rfl, a, ha, rfl⟩ := hw
      have hP : va_P D kC (wX h0 h1 h2 cI f g (nI L) ca) H := hP
      have hD : va_D A (wX h0 h1 h2 cI f g (nI L) ca) := hD
      refine lv_iload_n hx hb dX0_put_8 rfl (lv_at hl 3 rfl) ?_
      refine xSv (wr := wX h0 h1 h2 cI f g (nI L) ca) (As := [.int z]) (rest := []) ⟨hx, hb, hml, hown, hts⟩ (pX0_checkValue l htr D cI z) (va_cwS 1 hts gX0_put_X0_checkValue rfl rfl rfl (by decide +kernel) ⟨(Nat.le_of_ble_eq_true rfl), (Nat.le_of_ble_eq_true rfl)⟩) hK hP hD hS hA hZ [] [0, 1, 2] rfl rfl (by decide) (by decide) (by decide) rfl hl.1 rfl (Nat.le_of_ble_eq_true rfl) dX0_put_9 ⟨(Nat.le_of_ble_eq_true rfl), (Nat.le_of_ble_eq_true rfl)⟩ (fun E ce q9 u H locs hpx hP hD hS hce hcv hcl => ?_) (fun u H locs hw hP hD hS => ?_)
      · obtain ⟨rfl, rfl, hni⟩ := hpx; exact kOut hno hlocks hce hcv hcl (Nat.le_of_ble_eq_true rfl) (Nat.le_of_ble_eq_true rfl) hK hS hP hD ⟨rfl, Or.inr ⟨rfl, ⟨mu, hmu, rfl⟩, ⟨a, ha, rfl⟩, hni⟩⟩
      · skip
        obtain ⟨rfl, hz⟩ := hw
        have hP : va_P D kC (wX h0 h1 h2 cI f g (nI L) ca) H := hP
        have hD : va_D A (wX h0 h1 h2 cI f g (nI L) ca) := hD
        refine lv_aload_n hx hb dX0_put_12 rfl (lv_at hl 0 rfl) ?_
        refine lv_iload_n hx hb dX0_put_13 rfl (lv_at hl 1 rfl) ?_
        refine lv_iload_n hx hb dX0_put_14 rfl (lv_at hl 2 rfl) ?_
        refine cVi (wr := []) (As := [.int (nI mu), .int (nI a)]) (rest := []) ⟨hx, hb, hml, hown, hts⟩ (pX0_indexOfPlace l D h0 h1 h2 cI f g L ca n hok hlen mu a hmu ha) (cwV 2 hts gX0_put_X0_indexOfPlace rfl rfl rfl (by decide +kernel) ⟨(Nat.le_of_ble_eq_true rfl), (Nat.le_of_ble_eq_true rfl)⟩) hK hP hD hS hA [0, 1, 2] [] rfl rfl (by decide) (by decide) (by decide) 0 rfl rfl rfl hl.1 rfl (Nat.le_of_ble_eq_true rfl) dX0_put_15 ⟨(Nat.le_of_ble_eq_true rfl), (Nat.le_of_ble_eq_true rfl)⟩ (fun r u H locs hw hP hD hS => ?_)
        obtain ⟨rfl, rfl⟩ := hw
        have hP : va_P D kC (wX h0 h1 h2 cI f g (nI L) ca) H := hP
        have hD : va_D A (wX h0 h1 h2 cI f g (nI L) ca) := hD
        have hix := idxP_lt hok hmu ha
        refine kTop (v' := nI (idxP n mu a)) rfl ?_
        refine lv_istore (lv' := [(4, .int (nI (idxP n mu a))), (0, .ref h0), (1, .int (nI mu)), (2, .int (nI a)), (3, .int z)]) hx hb dX0_put_18 hl (by decide) rfl (fun ls hl => ?_)
        refine lv_aload_n hx hb dX0_put_20 rfl (lv_at hl 1 rfl) ?_
        refine va_get (D := D) (ci := 0) (v := .ref h1) (C := RX0) (T := TX0) (N := 4) hx hb hts hin hown hK hP 0 rfl rfl 0 (by decide) (hts (.fieldLink RX0 9 "FrameRow" "row" "[I") (by decide +kernel)) (fun _ h9 => h9) rfl dX0_put_21 ?_
        refine lv_iload hx hb dX0_put_24 (lv_at hl 0 rfl) ?_
        refine kLd hx hb hK hP 1 0 rfl rfl (j := idxP n mu a) (by omega) (by decide) dX0_put_26 ?_
        refine lv_istore (lv' := [(5, .int (f (idxP n mu a))), (4, .int (nI (idxP n mu a))), (0, .ref h0), (1, .int (nI mu)), (2, .int (nI a)), (3, .int z)]) hx hb dX0_put_27 hl (by decide) rfl (fun ls hl => ?_)
        refine lv_aload_n hx hb dX0_put_29 rfl (lv_at hl 2 rfl) ?_
        refine va_get (D := D) (ci := 0) (v := .ref h1) (C := RX0) (T := TX0) (N := 4) hx hb hts hin hown hK hP 0 rfl rfl 0 (by decide) (hts (.fieldLink RX0 9 "FrameRow" "row" "[I") (by decide +kernel)) (fun _ h9 => h9) rfl dX0_put_30 ?_
        refine lv_iload hx hb dX0_put_33 (lv_at hl 1 rfl) ?_
        refine lv_iload_n hx hb dX0_put_35 rfl (lv_at hl 5 rfl) ?_
        refine kSt hx hb hK hP hD hS 1 0 rfl rfl (j := idxP n mu a) (by omega) (by decide) dX0_put_36 (fun H locs hP hD hS => ?_)
        have hP : va_P D kC (wX h0 h1 h2 cI (upd f (idxP n mu a) z) g (nI L) ca) H := hP
        have hD : va_D A (wX h0 h1 h2 cI (upd f (idxP n mu a) z) g (nI L) ca) := hD
        refine lv_iload hx hb dX0_put_37 (lv_at hl 0 rfl) ?_
        exact vx_ret (kReti hx hb hr hlocks dX0_put_39 (Nat.le_of_ble_eq_true rfl) (Nat.le_of_ble_eq_true rfl) hK hS hP hD ⟨hz, mu, a, hmu, ha, rfl, rfl, rfl, rfl⟩)

set_option maxHeartbeats 4000000 in
set_option maxRecDepth 100000 in
theorem pX0_peek (l : Launch) (htr : l.stackTraces = false) (D : va_G) (h0 h1 h2 : Nat) (cI : ClassId) (f g : Nat → Int32) (L : Nat) (ca : Int32) (n : Nat → Nat) (hok : okC g n) (hlen : L = lenN n) (x y z : Int32) : Xi l yX0_peek wsX0_peek x2 D (tI cI) [.ref h0, .int x, .int y, .int z] (wX h0 h1 h2 cI f g (nI L) ca) (fun r u => u = wX h0 h1 h2 cI f g (nI L) ca ∧ ∃ mu k sl, mu < 4 ∧ k < n mu ∧ sl < 8 ∧ x = nI mu ∧ y = nI k ∧ z = nI sl ∧ r = f (8 * (k + sN n mu) + sl)) (fun E u => u = wX h0 h1 h2 cI f g (nI L) ca ∧ E = "java/util/NoSuchElementException" ∧ (¬ inR x 4 ∨ ¬ inR z 8 ∨ ∃ mu, mu < 4 ∧ x = nI mu ∧ ¬ inR y (n mu))) := by
  refine Xi.of (cc := cX0_peek) (maxL := 4) (ty := .int) (by decide +kernel) rfl (Nat.le_of_ble_eq_true rfl) ?_
  rintro p e s m below meth c ls A ⟨hx, hb, hr, hml, hts, hown, hlocks, hnm, hP, hK, hD, hA, hS, hl⟩ hZ hno
  have hown : s.vm.findClass RX0 = some m.cls := hown
  have hl : lv_has ls 4 [(0, .ref h0), (1, .int x), (2, .int y), (3, .int z)] := hl
  have hin : ∀ w ∈ wsX00, w ∈ wsX0_peek := by decide +kernel
  have hP : va_P D kC (wX h0 h1 h2 cI f g (nI L) ca) s.heap := hP
  have hD : va_D A (wX h0 h1 h2 cI f g (nI L) ca) := hD
  refine lv_iload_n hx hb dX0_peek_0 rfl (lv_at hl 1 rfl) ?_
  refine xSv (wr := wX h0 h1 h2 cI f g (nI L) ca) (As := [.int x]) (rest := []) ⟨hx, hb, hml, hown, hts⟩ (pX0_checkMutator l htr D cI x) (va_cwS 1 hts gX0_peek_X0_checkMutator rfl rfl rfl (by decide +kernel) ⟨(Nat.le_of_ble_eq_true rfl), (Nat.le_of_ble_eq_true rfl)⟩) hK hP hD hS hA hZ [] [0, 1, 2] rfl rfl (by decide) (by decide) (by decide) rfl hl.1 rfl (Nat.le_of_ble_eq_true rfl) dX0_peek_1 ⟨(Nat.le_of_ble_eq_true rfl), (Nat.le_of_ble_eq_true rfl)⟩ (fun E ce q9 u H locs hpx hP hD hS hce hcv hcl => ?_) (fun u H locs hw hP hD hS => ?_)
  · obtain ⟨rfl, rfl, hni⟩ := hpx; exact kOut hno hlocks hce hcv hcl (Nat.le_of_ble_eq_true rfl) (Nat.le_of_ble_eq_true rfl) hK hS hP hD ⟨rfl, rfl, Or.inl hni⟩
  · skip
    obtain ⟨rfl, mu, hmu, rfl⟩ := hw
    have hP : va_P D kC (wX h0 h1 h2 cI f g (nI L) ca) H := hP
    have hD : va_D A (wX h0 h1 h2 cI f g (nI L) ca) := hD
    have hm := hok.2 mu hmu
    have hmo := sN_mono (n := n) hmu
    have hle := hok.le
    have hL0 : L = 8 * sN n 4 + 16 := hlen
    refine lv_iload_n hx hb dX0_peek_4 rfl (lv_at hl 2 rfl) ?_
    refine lv_if_lt (tgt := 18) hx hb dX0_peek_5 (by decide) (fun c1 => ?_) (fun c1 => ?_)
    · skip
      exact kThrowN hx hb htr (hml.trans hl.1.symm) hown hts hZ hno hlocks (by decide +kernel) (by decide +kernel) (is := 58) (text := "the mutator has no such frame") (by decide +kernel) (by decide +kernel) dX0_peek_18 dX0_peek_21 dX0_peek_22 dX0_peek_24 dX0_peek_27 (Nat.le_of_ble_eq_true rfl) (Nat.le_of_ble_eq_true rfl) (Nat.le_of_ble_eq_true rfl) (Nat.le_of_ble_eq_true rfl) (Nat.le_of_ble_eq_true rfl) (Nat.le_of_ble_eq_true rfl) hK hS hP hD ⟨rfl, rfl, Or.inr (Or.inr ⟨mu, hmu, rfl, fun h => ((inR_iff (by omega)).mp h).1 c1⟩)⟩
    · skip
      refine lv_iload_n hx hb dX0_peek_8 rfl (lv_at hl 2 rfl) ?_
      refine lv_aload_n hx hb dX0_peek_9 rfl (lv_at hl 0 rfl) ?_
      refine va_get (D := D) (ci := 0) (v := .ref h2) (C := RX0) (T := TX0) (N := 4) hx hb hts hin hown hK hP 0 rfl rfl 1 (by decide) (hts (.fieldLink RX0 13 "FrameRow" "frameCounts" "[I") (by decide +kernel)) (fun _ h9 => h9) rfl dX0_peek_10 ?_
      refine lv_iload_n hx hb dX0_peek_13 rfl (lv_at hl 1 rfl) ?_
      refine kLd hx hb hK hP 2 0 rfl rfl (j := mu) (by omega) (by decide) dX0_peek_14 ?_
      refine kTop (v' := nI (n mu)) (hok.1 mu hmu) ?_
      refine lv_icmp_lt (tgt := 28) hx hb dX0_peek_15 (by decide) (fun c2 => ?_) (fun c2 => ?_)
      · skip
        obtain ⟨k, hk, rfl⟩ := kRange (by omega) c1 c2
        refine lv_iload_n hx hb dX0_peek_28 rfl (lv_at hl 3 rfl) ?_
        refine xSv (wr := wX h0 h1 h2 cI f g (nI L) ca) (As := [.int z]) (rest := []) ⟨hx, hb, hml, hown, hts⟩ (pX0_checkSlot l htr D cI z) (va_cwS 1 hts gX0_peek_X0_checkSlot rfl rfl rfl (by decide +kernel) ⟨(Nat.le_of_ble_eq_true rfl), (Nat.le_of_ble_eq_true rfl)⟩) hK hP hD hS hA hZ [] [0, 1, 2] rfl rfl (by decide) (by decide) (by decide) rfl hl.1 rfl (Nat.le_of_ble_eq_true rfl) dX0_peek_29 ⟨(Nat.le_of_ble_eq_true rfl), (Nat.le_of_ble_eq_true rfl)⟩ (fun E ce q9 u H locs hpx hP hD hS hce hcv hcl => ?_) (fun u H locs hw hP hD hS => ?_)
        · obtain ⟨rfl, rfl, hni⟩ := hpx; exact kOut hno hlocks hce hcv hcl (Nat.le_of_ble_eq_true rfl) (Nat.le_of_ble_eq_true rfl) hK hS hP hD ⟨rfl, rfl, Or.inr (Or.inl hni)⟩
        · skip
          obtain ⟨rfl, sl, hsl, rfl⟩ := hw
          have hP : va_P D kC (wX h0 h1 h2 cI f g (nI L) ca) H := hP
          have hD : va_D A (wX h0 h1 h2 cI f g (nI L) ca) := hD
          refine lv_aload_n hx hb dX0_peek_32 rfl (lv_at hl 0 rfl) ?_
          refine va_get (D := D) (ci := 0) (v := .ref h1) (C := RX0) (T := TX0) (N := 4) hx hb hts hin hown hK hP 0 rfl rfl 0 (by decide) (hts (.fieldLink RX0 9 "FrameRow" "row" "[I") (by decide +kernel)) (fun _ h9 => h9) rfl dX0_peek_33 ?_
          refine lv_aload_n hx hb dX0_peek_36 rfl (lv_at hl 0 rfl) ?_
          refine lv_iload_n hx hb dX0_peek_37 rfl (lv_at hl 1 rfl) ?_
          refine lv_iload_n hx hb dX0_peek_38 rfl (lv_at hl 2 rfl) ?_
          refine cVi (wr := []) (As := [.int (nI mu), .int (nI k)]) (rest := [.ref h1]) ⟨hx, hb, hml, hown, hts⟩ (pX0_startOfFrame l D h0 h1 h2 cI f g L ca n hok mu k hmu (by omega)) (cwV 2 hts gX0_peek_X0_startOfFrame rfl rfl rfl (by decide +kernel) ⟨(Nat.le_of_ble_eq_true rfl), (Nat.le_of_ble_eq_true rfl)⟩) hK hP hD hS hA [0, 1, 2] [] rfl rfl (by decide) (by decide) (by decide) 0 rfl rfl rfl hl.1 rfl (Nat.le_of_ble_eq_true rfl) dX0_peek_39 ⟨(Nat.le_of_ble_eq_true rfl), (Nat.le_of_ble_eq_true rfl)⟩ (fun r u H locs hw hP hD hS => ?_)
          obtain ⟨rfl, rfl⟩ := hw
          have hP : va_P D kC (wX h0 h1 h2 cI f g (nI L) ca) H := hP
          have hD : va_D A (wX h0 h1 h2 cI f g (nI L) ca) := hD
          refine lv_iload_n hx hb dX0_peek_42 rfl (lv_at hl 3 rfl) ?_
          refine kAdd hx hb dX0_peek_43 ?_
          refine kLd hx hb hK hP 1 0 rfl rfl (j := (8 * (k + sN n mu)) + sl) (by omega) (by decide) dX0_peek_44 ?_
          exact vx_ret (kReti hx hb hr hlocks dX0_peek_45 (Nat.le_of_ble_eq_true rfl) (Nat.le_of_ble_eq_true rfl) hK hS hP hD ⟨rfl, mu, k, sl, hmu, hk, hsl, rfl, rfl, rfl, rfl⟩)
      · skip
        exact kThrowN hx hb htr (hml.trans hl.1.symm) hown hts hZ hno hlocks (by decide +kernel) (by decide +kernel) (is := 58) (text := "the mutator has no such frame") (by decide +kernel) (by decide +kernel) dX0_peek_18 dX0_peek_21 dX0_peek_22 dX0_peek_24 dX0_peek_27 (Nat.le_of_ble_eq_true rfl) (Nat.le_of_ble_eq_true rfl) (Nat.le_of_ble_eq_true rfl) (Nat.le_of_ble_eq_true rfl) (Nat.le_of_ble_eq_true rfl) (Nat.le_of_ble_eq_true rfl) hK hS hP hD ⟨rfl, rfl, Or.inr (Or.inr ⟨mu, hmu, rfl, fun h => c2 ((inR_iff (by omega)).mp h).2⟩)⟩

set_option maxHeartbeats 4000000 in
set_option maxRecDepth 100000 in
theorem pX0_holds (l : Launch) (htr : l.stackTraces = false) (D : va_G) (h0 h1 h2 : Nat) (cI : ClassId) (f g : Nat → Int32) (L : Nat) (ca : Int32) (hL : L ≤ 2064) (x : Int32) : Xi l yX0_holds wsX0_holds x2 D (tI cI) [.ref h0, .int x] (wX h0 h1 h2 cI f g (nI L) ca) (fun r u => u = wX h0 h1 h2 cI f g (nI L) ca ∧ inR x 1000001 ∧ r = nI ((rw_ f L).count x)) (fun E u => u = wX h0 h1 h2 cI f g (nI L) ca ∧ E = "java/lang/IllegalArgumentException" ∧ ¬ inR x 1000001) := by
  refine Xi.of (cc := cX0_holds) (maxL := 2) (ty := .int) (by decide +kernel) rfl (Nat.le_of_ble_eq_true rfl) ?_
  rintro p e s m below meth c ls A ⟨hx, hb, hr, hml, hts, hown, hlocks, hnm, hP, hK, hD, hA, hS, hl⟩ hZ hno
  have hown : s.vm.findClass RX0 = some m.cls := hown
  have hl : lv_has ls 2 [(0, .ref h0), (1, .int x)] := hl
  have hin : ∀ w ∈ wsX00, w ∈ wsX0_holds := by decide +kernel
  have hP : va_P D kC (wX h0 h1 h2 cI f g (nI L) ca) s.heap := hP
  have hD : va_D A (wX h0 h1 h2 cI f g (nI L) ca) := hD
  refine lv_iload_n hx hb dX0_holds_0 rfl (lv_at hl 1 rfl) ?_
  refine xSv (wr := wX h0 h1 h2 cI f g (nI L) ca) (As := [.int x]) (rest := []) ⟨hx, hb, hml, hown, hts⟩ (pX0_checkValue l htr D cI x) (va_cwS 1 hts gX0_holds_X0_checkValue rfl rfl rfl (by decide +kernel) ⟨(Nat.le_of_ble_eq_true rfl), (Nat.le_of_ble_eq_true rfl)⟩) hK hP hD hS hA hZ [] [0, 1, 2] rfl rfl (by decide) (by decide) (by decide) rfl hl.1 rfl (Nat.le_of_ble_eq_true rfl) dX0_holds_1 ⟨(Nat.le_of_ble_eq_true rfl), (Nat.le_of_ble_eq_true rfl)⟩ (fun E ce q9 u H locs hpx hP hD hS hce hcv hcl => ?_) (fun u H locs hw hP hD hS => ?_)
  · obtain ⟨rfl, rfl, hni⟩ := hpx; exact kOut hno hlocks hce hcv hcl (Nat.le_of_ble_eq_true rfl) (Nat.le_of_ble_eq_true rfl) hK hS hP hD ⟨rfl, rfl, hni⟩
  · skip
    obtain ⟨rfl, hz⟩ := hw
    have hP : va_P D kC (wX h0 h1 h2 cI f g (nI L) ca) H := hP
    have hD : va_D A (wX h0 h1 h2 cI f g (nI L) ca) := hD
    refine lv_aload_n hx hb dX0_holds_4 rfl (lv_at hl 0 rfl) ?_
    refine lv_iload_n hx hb dX0_holds_5 rfl (lv_at hl 1 rfl) ?_
    refine cVi (wr := []) (As := [.int x]) (rest := []) ⟨hx, hb, hml, hown, hts⟩ (pX0_countOf l D h0 h1 h2 cI f g L ca hL x) (cwV 1 hts gX0_holds_X0_countOf rfl rfl rfl (by decide +kernel) ⟨(Nat.le_of_ble_eq_true rfl), (Nat.le_of_ble_eq_true rfl)⟩) hK hP hD hS hA [0, 1, 2] [] rfl rfl (by decide) (by decide) (by decide) 0 rfl rfl rfl hl.1 rfl (Nat.le_of_ble_eq_true rfl) dX0_holds_6 ⟨(Nat.le_of_ble_eq_true rfl), (Nat.le_of_ble_eq_true rfl)⟩ (fun r u H locs hw hP hD hS => ?_)
    obtain ⟨rfl, rfl⟩ := hw
    have hP : va_P D kC (wX h0 h1 h2 cI f g (nI L) ca) H := hP
    have hD : va_D A (wX h0 h1 h2 cI f g (nI L) ca) := hD
    exact vx_ret (kReti hx hb hr hlocks dX0_holds_9 (Nat.le_of_ble_eq_true rfl) (Nat.le_of_ble_eq_true rfl) hK hS hP hD ⟨rfl, hz, rfl⟩)

set_option maxHeartbeats 4000000 in
set_option maxRecDepth 100000 in
theorem pX0_turn (l : Launch) (htr : l.stackTraces = false) (D : va_G) (h0 h1 h2 : Nat) (cI : ClassId) (f g : Nat → Int32) (L : Nat) (ca : Int32) (hL : L ≤ 2064) (x y : Int32) : Xi l yX0_turn wsX0_turn x2 D (tI cI) [.ref h0, .int x, .int y] (wX h0 h1 h2 cI f g (nI L) ca) (fun r u => ¬ x = 0 ∧ inR x 1000001 ∧ inR y 1000001 ∧ r = nI ((rw_ f L).count x) ∧ u = wX h0 h1 h2 cI (fun t => if 0 ≤ t ∧ t < L ∧ f t = x then y else f t) g (nI L) ca) (fun E u => u = wX h0 h1 h2 cI f g (nI L) ca ∧ E = "java/lang/IllegalArgumentException" ∧ (x = 0 ∨ ¬ inR x 1000001 ∨ ¬ inR y 1000001)) := by
  refine Xi.of (cc := cX0_turn) (maxL := 3) (ty := .int) (by decide +kernel) rfl (Nat.le_of_ble_eq_true rfl) ?_
  rintro p e s m below meth c ls A ⟨hx, hb, hr, hml, hts, hown, hlocks, hnm, hP, hK, hD, hA, hS, hl⟩ hZ hno
  have hown : s.vm.findClass RX0 = some m.cls := hown
  have hl : lv_has ls 3 [(0, .ref h0), (1, .int x), (2, .int y)] := hl
  have hin : ∀ w ∈ wsX00, w ∈ wsX0_turn := by decide +kernel
  have hP : va_P D kC (wX h0 h1 h2 cI f g (nI L) ca) s.heap := hP
  have hD : va_D A (wX h0 h1 h2 cI f g (nI L) ca) := hD
  refine lv_iload_n hx hb dX0_turn_0 rfl (lv_at hl 1 rfl) ?_
  refine lv_if_ne (tgt := 14) hx hb dX0_turn_1 (by decide) (fun c1 => ?_) (fun c1 => ?_)
  · skip
    refine lv_iload_n hx hb dX0_turn_14 rfl (lv_at hl 1 rfl) ?_
    refine xSv (wr := wX h0 h1 h2 cI f g (nI L) ca) (As := [.int x]) (rest := []) ⟨hx, hb, hml, hown, hts⟩ (pX0_checkValue l htr D cI x) (va_cwS 1 hts gX0_turn_X0_checkValue rfl rfl rfl (by decide +kernel) ⟨(Nat.le_of_ble_eq_true rfl), (Nat.le_of_ble_eq_true rfl)⟩) hK hP hD hS hA hZ [] [0, 1, 2] rfl rfl (by decide) (by decide) (by decide) rfl hl.1 rfl (Nat.le_of_ble_eq_true rfl) dX0_turn_15 ⟨(Nat.le_of_ble_eq_true rfl), (Nat.le_of_ble_eq_true rfl)⟩ (fun E ce q9 u H locs hpx hP hD hS hce hcv hcl => ?_) (fun u H locs hw hP hD hS => ?_)
    · obtain ⟨rfl, rfl, hni⟩ := hpx; exact kOut hno hlocks hce hcv hcl (Nat.le_of_ble_eq_true rfl) (Nat.le_of_ble_eq_true rfl) hK hS hP hD ⟨rfl, rfl, Or.inr (Or.inl hni)⟩
    · skip
      obtain ⟨rfl, hz⟩ := hw
      have hP : va_P D kC (wX h0 h1 h2 cI f g (nI L) ca) H := hP
      have hD : va_D A (wX h0 h1 h2 cI f g (nI L) ca) := hD
      refine lv_iload_n hx hb dX0_turn_18 rfl (lv_at hl 2 rfl) ?_
      refine xSv (wr := wX h0 h1 h2 cI f g (nI L) ca) (As := [.int y]) (rest := []) ⟨hx, hb, hml, hown, hts⟩ (pX0_checkValue l htr D cI y) (va_cwS 1 hts gX0_turn_X0_checkValue rfl rfl rfl (by decide +kernel) ⟨(Nat.le_of_ble_eq_true rfl), (Nat.le_of_ble_eq_true rfl)⟩) hK hP hD hS hA hZ [] [0, 1, 2] rfl rfl (by decide) (by decide) (by decide) rfl hl.1 rfl (Nat.le_of_ble_eq_true rfl) dX0_turn_19 ⟨(Nat.le_of_ble_eq_true rfl), (Nat.le_of_ble_eq_true rfl)⟩ (fun E ce q9 u H locs hpx hP hD hS hce hcv hcl => ?_) (fun u H locs hw hP hD hS => ?_)
      · obtain ⟨rfl, rfl, hni⟩ := hpx; exact kOut hno hlocks hce hcv hcl (Nat.le_of_ble_eq_true rfl) (Nat.le_of_ble_eq_true rfl) hK hS hP hD ⟨rfl, rfl, Or.inr (Or.inr hni)⟩
      · skip
        obtain ⟨rfl, hz2⟩ := hw
        have hP : va_P D kC (wX h0 h1 h2 cI f g (nI L) ca) H := hP
        have hD : va_D A (wX h0 h1 h2 cI f g (nI L) ca) := hD
        refine lv_aload_n hx hb dX0_turn_22 rfl (lv_at hl 0 rfl) ?_
        refine lv_iconst (v := nI 0) hx hb dX0_turn_23 (by decide) ?_
        refine lv_iload_n hx hb dX0_turn_24 rfl (lv_at hl 1 rfl) ?_
        refine lv_iload_n hx hb dX0_turn_25 rfl (lv_at hl 2 rfl) ?_
        refine cVi (wr := []) (As := [.int (nI 0), .int x, .int y]) (rest := []) ⟨hx, hb, hml, hown, hts⟩ (pX0_replace l D h0 h1 h2 cI f g L ca hL 0 (Nat.zero_le _) x y) (cwV 3 hts gX0_turn_X0_replace rfl rfl rfl (by decide +kernel) ⟨(Nat.le_of_ble_eq_true rfl), (Nat.le_of_ble_eq_true rfl)⟩) hK hP hD hS hA [0, 1, 2] [] rfl rfl (by decide) (by decide) (by decide) 0 rfl rfl rfl hl.1 rfl (Nat.le_of_ble_eq_true rfl) dX0_turn_26 ⟨(Nat.le_of_ble_eq_true rfl), (Nat.le_of_ble_eq_true rfl)⟩ (fun r u H locs hw hP hD hS => ?_)
        obtain ⟨rfl, rfl⟩ := hw
        have hP : va_P D kC (wX h0 h1 h2 cI (fun t => if 0 ≤ t ∧ t < L ∧ f t = x then y else f t) g (nI L) ca) H := hP
        have hD : va_D A (wX h0 h1 h2 cI (fun t => if 0 ≤ t ∧ t < L ∧ f t = x then y else f t) g (nI L) ca) := hD
        exact vx_ret (kReti hx hb hr hlocks dX0_turn_29 (Nat.le_of_ble_eq_true rfl) (Nat.le_of_ble_eq_true rfl) hK hS hP hD ⟨c1, hz, hz2, rfl, rfl⟩)
  · skip
    exact kThrowA hx hb htr (hml.trans hl.1.symm) hown hts hZ hno hlocks (by decide +kernel) (by decide +kernel) (is := 82) (text := "nothing cannot be turned") (by decide +kernel) (by decide +kernel) dX0_turn_4 dX0_turn_7 dX0_turn_8 dX0_turn_10 dX0_turn_13 (Nat.le_of_ble_eq_true rfl) (Nat.le_of_ble_eq_true rfl) (Nat.le_of_ble_eq_true rfl) (Nat.le_of_ble_eq_true rfl) (Nat.le_of_ble_eq_true rfl) (Nat.le_of_ble_eq_true rfl) hK hS hP hD ⟨rfl, rfl, Or.inl c1⟩

set_option maxHeartbeats 4000000 in
set_option maxRecDepth 100000 in
theorem pX0_root (l : Launch) (htr : l.stackTraces = false) (D : va_G) (h0 h1 h2 : Nat) (cI : ClassId) (f g : Nat → Int32) (L : Nat) (ca : Int32) (hL : L ≤ 2064) (x : Int32) : Xi l yX0_root wsX0_root x2 D (tI cI) [.ref h0, .int x] (wX h0 h1 h2 cI f g (nI L) ca) (fun r u => u = wX h0 h1 h2 cI f g (nI L) ca ∧ ∃ k9, k9 < 2147483648 ∧ x = nI k9 ∧ r = (nz (rw_ f L)).getD k9 0) (fun E u => u = wX h0 h1 h2 cI f g (nI L) ca ∧ E = "java/lang/IllegalArgumentException" ∧ x < 0) := by
  refine Xi.of (cc := cX0_root) (maxL := 4) (ty := .int) (by decide +kernel) rfl (Nat.le_of_ble_eq_true rfl) ?_
  rintro p e s m below meth c ls A ⟨hx, hb, hr, hml, hts, hown, hlocks, hnm, hP, hK, hD, hA, hS, hl⟩ hZ hno
  have hown : s.vm.findClass RX0 = some m.cls := hown
  have hl : lv_has ls 4 [(0, .ref h0), (1, .int x)] := hl
  have hin : ∀ w ∈ wsX00, w ∈ wsX0_root := by decide +kernel
  have hP : va_P D kC (wX h0 h1 h2 cI f g (nI L) ca) s.heap := hP
  have hD : va_D A (wX h0 h1 h2 cI f g (nI L) ca) := hD
  refine lv_iload_n hx hb dX0_root_0 rfl (lv_at hl 1 rfl) ?_
  refine lv_if_ge (tgt := 14) hx hb dX0_root_1 (by decide) (fun c1 => ?_) (fun c1 => ?_)
  · skip
    obtain ⟨k, hk, rfl⟩ := nI_of (Int32.not_lt.mpr c1)
    refine lv_iload_n hx hb dX0_root_14 rfl (lv_at hl 1 rfl) ?_
    refine lv_istore_n (lv' := [(2, .int (nI k)), (0, .ref h0), (1, .int (nI k))]) hx hb dX0_root_15 rfl hl (by decide) rfl (fun ls hl => ?_)
    refine lv_iconst (v := nI 0) hx hb dX0_root_16 (by decide) ?_
    refine lv_istore_n (lv' := [(3, .int (nI 0)), (2, .int (nI k)), (0, .ref h0), (1, .int (nI k))]) hx hb dX0_root_17 rfl hl (by decide) rfl (fun ls hl => ?_)
    refine kLoop (Q := fun i => ∀  (ls : Array Slot) (H : Heap) (locs : List Loc), (nz (rw_ f i)).length ≤ k → va_P D kC (wX h0 h1 h2 cI f g (nI L) ca) H → va_D A (wX h0 h1 h2 cI f g (nI L) ca) → va_S A s.heap H locs → lv_has ls 4 [(0, .ref h0), (2, .int (nI (k - (nz (rw_ f i)).length))), (3, .int (nI i))] → W p l e x2 s m [.ref h0, .int (nI k)].toArray below meth c H locs 0 0 (vx_MQ below (va_Qi (fun r u => u = wX h0 h1 h2 cI f g (nI L) ca ∧ ∃ k9, k9 < 2147483648 ∧ (nI k) = nI k9 ∧ r = (nz (rw_ f L)).getD k9 0) (kB D (tI cI) A) A) (kXC D (tI cI) A (fun E u => u = wX h0 h1 h2 cI f g (nI L) ca ∧ E = "java/lang/IllegalArgumentException" ∧ (nI k) < 0)) [.ref h0, .int (nI k)].toArray s x2.cells x2.slots A) (F0 m 18 ls [])) (L) ?_ (0) (Nat.zero_le _)  ls _ _ (Nat.zero_le _) hP hD hS (lv_sub hl [2, 1, 0] rfl)
    intro i hi ih  ls H locs hkz hP hD hS hl
    refine lv_iload_n hx hb dX0_root_18 rfl (lv_at hl 2 rfl) ?_
    refine lv_aload_n hx hb dX0_root_19 rfl (lv_at hl 0 rfl) ?_
    refine va_get (D := D) (ci := 0) (v := .int (nI L)) (C := RX0) (T := TX0) (N := 4) hx hb hts hin hown hK hP 0 rfl rfl 2 (by decide) (hts (.fieldLink RX0 22 "FrameRow" "length" "I") (by decide +kernel)) (fun _ h9 => h9) rfl dX0_root_20 ?_
    refine kIge (a := i) (b := L) (by omega) (by omega) (tgt := 55) hx hb dX0_root_23 (by decide) (fun c2 => ?_) (fun c2 => ?_)
    · skip
      refine lv_iconst (v := nI 0) hx hb dX0_root_55 (by decide) ?_
      have hi2 : i = L := by omega
      subst hi2
      exact vx_ret (kReti hx hb hr hlocks dX0_root_56 (Nat.le_of_ble_eq_true rfl) (Nat.le_of_ble_eq_true rfl) hK hS hP hD ⟨rfl, k, hk, rfl, (getD_out hkz).symm⟩)
    · skip
      refine lv_aload_n hx hb dX0_root_26 rfl (lv_at hl 0 rfl) ?_
      refine va_get (D := D) (ci := 0) (v := .ref h1) (C := RX0) (T := TX0) (N := 4) hx hb hts hin hown hK hP 0 rfl rfl 0 (by decide) (hts (.fieldLink RX0 9 "FrameRow" "row" "[I") (by decide +kernel)) (fun _ h9 => h9) rfl dX0_root_27 ?_
      refine lv_iload_n hx hb dX0_root_30 rfl (lv_at hl 2 rfl) ?_
      refine kLd hx hb hK hP 1 0 rfl rfl (j := i) (by omega) (by decide) dX0_root_31 ?_
      refine lv_if_eq (tgt := 49) hx hb dX0_root_32 (by decide) (fun c3 => ?_) (fun c3 => ?_)
      · skip
        refine lv_iinc (v := nI (i + 1)) (lv' := [(3, .int (nI (i + 1))), (0, .ref h0), (2, .int (nI (k - (nz (rw_ f i)).length)))]) hx hb dX0_root_49 hl (k := 2) rfl (kInc1 _) (by decide) rfl (fun ls hl => ?_)
        refine lv_goto (tgt := 18) hx hb dX0_root_52 (by decide) ?_
        exact ih c2  ls _ _ (by rw [rw_succ, nz_app, nz_0 c3, List.append_nil]; exact hkz) hP hD hS (by have h := (lv_sub (l' := [(0, .ref h0), (2, .int (nI (k - (nz (rw_ f i)).length))), (3, .int (nI (i + 1)))]) hl [1, 2, 0] rfl); rw [show nz (rw_ f (i + 1)) = nz (rw_ f i) by rw [rw_succ, nz_app, nz_0 c3, List.append_nil]]; exact h)
      · skip
        have hlz : (nz (rw_ f (i + 1))).length = (nz (rw_ f i)).length + 1 := by rw [rw_succ, nz_app, nz_1 c3, List.length_append]; rfl
        refine lv_iload_n hx hb dX0_root_35 rfl (lv_at hl 1 rfl) ?_
        refine kNe0 (a := k - (nz (rw_ f i)).length) (by omega) (tgt := 46) hx hb dX0_root_36 (by decide) (fun c4 => ?_) (fun c4 => ?_)
        · skip
          refine lv_iinc (v := nI (k - (nz (rw_ f i)).length - 1)) (lv' := [(2, .int (nI (k - (nz (rw_ f i)).length - 1))), (0, .ref h0), (3, .int (nI i))]) hx hb dX0_root_46 hl (k := 1) rfl (kDec c4) (by decide) rfl (fun ls hl => ?_)
          refine lv_iinc (v := nI (i + 1)) (lv' := [(3, .int (nI (i + 1))), (2, .int (nI (k - (nz (rw_ f i)).length - 1))), (0, .ref h0)]) hx hb dX0_root_49 hl (k := 2) rfl (kInc1 _) (by decide) rfl (fun ls hl => ?_)
          refine lv_goto (tgt := 18) hx hb dX0_root_52 (by decide) ?_
          exact ih c2  ls _ _ (by rw [hlz]; omega) hP hD hS (by have h := (lv_sub (l' := [(0, .ref h0), (2, .int (nI (k - (nz (rw_ f i)).length - 1))), (3, .int (nI (i + 1)))]) hl [2, 1, 0] rfl); rw [show k - (nz (rw_ f (i + 1))).length = k - (nz (rw_ f i)).length - 1 by rw [hlz]; omega]; exact h)
        · skip
          refine lv_aload_n hx hb dX0_root_39 rfl (lv_at hl 0 rfl) ?_
          refine va_get (D := D) (ci := 0) (v := .ref h1) (C := RX0) (T := TX0) (N := 4) hx hb hts hin hown hK hP 0 rfl rfl 0 (by decide) (hts (.fieldLink RX0 9 "FrameRow" "row" "[I") (by decide +kernel)) (fun _ h9 => h9) rfl dX0_root_40 ?_
          refine lv_iload_n hx hb dX0_root_43 rfl (lv_at hl 2 rfl) ?_
          refine kLd hx hb hK hP 1 0 rfl rfl (j := i) (by omega) (by decide) dX0_root_44 ?_
          exact vx_ret (kReti hx hb hr hlocks dX0_root_45 (Nat.le_of_ble_eq_true rfl) (Nat.le_of_ble_eq_true rfl) hK hS hP hD ⟨rfl, k, hk, rfl, (root_at c2 c3 (by omega)).symm⟩)
  · skip
    exact kThrowA hx hb htr (hml.trans hl.1.symm) hown hts hZ hno hlocks (by decide +kernel) (by decide +kernel) (is := 79) (text := "k is below 0") (by decide +kernel) (by decide +kernel) dX0_root_4 dX0_root_7 dX0_root_8 dX0_root_10 dX0_root_13 (Nat.le_of_ble_eq_true rfl) (Nat.le_of_ble_eq_true rfl) (Nat.le_of_ble_eq_true rfl) (Nat.le_of_ble_eq_true rfl) (Nat.le_of_ble_eq_true rfl) (Nat.le_of_ble_eq_true rfl) hK hS hP hD ⟨rfl, rfl, Int32.not_le.mp c1⟩
