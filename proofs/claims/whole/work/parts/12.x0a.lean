set_option maxHeartbeats 4000000 in
set_option maxRecDepth 100000 in
theorem pX0_checkMutator (l : Launch) (htr : l.stackTraces = false) (D : va_G) (cI : ClassId) (x : Int32) : Xv l yX0_checkMutator wsX0_checkMutator x1 D (tI cI) [.int x] ([]) (fun u => u = [] ∧ inR x 4) (fun E u => u = [] ∧ E = nx_N ∧ ¬ inR x 4) := by
  refine Xv.of (cc := cX0_checkMutator) (maxL := 1) (by decide +kernel) rfl (Nat.le_of_ble_eq_true rfl) ?_
  rintro p e s m below meth c ls A ⟨hx, hb, hr, hml, hts, hown, hlocks, hnm, hP, hK, hD, hA, hS, hl⟩ hZ hno
  have hown : s.vm.findClass RX0 = some m.cls := hown
  have hl : lv_has ls 1 [(0, .int x)] := hl
  refine lv_iload_n hx hb dX0_checkMutator_0 rfl (lv_at hl 0 rfl) ?_
  refine lv_if_lt (tgt := 9) hx hb dX0_checkMutator_1 (by decide) (fun c1 => ?_) (fun c1 => ?_)
  · skip
    exact kThrowN hx hb htr (hml.trans hl.1.symm) hown hts hZ hno hlocks (by decide +kernel) (by decide +kernel) (is := 100) (text := "there is no such mutator") (by decide +kernel) (by decide +kernel) dX0_checkMutator_9 dX0_checkMutator_12 dX0_checkMutator_13 dX0_checkMutator_15 dX0_checkMutator_18 (Nat.le_of_ble_eq_true rfl) (Nat.le_of_ble_eq_true rfl) (Nat.le_of_ble_eq_true rfl) (Nat.le_of_ble_eq_true rfl) (Nat.le_of_ble_eq_true rfl) (Nat.le_of_ble_eq_true rfl) hK hS hP hD ⟨rfl, rfl, fun h => ((inR_iff (n := 4) (by decide)).mp h).1 c1⟩
  · skip
    refine lv_iload_n hx hb dX0_checkMutator_4 rfl (lv_at hl 0 rfl) ?_
    refine lv_iconst (v := nI 4) hx hb dX0_checkMutator_5 (by decide) ?_
    refine lv_icmp_lt (tgt := 19) hx hb dX0_checkMutator_6 (by decide) (fun c2 => ?_) (fun c2 => ?_)
    · skip
      exact vx_ret (kRetv hx hb hr hlocks dX0_checkMutator_19 (Nat.le_of_ble_eq_true rfl) (Nat.le_of_ble_eq_true rfl) hK hS hP hD ⟨rfl, (inR_iff (n := 4) (by decide)).mpr ⟨c1, c2⟩⟩)
    · skip
      exact kThrowN hx hb htr (hml.trans hl.1.symm) hown hts hZ hno hlocks (by decide +kernel) (by decide +kernel) (is := 100) (text := "there is no such mutator") (by decide +kernel) (by decide +kernel) dX0_checkMutator_9 dX0_checkMutator_12 dX0_checkMutator_13 dX0_checkMutator_15 dX0_checkMutator_18 (Nat.le_of_ble_eq_true rfl) (Nat.le_of_ble_eq_true rfl) (Nat.le_of_ble_eq_true rfl) (Nat.le_of_ble_eq_true rfl) (Nat.le_of_ble_eq_true rfl) (Nat.le_of_ble_eq_true rfl) hK hS hP hD ⟨rfl, rfl, fun h => c2 ((inR_iff (n := 4) (by decide)).mp h).2⟩

set_option maxHeartbeats 4000000 in
set_option maxRecDepth 100000 in
theorem pX0_checkSlot (l : Launch) (htr : l.stackTraces = false) (D : va_G) (cI : ClassId) (x : Int32) : Xv l yX0_checkSlot wsX0_checkSlot x1 D (tI cI) [.int x] ([]) (fun u => u = [] ∧ inR x 8) (fun E u => u = [] ∧ E = nx_N ∧ ¬ inR x 8) := by
  refine Xv.of (cc := cX0_checkSlot) (maxL := 1) (by decide +kernel) rfl (Nat.le_of_ble_eq_true rfl) ?_
  rintro p e s m below meth c ls A ⟨hx, hb, hr, hml, hts, hown, hlocks, hnm, hP, hK, hD, hA, hS, hl⟩ hZ hno
  have hown : s.vm.findClass RX0 = some m.cls := hown
  have hl : lv_has ls 1 [(0, .int x)] := hl
  refine lv_iload_n hx hb dX0_checkSlot_0 rfl (lv_at hl 0 rfl) ?_
  refine lv_if_lt (tgt := 10) hx hb dX0_checkSlot_1 (by decide) (fun c1 => ?_) (fun c1 => ?_)
  · skip
    exact kThrowN hx hb htr (hml.trans hl.1.symm) hown hts hZ hno hlocks (by decide +kernel) (by decide +kernel) (is := 102) (text := "there is no such slot") (by decide +kernel) (by decide +kernel) dX0_checkSlot_10 dX0_checkSlot_13 dX0_checkSlot_14 dX0_checkSlot_16 dX0_checkSlot_19 (Nat.le_of_ble_eq_true rfl) (Nat.le_of_ble_eq_true rfl) (Nat.le_of_ble_eq_true rfl) (Nat.le_of_ble_eq_true rfl) (Nat.le_of_ble_eq_true rfl) (Nat.le_of_ble_eq_true rfl) hK hS hP hD ⟨rfl, rfl, fun h => ((inR_iff (n := 8) (by decide)).mp h).1 c1⟩
  · skip
    refine lv_iload_n hx hb dX0_checkSlot_4 rfl (lv_at hl 0 rfl) ?_
    refine lv_bipush (v := nI 8) hx hb dX0_checkSlot_5 (by decide) ?_
    refine lv_icmp_lt (tgt := 20) hx hb dX0_checkSlot_7 (by decide) (fun c2 => ?_) (fun c2 => ?_)
    · skip
      exact vx_ret (kRetv hx hb hr hlocks dX0_checkSlot_20 (Nat.le_of_ble_eq_true rfl) (Nat.le_of_ble_eq_true rfl) hK hS hP hD ⟨rfl, (inR_iff (n := 8) (by decide)).mpr ⟨c1, c2⟩⟩)
    · skip
      exact kThrowN hx hb htr (hml.trans hl.1.symm) hown hts hZ hno hlocks (by decide +kernel) (by decide +kernel) (is := 102) (text := "there is no such slot") (by decide +kernel) (by decide +kernel) dX0_checkSlot_10 dX0_checkSlot_13 dX0_checkSlot_14 dX0_checkSlot_16 dX0_checkSlot_19 (Nat.le_of_ble_eq_true rfl) (Nat.le_of_ble_eq_true rfl) (Nat.le_of_ble_eq_true rfl) (Nat.le_of_ble_eq_true rfl) (Nat.le_of_ble_eq_true rfl) (Nat.le_of_ble_eq_true rfl) hK hS hP hD ⟨rfl, rfl, fun h => c2 ((inR_iff (n := 8) (by decide)).mp h).2⟩

set_option maxHeartbeats 4000000 in
set_option maxRecDepth 100000 in
theorem pX0_checkPlace (l : Launch) (htr : l.stackTraces = false) (D : va_G) (cI : ClassId) (x : Int32) : Xv l yX0_checkPlace wsX0_checkPlace x1 D (tI cI) [.int x] ([]) (fun u => u = [] ∧ inR x 24) (fun E u => u = [] ∧ E = nx_N ∧ ¬ inR x 24) := by
  refine Xv.of (cc := cX0_checkPlace) (maxL := 1) (by decide +kernel) rfl (Nat.le_of_ble_eq_true rfl) ?_
  rintro p e s m below meth c ls A ⟨hx, hb, hr, hml, hts, hown, hlocks, hnm, hP, hK, hD, hA, hS, hl⟩ hZ hno
  have hown : s.vm.findClass RX0 = some m.cls := hown
  have hl : lv_has ls 1 [(0, .int x)] := hl
  refine lv_iload_n hx hb dX0_checkPlace_0 rfl (lv_at hl 0 rfl) ?_
  refine lv_if_lt (tgt := 10) hx hb dX0_checkPlace_1 (by decide) (fun c1 => ?_) (fun c1 => ?_)
  · skip
    exact kThrowN hx hb htr (hml.trans hl.1.symm) hown hts hZ hno hlocks (by decide +kernel) (by decide +kernel) (is := 104) (text := "there is no such place") (by decide +kernel) (by decide +kernel) dX0_checkPlace_10 dX0_checkPlace_13 dX0_checkPlace_14 dX0_checkPlace_16 dX0_checkPlace_19 (Nat.le_of_ble_eq_true rfl) (Nat.le_of_ble_eq_true rfl) (Nat.le_of_ble_eq_true rfl) (Nat.le_of_ble_eq_true rfl) (Nat.le_of_ble_eq_true rfl) (Nat.le_of_ble_eq_true rfl) hK hS hP hD ⟨rfl, rfl, fun h => ((inR_iff (n := 24) (by decide)).mp h).1 c1⟩
  · skip
    refine lv_iload_n hx hb dX0_checkPlace_4 rfl (lv_at hl 0 rfl) ?_
    refine lv_bipush (v := nI 24) hx hb dX0_checkPlace_5 (by decide) ?_
    refine lv_icmp_lt (tgt := 20) hx hb dX0_checkPlace_7 (by decide) (fun c2 => ?_) (fun c2 => ?_)
    · skip
      exact vx_ret (kRetv hx hb hr hlocks dX0_checkPlace_20 (Nat.le_of_ble_eq_true rfl) (Nat.le_of_ble_eq_true rfl) hK hS hP hD ⟨rfl, (inR_iff (n := 24) (by decide)).mpr ⟨c1, c2⟩⟩)
    · skip
      exact kThrowN hx hb htr (hml.trans hl.1.symm) hown hts hZ hno hlocks (by decide +kernel) (by decide +kernel) (is := 104) (text := "there is no such place") (by decide +kernel) (by decide +kernel) dX0_checkPlace_10 dX0_checkPlace_13 dX0_checkPlace_14 dX0_checkPlace_16 dX0_checkPlace_19 (Nat.le_of_ble_eq_true rfl) (Nat.le_of_ble_eq_true rfl) (Nat.le_of_ble_eq_true rfl) (Nat.le_of_ble_eq_true rfl) (Nat.le_of_ble_eq_true rfl) (Nat.le_of_ble_eq_true rfl) hK hS hP hD ⟨rfl, rfl, fun h => c2 ((inR_iff (n := 24) (by decide)).mp h).2⟩

set_option maxHeartbeats 4000000 in
set_option maxRecDepth 100000 in
theorem pX0_checkValue (l : Launch) (htr : l.stackTraces = false) (D : va_G) (cI : ClassId) (x : Int32) : Xv l yX0_checkValue wsX0_checkValue x1 D (tI cI) [.int x] ([]) (fun u => u = [] ∧ inR x 1000001) (fun E u => u = [] ∧ E = "java/lang/IllegalArgumentException" ∧ ¬ inR x 1000001) := by
  refine Xv.of (cc := cX0_checkValue) (maxL := 1) (by decide +kernel) rfl (Nat.le_of_ble_eq_true rfl) ?_
  rintro p e s m below meth c ls A ⟨hx, hb, hr, hml, hts, hown, hlocks, hnm, hP, hK, hD, hA, hS, hl⟩ hZ hno
  have hown : s.vm.findClass RX0 = some m.cls := hown
  have hl : lv_has ls 1 [(0, .int x)] := hl
  refine lv_iload_n hx hb dX0_checkValue_0 rfl (lv_at hl 0 rfl) ?_
  refine lv_if_lt (tgt := 10) hx hb dX0_checkValue_1 (by decide) (fun c1 => ?_) (fun c1 => ?_)
  · skip
    exact kThrowA hx hb htr (hml.trans hl.1.symm) hown hts hZ hno hlocks (by decide +kernel) (by decide +kernel) (is := 107) (text := "this is no value") (by decide +kernel) (by decide +kernel) dX0_checkValue_10 dX0_checkValue_13 dX0_checkValue_14 dX0_checkValue_16 dX0_checkValue_19 (Nat.le_of_ble_eq_true rfl) (Nat.le_of_ble_eq_true rfl) (Nat.le_of_ble_eq_true rfl) (Nat.le_of_ble_eq_true rfl) (Nat.le_of_ble_eq_true rfl) (Nat.le_of_ble_eq_true rfl) hK hS hP hD ⟨rfl, rfl, fun h => ((inR_le (n := 1000000) (by decide)).mp h).1 c1⟩
  · skip
    refine lv_iload_n hx hb dX0_checkValue_4 rfl (lv_at hl 0 rfl) ?_
    refine lv_ldc (v := 1000000) hx hb hown (hts (.constant RX0 106 1000000) (by decide +kernel)) dX0_checkValue_5 ?_
    refine kTop (v' := nI 1000000) (by decide) ?_
    refine lv_icmp_le (tgt := 20) hx hb dX0_checkValue_7 (by decide) (fun c2 => ?_) (fun c2 => ?_)
    · skip
      exact vx_ret (kRetv hx hb hr hlocks dX0_checkValue_20 (Nat.le_of_ble_eq_true rfl) (Nat.le_of_ble_eq_true rfl) hK hS hP hD ⟨rfl, (inR_le (n := 1000000) (by decide)).mpr ⟨c1, c2⟩⟩)
    · skip
      exact kThrowA hx hb htr (hml.trans hl.1.symm) hown hts hZ hno hlocks (by decide +kernel) (by decide +kernel) (is := 107) (text := "this is no value") (by decide +kernel) (by decide +kernel) dX0_checkValue_10 dX0_checkValue_13 dX0_checkValue_14 dX0_checkValue_16 dX0_checkValue_19 (Nat.le_of_ble_eq_true rfl) (Nat.le_of_ble_eq_true rfl) (Nat.le_of_ble_eq_true rfl) (Nat.le_of_ble_eq_true rfl) (Nat.le_of_ble_eq_true rfl) (Nat.le_of_ble_eq_true rfl) hK hS hP hD ⟨rfl, rfl, fun h => c2 ((inR_le (n := 1000000) (by decide)).mp h).2⟩

set_option maxHeartbeats 4000000 in
set_option maxRecDepth 100000 in
theorem pX0_startOfFrame (l : Launch) (D : va_G) (h0 h1 h2 : Nat) (cI : ClassId) (f g : Nat → Int32) (L : Nat) (ca : Int32) (n : Nat → Nat) (hok : okC g n) (mu k : Nat) (hmu : mu < 4) (hk : k ≤ 64) : Mi l yX0_startOfFrame wsX0_startOfFrame r0 D (tI cI) [.ref h0, .int (nI mu), .int (nI k)] (wX h0 h1 h2 cI f g (nI L) ca) (fun r u => u = wX h0 h1 h2 cI f g (nI L) ca ∧ r = nI (8 * (k + sN n mu))) := by
  refine Mi.of (cc := cX0_startOfFrame) (maxL := 5) (ty := .int) (by decide +kernel) rfl (Nat.le_of_ble_eq_true rfl) ?_
  rintro p e s m below meth c ls A ⟨hx, hb, hr, hml, hts, hown, hlocks, hnm, hP, hK, hD, hA, hS, hl⟩
  have hown : s.vm.findClass RX0 = some m.cls := hown
  have hl : lv_has ls 5 [(0, .ref h0), (1, .int (nI mu)), (2, .int (nI k))] := hl
  have hin : ∀ w ∈ wsX00, w ∈ wsX0_startOfFrame := by decide +kernel
  have hP : va_P D kC (wX h0 h1 h2 cI f g (nI L) ca) s.heap := hP
  have hD : va_D A (wX h0 h1 h2 cI f g (nI L) ca) := hD
  refine lv_iload_n hx hb dX0_startOfFrame_0 rfl (lv_at hl 2 rfl) ?_
  refine lv_istore_n (lv' := [(3, .int (nI k)), (0, .ref h0), (1, .int (nI mu)), (2, .int (nI k))]) hx hb dX0_startOfFrame_1 rfl hl (by decide) rfl (fun ls hl => ?_)
  refine lv_iconst (v := nI 0) hx hb dX0_startOfFrame_2 (by decide) ?_
  refine lv_istore (lv' := [(4, .int (nI 0)), (3, .int (nI k)), (0, .ref h0), (1, .int (nI mu)), (2, .int (nI k))]) hx hb dX0_startOfFrame_3 hl (by decide) rfl (fun ls hl => ?_)
  refine kLoop (Q := fun i => ∀  (ls : Array Slot) (H : Heap) (locs : List Loc), va_P D kC (wX h0 h1 h2 cI f g (nI L) ca) H → va_D A (wX h0 h1 h2 cI f g (nI L) ca) → va_S A s.heap H locs → lv_has ls 5 [(0, .ref h0), (1, .int (nI mu)), (3, .int (nI (k + sN n i))), (4, .int (nI i))] → W p l e r0 s m [.ref h0, .int (nI mu), .int (nI k)].toArray below meth c H locs 0 0 (MQ below (va_Qi (fun r u => u = wX h0 h1 h2 cI f g (nI L) ca ∧ r = nI (8 * (k + sN n mu))) (kB D (tI cI) A) A) [.ref h0, .int (nI mu), .int (nI k)].toArray s r0.cells r0.slots A) (F0 m 5 ls [])) (mu) ?_ (0) (Nat.zero_le _)  ls _ _  hP hD hS (by simpa [sN] using (lv_sub (l' := [(0, .ref h0), (1, .int (nI mu)), (3, .int (nI k)), (4, .int (nI 0))]) hl [2, 3, 1, 0] rfl))
  intro i hi ih  ls H locs  hP hD hS hl
  have hb1 : sN n i ≤ i * 64 := sN_le (fun q hq => (hok.2 q (by omega)).2)
  refine lv_iload hx hb dX0_startOfFrame_5 (lv_at hl 3 rfl) ?_
  refine lv_iload_n hx hb dX0_startOfFrame_7 rfl (lv_at hl 1 rfl) ?_
  refine kIge (a := i) (b := mu) (by omega) (by omega) (tgt := 27) hx hb dX0_startOfFrame_8 (by decide) (fun c1 => ?_) (fun c1 => ?_)
  · skip
    refine lv_iload_n hx hb dX0_startOfFrame_27 rfl (lv_at hl 2 rfl) ?_
    refine lv_bipush (v := nI 8) hx hb dX0_startOfFrame_28 (by decide) ?_
    refine kMul hx hb dX0_startOfFrame_30 ?_
    have hi2 : i = mu := by omega
    subst hi2
    exact (kReti hx hb hr hlocks dX0_startOfFrame_31 (Nat.le_of_ble_eq_true rfl) (Nat.le_of_ble_eq_true rfl) hK hS hP hD ⟨rfl, by rw [Nat.mul_comm]⟩)
  · skip
    refine lv_iload_n hx hb dX0_startOfFrame_11 rfl (lv_at hl 2 rfl) ?_
    refine lv_aload_n hx hb dX0_startOfFrame_12 rfl (lv_at hl 0 rfl) ?_
    refine va_get (D := D) (ci := 0) (v := .ref h2) (C := RX0) (T := TX0) (N := 4) hx hb hts hin hown hK hP 0 rfl rfl 1 (by decide) (hts (.fieldLink RX0 13 "FrameRow" "frameCounts" "[I") (by decide +kernel)) (fun _ h9 => h9) rfl dX0_startOfFrame_13 ?_
    refine lv_iload hx hb dX0_startOfFrame_16 (lv_at hl 3 rfl) ?_
    refine kLd hx hb hK hP 2 0 rfl rfl (j := i) (by omega) (by decide) dX0_startOfFrame_18 ?_
    refine kTop (v' := nI (n i)) (hok.1 i (by omega)) ?_
    refine kAdd hx hb dX0_startOfFrame_19 ?_
    refine lv_istore_n (lv' := [(3, .int (nI ((k + sN n i) + (n i)))), (0, .ref h0), (1, .int (nI mu)), (4, .int (nI i))]) hx hb dX0_startOfFrame_20 rfl hl (by decide) rfl (fun ls hl => ?_)
    refine lv_iinc (v := nI (i + 1)) (lv' := [(4, .int (nI (i + 1))), (3, .int (nI ((k + sN n i) + (n i)))), (0, .ref h0), (1, .int (nI mu))]) hx hb dX0_startOfFrame_21 hl (k := 3) rfl (kInc1 _) (by decide) rfl (fun ls hl => ?_)
    refine lv_goto (tgt := 5) hx hb dX0_startOfFrame_24 (by decide) ?_
    exact ih c1  ls _ _  hP hD hS (by simpa [sN, Nat.add_assoc] using (lv_sub (l' := [(0, .ref h0), (1, .int (nI mu)), (3, .int (nI ((k + sN n i) + (n i)))), (4, .int (nI (i + 1)))]) hl [2, 3, 1, 0] rfl))

set_option maxHeartbeats 4000000 in
set_option maxRecDepth 100000 in
theorem pX0_upperFrame (l : Launch) (D : va_G) (h0 h1 h2 : Nat) (cI : ClassId) (f g : Nat → Int32) (L : Nat) (ca : Int32) (n : Nat → Nat) (hok : okC g n) (mu : Nat) (hmu : mu < 4) : Mi l yX0_upperFrame wsX0_upperFrame r1 D (tI cI) [.ref h0, .int (nI mu)] (wX h0 h1 h2 cI f g (nI L) ca) (fun r u => u = wX h0 h1 h2 cI f g (nI L) ca ∧ r = nI (8 * (n mu - 1 + sN n mu))) := by
  refine Mi.of (cc := cX0_upperFrame) (maxL := 2) (ty := .int) (by decide +kernel) rfl (Nat.le_of_ble_eq_true rfl) ?_
  rintro p e s m below meth c ls A ⟨hx, hb, hr, hml, hts, hown, hlocks, hnm, hP, hK, hD, hA, hS, hl⟩
  have hown : s.vm.findClass RX0 = some m.cls := hown
  have hl : lv_has ls 2 [(0, .ref h0), (1, .int (nI mu))] := hl
  have hin : ∀ w ∈ wsX00, w ∈ wsX0_upperFrame := by decide +kernel
  have hP : va_P D kC (wX h0 h1 h2 cI f g (nI L) ca) s.heap := hP
  have hD : va_D A (wX h0 h1 h2 cI f g (nI L) ca) := hD
  have hm := hok.2 mu hmu
  refine lv_aload_n hx hb dX0_upperFrame_0 rfl (lv_at hl 0 rfl) ?_
  refine lv_iload_n hx hb dX0_upperFrame_1 rfl (lv_at hl 1 rfl) ?_
  refine lv_aload_n hx hb dX0_upperFrame_2 rfl (lv_at hl 0 rfl) ?_
  refine va_get (D := D) (ci := 0) (v := .ref h2) (C := RX0) (T := TX0) (N := 4) hx hb hts hin hown hK hP 0 rfl rfl 1 (by decide) (hts (.fieldLink RX0 13 "FrameRow" "frameCounts" "[I") (by decide +kernel)) (fun _ h9 => h9) rfl dX0_upperFrame_3 ?_
  refine lv_iload_n hx hb dX0_upperFrame_6 rfl (lv_at hl 1 rfl) ?_
  refine kLd hx hb hK hP 2 0 rfl rfl (j := mu) (by omega) (by decide) dX0_upperFrame_7 ?_
  refine kTop (v' := nI (n mu)) (hok.1 mu hmu) ?_
  refine lv_iconst (v := nI 1) hx hb dX0_upperFrame_8 (by decide) ?_
  refine kSub (by omega) hx hb dX0_upperFrame_9 ?_
  refine cVi (wr := []) (As := [.int (nI mu), .int (nI ((n mu) - 1))]) (rest := []) ⟨hx, hb, hml, hown, hts⟩ (pX0_startOfFrame l D h0 h1 h2 cI f g L ca n hok mu (n mu - 1) hmu (by omega)) (cwV 2 hts gX0_upperFrame_X0_startOfFrame rfl rfl rfl (by decide +kernel) ⟨(Nat.le_of_ble_eq_true rfl), (Nat.le_of_ble_eq_true rfl)⟩) hK hP hD hS hA [0, 1, 2] [] rfl rfl (by decide) (by decide) (by decide) 0 rfl rfl rfl hl.1 rfl (Nat.le_of_ble_eq_true rfl) dX0_upperFrame_10 ⟨(Nat.le_of_ble_eq_true rfl), (Nat.le_of_ble_eq_true rfl)⟩ (fun r u H locs hw hP hD hS => ?_)
  obtain ⟨rfl, rfl⟩ := hw
  have hP : va_P D kC (wX h0 h1 h2 cI f g (nI L) ca) H := hP
  have hD : va_D A (wX h0 h1 h2 cI f g (nI L) ca) := hD
  exact (kReti hx hb hr hlocks dX0_upperFrame_13 (Nat.le_of_ble_eq_true rfl) (Nat.le_of_ble_eq_true rfl) hK hS hP hD ⟨rfl, rfl⟩)

set_option maxHeartbeats 4000000 in
set_option maxRecDepth 100000 in
theorem pX0_indexOfPlace (l : Launch) (D : va_G) (h0 h1 h2 : Nat) (cI : ClassId) (f g : Nat → Int32) (L : Nat) (ca : Int32) (n : Nat → Nat) (hok : okC g n) (hlen : L = lenN n) (mu a : Nat) (hmu : mu < 4) (ha : a < 24) : Mi l yX0_indexOfPlace wsX0_indexOfPlace r2 D (tI cI) [.ref h0, .int (nI mu), .int (nI a)] (wX h0 h1 h2 cI f g (nI L) ca) (fun r u => u = wX h0 h1 h2 cI f g (nI L) ca ∧ r = nI (if a < 8 then 8 * (n mu - 1 + sN n mu) + a else 8 * sN n 4 + (a - 8))) := by
  refine Mi.of (cc := cX0_indexOfPlace) (maxL := 3) (ty := .int) (by decide +kernel) rfl (Nat.le_of_ble_eq_true rfl) ?_
  rintro p e s m below meth c ls A ⟨hx, hb, hr, hml, hts, hown, hlocks, hnm, hP, hK, hD, hA, hS, hl⟩
  have hown : s.vm.findClass RX0 = some m.cls := hown
  have hl : lv_has ls 3 [(0, .ref h0), (1, .int (nI mu)), (2, .int (nI a))] := hl
  have hin : ∀ w ∈ wsX00, w ∈ wsX0_indexOfPlace := by decide +kernel
  have hP : va_P D kC (wX h0 h1 h2 cI f g (nI L) ca) s.heap := hP
  have hD : va_D A (wX h0 h1 h2 cI f g (nI L) ca) := hD
  refine lv_iload_n hx hb dX0_indexOfPlace_0 rfl (lv_at hl 2 rfl) ?_
  refine lv_bipush (v := nI 8) hx hb dX0_indexOfPlace_1 (by decide) ?_
  refine kIge (a := a) (b := 8) (by omega) (by omega) (tgt := 14) hx hb dX0_indexOfPlace_3 (by decide) (fun c1 => ?_) (fun c1 => ?_)
  · skip
    have hle := hok.le
    have hge := hok.ge
    refine lv_aload_n hx hb dX0_indexOfPlace_14 rfl (lv_at hl 0 rfl) ?_
    refine va_get (D := D) (ci := 0) (v := .int (nI L)) (C := RX0) (T := TX0) (N := 4) hx hb hts hin hown hK hP 0 rfl rfl 2 (by decide) (hts (.fieldLink RX0 22 "FrameRow" "length" "I") (by decide +kernel)) (fun _ h9 => h9) rfl dX0_indexOfPlace_15 ?_
    refine lv_bipush (v := nI 24) hx hb dX0_indexOfPlace_18 (by decide) ?_
    refine kSub (by rw [hlen]; unfold lenN; omega) hx hb dX0_indexOfPlace_20 ?_
    refine lv_iload_n hx hb dX0_indexOfPlace_21 rfl (lv_at hl 2 rfl) ?_
    refine kAdd hx hb dX0_indexOfPlace_22 ?_
    exact (kReti hx hb hr hlocks dX0_indexOfPlace_23 (Nat.le_of_ble_eq_true rfl) (Nat.le_of_ble_eq_true rfl) hK hS hP hD ⟨rfl, by rw [if_neg (by omega)]; congr 1; rw [hlen]; unfold lenN; omega⟩)
  · skip
    refine lv_aload_n hx hb dX0_indexOfPlace_6 rfl (lv_at hl 0 rfl) ?_
    refine lv_iload_n hx hb dX0_indexOfPlace_7 rfl (lv_at hl 1 rfl) ?_
    refine cVi (wr := []) (As := [.int (nI mu)]) (rest := []) ⟨hx, hb, hml, hown, hts⟩ (pX0_upperFrame l D h0 h1 h2 cI f g L ca n hok mu hmu) (cwV 1 hts gX0_indexOfPlace_X0_upperFrame rfl rfl rfl (by decide +kernel) ⟨(Nat.le_of_ble_eq_true rfl), (Nat.le_of_ble_eq_true rfl)⟩) hK hP hD hS hA [0, 1, 2] [] rfl rfl (by decide) (by decide) (by decide) 0 rfl rfl rfl hl.1 rfl (Nat.le_of_ble_eq_true rfl) dX0_indexOfPlace_8 ⟨(Nat.le_of_ble_eq_true rfl), (Nat.le_of_ble_eq_true rfl)⟩ (fun r u H locs hw hP hD hS => ?_)
    obtain ⟨rfl, rfl⟩ := hw
    have hP : va_P D kC (wX h0 h1 h2 cI f g (nI L) ca) H := hP
    have hD : va_D A (wX h0 h1 h2 cI f g (nI L) ca) := hD
    refine lv_iload_n hx hb dX0_indexOfPlace_11 rfl (lv_at hl 2 rfl) ?_
    refine kAdd hx hb dX0_indexOfPlace_12 ?_
    exact (kReti hx hb hr hlocks dX0_indexOfPlace_13 (Nat.le_of_ble_eq_true rfl) (Nat.le_of_ble_eq_true rfl) hK hS hP hD ⟨rfl, by rw [if_pos c1]⟩)

set_option maxHeartbeats 4000000 in
set_option maxRecDepth 100000 in
theorem pX0_countOf (l : Launch) (D : va_G) (h0 h1 h2 : Nat) (cI : ClassId) (f g : Nat → Int32) (L : Nat) (ca : Int32) (hL : L ≤ 2064) (v : Int32) : Mi l yX0_countOf wsX0_countOf r0 D (tI cI) [.ref h0, .int v] (wX h0 h1 h2 cI f g (nI L) ca) (fun r u => u = wX h0 h1 h2 cI f g (nI L) ca ∧ r = nI ((rw_ f L).count v)) := by
  refine Mi.of (cc := cX0_countOf) (maxL := 4) (ty := .int) (by decide +kernel) rfl (Nat.le_of_ble_eq_true rfl) ?_
  rintro p e s m below meth c ls A ⟨hx, hb, hr, hml, hts, hown, hlocks, hnm, hP, hK, hD, hA, hS, hl⟩
  have hown : s.vm.findClass RX0 = some m.cls := hown
  have hl : lv_has ls 4 [(0, .ref h0), (1, .int v)] := hl
  have hin : ∀ w ∈ wsX00, w ∈ wsX0_countOf := by decide +kernel
  have hP : va_P D kC (wX h0 h1 h2 cI f g (nI L) ca) s.heap := hP
  have hD : va_D A (wX h0 h1 h2 cI f g (nI L) ca) := hD
  refine lv_iconst (v := nI 0) hx hb dX0_countOf_0 (by decide) ?_
  refine lv_istore_n (lv' := [(2, .int (nI 0)), (0, .ref h0), (1, .int v)]) hx hb dX0_countOf_1 rfl hl (by decide) rfl (fun ls hl => ?_)
  refine lv_iconst (v := nI 0) hx hb dX0_countOf_2 (by decide) ?_
  refine lv_istore_n (lv' := [(3, .int (nI 0)), (2, .int (nI 0)), (0, .ref h0), (1, .int v)]) hx hb dX0_countOf_3 rfl hl (by decide) rfl (fun ls hl => ?_)
  refine kLoop (Q := fun i => ∀  (ls : Array Slot) (H : Heap) (locs : List Loc), va_P D kC (wX h0 h1 h2 cI f g (nI L) ca) H → va_D A (wX h0 h1 h2 cI f g (nI L) ca) → va_S A s.heap H locs → lv_has ls 4 [(0, .ref h0), (1, .int v), (2, .int (nI ((rw_ f i).count v))), (3, .int (nI i))] → W p l e r0 s m [.ref h0, .int v].toArray below meth c H locs 0 0 (MQ below (va_Qi (fun r u => u = wX h0 h1 h2 cI f g (nI L) ca ∧ r = nI ((rw_ f L).count v)) (kB D (tI cI) A) A) [.ref h0, .int v].toArray s r0.cells r0.slots A) (F0 m 4 ls [])) (L) ?_ (0) (Nat.zero_le _)  ls _ _  hP hD hS (lv_sub hl [2, 3, 1, 0] rfl)
  intro i hi ih  ls H locs  hP hD hS hl
  have hc := rw_count_le f i v
  refine lv_iload_n hx hb dX0_countOf_4 rfl (lv_at hl 3 rfl) ?_
  refine lv_aload_n hx hb dX0_countOf_5 rfl (lv_at hl 0 rfl) ?_
  refine va_get (D := D) (ci := 0) (v := .int (nI L)) (C := RX0) (T := TX0) (N := 4) hx hb hts hin hown hK hP 0 rfl rfl 2 (by decide) (hts (.fieldLink RX0 22 "FrameRow" "length" "I") (by decide +kernel)) (fun _ h9 => h9) rfl dX0_countOf_6 ?_
  refine kIge (a := i) (b := L) (by omega) (by omega) (tgt := 31) hx hb dX0_countOf_9 (by decide) (fun c1 => ?_) (fun c1 => ?_)
  · skip
    refine lv_iload_n hx hb dX0_countOf_31 rfl (lv_at hl 2 rfl) ?_
    have hi2 : i = L := by omega
    subst hi2
    exact (kReti hx hb hr hlocks dX0_countOf_32 (Nat.le_of_ble_eq_true rfl) (Nat.le_of_ble_eq_true rfl) hK hS hP hD ⟨rfl, rfl⟩)
  · skip
    refine lv_aload_n hx hb dX0_countOf_12 rfl (lv_at hl 0 rfl) ?_
    refine va_get (D := D) (ci := 0) (v := .ref h1) (C := RX0) (T := TX0) (N := 4) hx hb hts hin hown hK hP 0 rfl rfl 0 (by decide) (hts (.fieldLink RX0 9 "FrameRow" "row" "[I") (by decide +kernel)) (fun _ h9 => h9) rfl dX0_countOf_13 ?_
    refine lv_iload_n hx hb dX0_countOf_16 rfl (lv_at hl 3 rfl) ?_
    refine kLd hx hb hK hP 1 0 rfl rfl (j := i) (by omega) (by decide) dX0_countOf_17 ?_
    refine lv_iload_n hx hb dX0_countOf_18 rfl (lv_at hl 1 rfl) ?_
    refine lv_icmp_ne (tgt := 25) hx hb dX0_countOf_19 (by decide) (fun c2 => ?_) (fun c2 => ?_)
    · skip
      refine lv_iinc (v := nI (i + 1)) (lv' := [(3, .int (nI (i + 1))), (0, .ref h0), (1, .int v), (2, .int (nI ((rw_ f i).count v)))]) hx hb dX0_countOf_25 hl (k := 3) rfl (kInc1 _) (by decide) rfl (fun ls hl => ?_)
      refine lv_goto (tgt := 4) hx hb dX0_countOf_28 (by decide) ?_
      exact ih c1  ls _ _  hP hD hS (by have h := (lv_sub (l' := [(0, .ref h0), (1, .int v), (2, .int (nI ((rw_ f i).count v))), (3, .int (nI (i + 1)))]) hl [1, 2, 3, 0] rfl); rw [show (rw_ f (i + 1)).count v = (rw_ f i).count v by rw [rw_succ, List.count_append, List.count_cons_of_ne c2, List.count_nil]; rfl]; exact h)
    · skip
      refine lv_iinc (v := nI ((rw_ f i).count v + 1)) (lv' := [(2, .int (nI ((rw_ f i).count v + 1))), (0, .ref h0), (1, .int v), (3, .int (nI i))]) hx hb dX0_countOf_22 hl (k := 2) rfl (kInc1 _) (by decide) rfl (fun ls hl => ?_)
      refine lv_iinc (v := nI (i + 1)) (lv' := [(3, .int (nI (i + 1))), (2, .int (nI ((rw_ f i).count v + 1))), (0, .ref h0), (1, .int v)]) hx hb dX0_countOf_25 hl (k := 3) rfl (kInc1 _) (by decide) rfl (fun ls hl => ?_)
      refine lv_goto (tgt := 4) hx hb dX0_countOf_28 (by decide) ?_
      exact ih c1  ls _ _  hP hD hS (by have h := (lv_sub (l' := [(0, .ref h0), (1, .int v), (2, .int (nI ((rw_ f i).count v + 1))), (3, .int (nI (i + 1)))]) hl [2, 3, 1, 0] rfl); rw [show (rw_ f (i + 1)).count v = (rw_ f i).count v + 1 by rw [rw_succ, List.count_append, c2, List.count_cons_self, List.count_nil]]; exact h)

set_option maxHeartbeats 4000000 in
set_option maxRecDepth 100000 in
theorem pX0_replace (l : Launch) (D : va_G) (h0 h1 h2 : Nat) (cI : ClassId) (f g : Nat → Int32) (L : Nat) (ca : Int32) (hL : L ≤ 2064) (a : Nat) (ha : a ≤ L) (v w : Int32) : Mi l yX0_replace wsX0_replace r0 D (tI cI) [.ref h0, .int (nI a), .int v, .int w] (wX h0 h1 h2 cI f g (nI L) ca) (fun r u => u = wX h0 h1 h2 cI (fun t => if a ≤ t ∧ t < L ∧ f t = v then w else f t) g (nI L) ca ∧ r = nI ((rw_ f L).count v - (rw_ f a).count v)) := by
  refine Mi.of (cc := cX0_replace) (maxL := 6) (ty := .int) (by decide +kernel) rfl (Nat.le_of_ble_eq_true rfl) ?_
  rintro p e s m below meth c ls A ⟨hx, hb, hr, hml, hts, hown, hlocks, hnm, hP, hK, hD, hA, hS, hl⟩
  have hown : s.vm.findClass RX0 = some m.cls := hown
  have hl : lv_has ls 6 [(0, .ref h0), (1, .int (nI a)), (2, .int v), (3, .int w)] := hl
  have hin : ∀ w ∈ wsX00, w ∈ wsX0_replace := by decide +kernel
  have hP : va_P D kC (wX h0 h1 h2 cI f g (nI L) ca) s.heap := hP
  have hD : va_D A (wX h0 h1 h2 cI f g (nI L) ca) := hD
  refine lv_iconst (v := nI 0) hx hb dX0_replace_0 (by decide) ?_
  refine lv_istore (lv' := [(4, .int (nI 0)), (0, .ref h0), (1, .int (nI a)), (2, .int v), (3, .int w)]) hx hb dX0_replace_1 hl (by decide) rfl (fun ls hl => ?_)
  refine lv_iload_n hx hb dX0_replace_3 rfl (lv_at hl 2 rfl) ?_
  refine lv_istore (lv' := [(5, .int (nI a)), (4, .int (nI 0)), (0, .ref h0), (1, .int (nI a)), (2, .int v), (3, .int w)]) hx hb dX0_replace_4 hl (by decide) rfl (fun ls hl => ?_)
  have hP : va_P D kC (wX h0 h1 h2 cI ((fun t => if a ≤ t ∧ t < a ∧ f t = v then w else f t)) g (nI L) ca) s.heap := by rw [rp_start]; exact hP
  have hD : va_D A (wX h0 h1 h2 cI ((fun t => if a ≤ t ∧ t < a ∧ f t = v then w else f t)) g (nI L) ca) := by rw [rp_start]; exact hD
  refine kLoop (Q := fun i => ∀  (ls : Array Slot) (H : Heap) (locs : List Loc), a ≤ i → va_P D kC (wX h0 h1 h2 cI ((fun t => if a ≤ t ∧ t < i ∧ f t = v then w else f t)) g (nI L) ca) H → va_D A (wX h0 h1 h2 cI ((fun t => if a ≤ t ∧ t < i ∧ f t = v then w else f t)) g (nI L) ca) → va_S A s.heap H locs → lv_has ls 6 [(0, .ref h0), (2, .int v), (3, .int w), (4, .int (nI ((rw_ f i).count v - (rw_ f a).count v))), (5, .int (nI i))] → W p l e r0 s m [.ref h0, .int (nI a), .int v, .int w].toArray below meth c H locs 0 0 (MQ below (va_Qi (fun r u => u = wX h0 h1 h2 cI (fun t => if a ≤ t ∧ t < L ∧ f t = v then w else f t) g (nI L) ca ∧ r = nI ((rw_ f L).count v - (rw_ f a).count v)) (kB D (tI cI) A) A) [.ref h0, .int (nI a), .int v, .int w].toArray s r0.cells r0.slots A) (F0 m 6 ls [])) (L) ?_ (a)  ha ls _ _ (Nat.le_refl a) hP hD hS (by rw [Nat.sub_self]; exact (lv_sub (l' := [(0, .ref h0), (2, .int v), (3, .int w), (4, .int (nI 0)), (5, .int (nI a))]) hl [2, 4, 5, 1, 0] rfl))
  intro i hi ih  ls H locs hai hP hD hS hl
  have hc := rw_count_le f i v
  refine lv_iload hx hb dX0_replace_6 (lv_at hl 4 rfl) ?_
  refine lv_aload_n hx hb dX0_replace_8 rfl (lv_at hl 0 rfl) ?_
  refine va_get (D := D) (ci := 0) (v := .int (nI L)) (C := RX0) (T := TX0) (N := 4) hx hb hts hin hown hK hP 0 rfl rfl 2 (by decide) (hts (.fieldLink RX0 22 "FrameRow" "length" "I") (by decide +kernel)) (fun _ h9 => h9) rfl dX0_replace_9 ?_
  refine kIge (a := i) (b := L) (by omega) (by omega) (tgt := 43) hx hb dX0_replace_12 (by decide) (fun c1 => ?_) (fun c1 => ?_)
  · skip
    refine lv_iload hx hb dX0_replace_43 (lv_at hl 3 rfl) ?_
    have hi2 : i = L := by omega
    subst hi2
    exact (kReti hx hb hr hlocks dX0_replace_45 (Nat.le_of_ble_eq_true rfl) (Nat.le_of_ble_eq_true rfl) hK hS hP hD ⟨rfl, rfl⟩)
  · skip
    refine lv_aload_n hx hb dX0_replace_15 rfl (lv_at hl 0 rfl) ?_
    refine va_get (D := D) (ci := 0) (v := .ref h1) (C := RX0) (T := TX0) (N := 4) hx hb hts hin hown hK hP 0 rfl rfl 0 (by decide) (hts (.fieldLink RX0 9 "FrameRow" "row" "[I") (by decide +kernel)) (fun _ h9 => h9) rfl dX0_replace_16 ?_
    refine lv_iload hx hb dX0_replace_19 (lv_at hl 4 rfl) ?_
    refine kLd hx hb hK hP 1 0 rfl rfl (j := i) (by omega) (by decide) dX0_replace_21 ?_
    refine kTop (v' := f i) (if_neg (by omega)) ?_
    refine lv_iload_n hx hb dX0_replace_22 rfl (lv_at hl 1 rfl) ?_
    refine lv_icmp_ne (tgt := 37) hx hb dX0_replace_23 (by decide) (fun c2 => ?_) (fun c2 => ?_)
    · skip
      refine lv_iinc (v := nI (i + 1)) (lv' := [(5, .int (nI (i + 1))), (0, .ref h0), (2, .int v), (3, .int w), (4, .int (nI ((rw_ f i).count v - (rw_ f a).count v)))]) hx hb dX0_replace_37 hl (k := 4) rfl (kInc1 _) (by decide) rfl (fun ls hl => ?_)
      refine lv_goto (tgt := 6) hx hb dX0_replace_40 (by decide) ?_
      rw [rp_keep c2] at hP hD
      exact ih c1  ls _ _ (by omega) hP hD hS (by have h := (lv_sub (l' := [(0, .ref h0), (2, .int v), (3, .int w), (4, .int (nI ((rw_ f i).count v - (rw_ f a).count v))), (5, .int (nI (i + 1)))]) hl [1, 2, 3, 4, 0] rfl); rw [show (rw_ f (i + 1)).count v = (rw_ f i).count v by rw [rw_succ, List.count_append, List.count_cons_of_ne c2, List.count_nil]; rfl]; exact h)
    · skip
      refine lv_aload_n hx hb dX0_replace_26 rfl (lv_at hl 0 rfl) ?_
      refine va_get (D := D) (ci := 0) (v := .ref h1) (C := RX0) (T := TX0) (N := 4) hx hb hts hin hown hK hP 0 rfl rfl 0 (by decide) (hts (.fieldLink RX0 9 "FrameRow" "row" "[I") (by decide +kernel)) (fun _ h9 => h9) rfl dX0_replace_27 ?_
      refine lv_iload hx hb dX0_replace_30 (lv_at hl 4 rfl) ?_
      refine lv_iload_n hx hb dX0_replace_32 rfl (lv_at hl 2 rfl) ?_
      refine kSt hx hb hK hP hD hS 1 0 rfl rfl (j := i) (by omega) (by decide) dX0_replace_33 (fun H locs hP hD hS => ?_)
      have hP : va_P D kC (wX h0 h1 h2 cI (upd ((fun t => if a ≤ t ∧ t < i ∧ f t = v then w else f t)) i w) g (nI L) ca) H := hP
      have hD : va_D A (wX h0 h1 h2 cI (upd ((fun t => if a ≤ t ∧ t < i ∧ f t = v then w else f t)) i w) g (nI L) ca) := hD
      rw [rp_put hai c2] at hP hD
      refine lv_iinc (v := nI ((rw_ f i).count v - (rw_ f a).count v + 1)) (lv' := [(4, .int (nI ((rw_ f i).count v - (rw_ f a).count v + 1))), (0, .ref h0), (2, .int v), (3, .int w), (5, .int (nI i))]) hx hb dX0_replace_34 hl (k := 3) rfl (kInc1 _) (by decide) rfl (fun ls hl => ?_)
      refine lv_iinc (v := nI (i + 1)) (lv' := [(5, .int (nI (i + 1))), (4, .int (nI ((rw_ f i).count v - (rw_ f a).count v + 1))), (0, .ref h0), (2, .int v), (3, .int w)]) hx hb dX0_replace_37 hl (k := 4) rfl (kInc1 _) (by decide) rfl (fun ls hl => ?_)
      refine lv_goto (tgt := 6) hx hb dX0_replace_40 (by decide) ?_
      exact ih c1  ls _ _ (by omega) hP hD hS (by have h := (lv_sub (l' := [(0, .ref h0), (2, .int v), (3, .int w), (4, .int (nI ((rw_ f i).count v - (rw_ f a).count v + 1))), (5, .int (nI (i + 1)))]) hl [2, 3, 4, 1, 0] rfl); rw [show (rw_ f (i + 1)).count v - (rw_ f a).count v = (rw_ f i).count v - (rw_ f a).count v + 1 by rw [rw_succ, List.count_append, c2, List.count_cons_self, List.count_nil]; have := rw_count_mono f v hai; omega]; exact h)

set_option maxHeartbeats 4000000 in
set_option maxRecDepth 100000 in
theorem pX0_framesOfAll (l : Launch) (D : va_G) (h0 h1 h2 : Nat) (cI : ClassId) (f g : Nat → Int32) (L : Nat) (ca : Int32) (n : Nat → Nat) (hok : okC g n) : Mi l yX0_framesOfAll wsX0_framesOfAll r0 D (tI cI) [.ref h0] (wX h0 h1 h2 cI f g (nI L) ca) (fun r u => u = wX h0 h1 h2 cI f g (nI L) ca ∧ r = nI (sN n 4)) := by
  refine Mi.of (cc := cX0_framesOfAll) (maxL := 3) (ty := .int) (by decide +kernel) rfl (Nat.le_of_ble_eq_true rfl) ?_
  rintro p e s m below meth c ls A ⟨hx, hb, hr, hml, hts, hown, hlocks, hnm, hP, hK, hD, hA, hS, hl⟩
  have hown : s.vm.findClass RX0 = some m.cls := hown
  have hl : lv_has ls 3 [(0, .ref h0)] := hl
  have hin : ∀ w ∈ wsX00, w ∈ wsX0_framesOfAll := by decide +kernel
  have hP : va_P D kC (wX h0 h1 h2 cI f g (nI L) ca) s.heap := hP
  have hD : va_D A (wX h0 h1 h2 cI f g (nI L) ca) := hD
  refine lv_iconst (v := nI 0) hx hb dX0_framesOfAll_0 (by decide) ?_
  refine lv_istore_n (lv' := [(1, .int (nI 0)), (0, .ref h0)]) hx hb dX0_framesOfAll_1 rfl hl (by decide) rfl (fun ls hl => ?_)
  refine lv_iconst (v := nI 0) hx hb dX0_framesOfAll_2 (by decide) ?_
  refine lv_istore_n (lv' := [(2, .int (nI 0)), (1, .int (nI 0)), (0, .ref h0)]) hx hb dX0_framesOfAll_3 rfl hl (by decide) rfl (fun ls hl => ?_)
  refine kLoop (Q := fun i => ∀  (ls : Array Slot) (H : Heap) (locs : List Loc), va_P D kC (wX h0 h1 h2 cI f g (nI L) ca) H → va_D A (wX h0 h1 h2 cI f g (nI L) ca) → va_S A s.heap H locs → lv_has ls 3 [(0, .ref h0), (1, .int (nI (sN n i))), (2, .int (nI i))] → W p l e r0 s m [.ref h0].toArray below meth c H locs 0 0 (MQ below (va_Qi (fun r u => u = wX h0 h1 h2 cI f g (nI L) ca ∧ r = nI (sN n 4)) (kB D (tI cI) A) A) [.ref h0].toArray s r0.cells r0.slots A) (F0 m 4 ls [])) (4) ?_ (0) (Nat.zero_le _)  ls _ _  hP hD hS (lv_sub hl [2, 1, 0] rfl)
  intro i hi ih  ls H locs  hP hD hS hl
  refine lv_iload_n hx hb dX0_framesOfAll_4 rfl (lv_at hl 2 rfl) ?_
  refine lv_iconst (v := nI 4) hx hb dX0_framesOfAll_5 (by decide) ?_
  refine kIge (a := i) (b := 4) (by omega) (by omega) (tgt := 24) hx hb dX0_framesOfAll_6 (by decide) (fun c1 => ?_) (fun c1 => ?_)
  · skip
    refine lv_iload_n hx hb dX0_framesOfAll_24 rfl (lv_at hl 1 rfl) ?_
    have hi2 : i = 4 := by omega
    subst hi2
    exact (kReti hx hb hr hlocks dX0_framesOfAll_25 (Nat.le_of_ble_eq_true rfl) (Nat.le_of_ble_eq_true rfl) hK hS hP hD ⟨rfl, rfl⟩)
  · skip
    refine lv_iload_n hx hb dX0_framesOfAll_9 rfl (lv_at hl 1 rfl) ?_
    refine lv_aload_n hx hb dX0_framesOfAll_10 rfl (lv_at hl 0 rfl) ?_
    refine va_get (D := D) (ci := 0) (v := .ref h2) (C := RX0) (T := TX0) (N := 4) hx hb hts hin hown hK hP 0 rfl rfl 1 (by decide) (hts (.fieldLink RX0 13 "FrameRow" "frameCounts" "[I") (by decide +kernel)) (fun _ h9 => h9) rfl dX0_framesOfAll_11 ?_
    refine lv_iload_n hx hb dX0_framesOfAll_14 rfl (lv_at hl 2 rfl) ?_
    refine kLd hx hb hK hP 2 0 rfl rfl (j := i) (by omega) (by decide) dX0_framesOfAll_15 ?_
    refine kTop (v' := nI (n i)) (hok.1 i c1) ?_
    refine kAdd hx hb dX0_framesOfAll_16 ?_
    refine lv_istore_n (lv' := [(1, .int (nI ((sN n i) + (n i)))), (0, .ref h0), (2, .int (nI i))]) hx hb dX0_framesOfAll_17 rfl hl (by decide) rfl (fun ls hl => ?_)
    refine lv_iinc (v := nI (i + 1)) (lv' := [(2, .int (nI (i + 1))), (1, .int (nI ((sN n i) + (n i)))), (0, .ref h0)]) hx hb dX0_framesOfAll_18 hl (k := 2) rfl (kInc1 _) (by decide) rfl (fun ls hl => ?_)
    refine lv_goto (tgt := 4) hx hb dX0_framesOfAll_21 (by decide) ?_
    exact ih c1  ls _ _  hP hD hS (lv_sub (l' := [(0, .ref h0), (1, .int (nI ((sN n i) + (n i)))), (2, .int (nI (i + 1)))]) hl [2, 1, 0] rfl)

set_option maxHeartbeats 4000000 in
set_option maxRecDepth 100000 in
theorem pX0_mostFrames (l : Launch) (D : va_G) (h0 h1 h2 : Nat) (cI : ClassId) (f g : Nat → Int32) (L : Nat) (ca : Int32) (n : Nat → Nat) (hok : okC g n) : Mi l yX0_mostFrames wsX0_mostFrames r1 D (tI cI) [.ref h0] (wX h0 h1 h2 cI f g (nI L) ca) (fun r u => u = wX h0 h1 h2 cI f g (nI L) ca ∧ r = nI (mxN n 4)) := by
  refine Mi.of (cc := cX0_mostFrames) (maxL := 3) (ty := .int) (by decide +kernel) rfl (Nat.le_of_ble_eq_true rfl) ?_
  rintro p e s m below meth c ls A ⟨hx, hb, hr, hml, hts, hown, hlocks, hnm, hP, hK, hD, hA, hS, hl⟩
  have hown : s.vm.findClass RX0 = some m.cls := hown
  have hl : lv_has ls 3 [(0, .ref h0)] := hl
  have hin : ∀ w ∈ wsX00, w ∈ wsX0_mostFrames := by decide +kernel
  have hP : va_P D kC (wX h0 h1 h2 cI f g (nI L) ca) s.heap := hP
  have hD : va_D A (wX h0 h1 h2 cI f g (nI L) ca) := hD
  refine lv_iconst (v := nI 0) hx hb dX0_mostFrames_0 (by decide) ?_
  refine lv_istore_n (lv' := [(1, .int (nI 0)), (0, .ref h0)]) hx hb dX0_mostFrames_1 rfl hl (by decide) rfl (fun ls hl => ?_)
  refine lv_iconst (v := nI 0) hx hb dX0_mostFrames_2 (by decide) ?_
  refine lv_istore_n (lv' := [(2, .int (nI 0)), (1, .int (nI 0)), (0, .ref h0)]) hx hb dX0_mostFrames_3 rfl hl (by decide) rfl (fun ls hl => ?_)
  refine kLoop (Q := fun i => ∀  (ls : Array Slot) (H : Heap) (locs : List Loc), va_P D kC (wX h0 h1 h2 cI f g (nI L) ca) H → va_D A (wX h0 h1 h2 cI f g (nI L) ca) → va_S A s.heap H locs → lv_has ls 3 [(0, .ref h0), (1, .int (nI (mxN n i))), (2, .int (nI i))] → W p l e r1 s m [.ref h0].toArray below meth c H locs 0 0 (MQ below (va_Qi (fun r u => u = wX h0 h1 h2 cI f g (nI L) ca ∧ r = nI (mxN n 4)) (kB D (tI cI) A) A) [.ref h0].toArray s r1.cells r1.slots A) (F0 m 4 ls [])) (4) ?_ (0) (Nat.zero_le _)  ls _ _  hP hD hS (lv_sub hl [2, 1, 0] rfl)
  intro i hi ih  ls H locs  hP hD hS hl
  have hb1 : mxN n i ≤ 64 := mxN_le (fun q hq => (hok.2 q (by omega)).2)
  refine lv_iload_n hx hb dX0_mostFrames_4 rfl (lv_at hl 2 rfl) ?_
  refine lv_iconst (v := nI 4) hx hb dX0_mostFrames_5 (by decide) ?_
  refine kIge (a := i) (b := 4) (by omega) (by omega) (tgt := 26) hx hb dX0_mostFrames_6 (by decide) (fun c1 => ?_) (fun c1 => ?_)
  · skip
    refine lv_iload_n hx hb dX0_mostFrames_26 rfl (lv_at hl 1 rfl) ?_
    have hi2 : i = 4 := by omega
    subst hi2
    exact (kReti hx hb hr hlocks dX0_mostFrames_27 (Nat.le_of_ble_eq_true rfl) (Nat.le_of_ble_eq_true rfl) hK hS hP hD ⟨rfl, rfl⟩)
  · skip
    have hb2 := hok.2 i c1
    refine lv_iload_n hx hb dX0_mostFrames_9 rfl (lv_at hl 1 rfl) ?_
    refine lv_aload_n hx hb dX0_mostFrames_10 rfl (lv_at hl 0 rfl) ?_
    refine va_get (D := D) (ci := 0) (v := .ref h2) (C := RX0) (T := TX0) (N := 4) hx hb hts hin hown hK hP 0 rfl rfl 1 (by decide) (hts (.fieldLink RX0 13 "FrameRow" "frameCounts" "[I") (by decide +kernel)) (fun _ h9 => h9) rfl dX0_mostFrames_11 ?_
    refine lv_iload_n hx hb dX0_mostFrames_14 rfl (lv_at hl 2 rfl) ?_
    refine kLd hx hb hK hP 2 0 rfl rfl (j := i) (by omega) (by decide) dX0_mostFrames_15 ?_
    refine kTop (v' := nI (n i)) (hok.1 i c1) ?_
    refine va_mmax hx hb (hml.trans hl.1.symm) hown (hts (.methodLink RX0 118 Lib.Math.max.name) (by decide +kernel)) (hts (.static Lib.Math.max.name) (by decide +kernel)) (hts (.initialized "java/lang/Math") (by decide +kernel)) (hts (.code Lib.Math.max.name Lib.Math.max.code 2 (some .int)) (by decide +kernel)) (Nat.le_of_ble_eq_true rfl) (Nat.le_of_ble_eq_true rfl) (Nat.le_of_ble_eq_true rfl) (Nat.le_of_ble_eq_true rfl) dX0_mostFrames_16 ?_
    refine kTop (v' := nI (mxN n (i + 1))) (mxN_step (by omega) (by omega)) ?_
    refine lv_istore_n (lv' := [(1, .int (nI (mxN n (i + 1)))), (0, .ref h0), (2, .int (nI i))]) hx hb dX0_mostFrames_19 rfl hl (by decide) rfl (fun ls hl => ?_)
    refine lv_iinc (v := nI (i + 1)) (lv' := [(2, .int (nI (i + 1))), (1, .int (nI (mxN n (i + 1)))), (0, .ref h0)]) hx hb dX0_mostFrames_20 hl (k := 2) rfl (kInc1 _) (by decide) rfl (fun ls hl => ?_)
    refine lv_goto (tgt := 4) hx hb dX0_mostFrames_23 (by decide) ?_
    exact ih c1  ls _ _  hP hD hS (lv_sub (l' := [(0, .ref h0), (1, .int (nI (mxN n (i + 1)))), (2, .int (nI (i + 1)))]) hl [2, 1, 0] rfl)

set_option maxHeartbeats 4000000 in
set_option maxRecDepth 100000 in
theorem pX0_isFirstOfItsValue (l : Launch) (D : va_G) (h0 h1 h2 : Nat) (cI : ClassId) (f g : Nat → Int32) (L : Nat) (ca : Int32) (hL : L ≤ 2064) (q : Nat) (hq : q < L) : Mi l yX0_isFirstOfItsValue wsX0_isFirstOfItsValue r0 D (tI cI) [.ref h0, .int (nI q)] (wX h0 h1 h2 cI f g (nI L) ca) (fun r u => u = wX h0 h1 h2 cI f g (nI L) ca ∧ r = if f q ∈ rw_ f q then nI 0 else nI 1) := by
  refine Mi.of (cc := cX0_isFirstOfItsValue) (maxL := 3) (ty := .boolean) (by decide +kernel) rfl (Nat.le_of_ble_eq_true rfl) ?_
  rintro p e s m below meth c ls A ⟨hx, hb, hr, hml, hts, hown, hlocks, hnm, hP, hK, hD, hA, hS, hl⟩
  have hown : s.vm.findClass RX0 = some m.cls := hown
  have hl : lv_has ls 3 [(0, .ref h0), (1, .int (nI q))] := hl
  have hin : ∀ w ∈ wsX00, w ∈ wsX0_isFirstOfItsValue := by decide +kernel
  have hP : va_P D kC (wX h0 h1 h2 cI f g (nI L) ca) s.heap := hP
  have hD : va_D A (wX h0 h1 h2 cI f g (nI L) ca) := hD
  refine lv_iconst (v := nI 0) hx hb dX0_isFirstOfItsValue_0 (by decide) ?_
  refine lv_istore_n (lv' := [(2, .int (nI 0)), (0, .ref h0), (1, .int (nI q))]) hx hb dX0_isFirstOfItsValue_1 rfl hl (by decide) rfl (fun ls hl => ?_)
  refine kLoop (Q := fun i => ∀  (ls : Array Slot) (H : Heap) (locs : List Loc), f q ∉ rw_ f i → va_P D kC (wX h0 h1 h2 cI f g (nI L) ca) H → va_D A (wX h0 h1 h2 cI f g (nI L) ca) → va_S A s.heap H locs → lv_has ls 3 [(0, .ref h0), (1, .int (nI q)), (2, .int (nI i))] → W p l e r0 s m [.ref h0, .int (nI q)].toArray below meth c H locs 0 0 (MQ below (va_Qi (fun r u => u = wX h0 h1 h2 cI f g (nI L) ca ∧ r = if f q ∈ rw_ f q then nI 0 else nI 1) (kB D (tI cI) A) A) [.ref h0, .int (nI q)].toArray s r0.cells r0.slots A) (F0 m 2 ls [])) (q) ?_ (0) (Nat.zero_le _)  ls _ _ (by rw [rw_zero]; exact List.not_mem_nil) hP hD hS (lv_sub hl [1, 2, 0] rfl)
  intro i hi ih  ls H locs hno hP hD hS hl
  refine lv_iload_n hx hb dX0_isFirstOfItsValue_2 rfl (lv_at hl 2 rfl) ?_
  refine lv_iload_n hx hb dX0_isFirstOfItsValue_3 rfl (lv_at hl 1 rfl) ?_
  refine kIge (a := i) (b := q) (by omega) (by omega) (tgt := 30) hx hb dX0_isFirstOfItsValue_4 (by decide) (fun c1 => ?_) (fun c1 => ?_)
  · skip
    refine lv_iconst (v := nI 1) hx hb dX0_isFirstOfItsValue_30 (by decide) ?_
    have hi2 : i = q := by omega
    subst hi2
    exact (kRetz hx hb hr hlocks dX0_isFirstOfItsValue_31 (Or.inr rfl) (Nat.le_of_ble_eq_true rfl) (Nat.le_of_ble_eq_true rfl) hK hS hP hD ⟨rfl, (if_neg hno).symm⟩)
  · skip
    refine lv_aload_n hx hb dX0_isFirstOfItsValue_7 rfl (lv_at hl 0 rfl) ?_
    refine va_get (D := D) (ci := 0) (v := .ref h1) (C := RX0) (T := TX0) (N := 4) hx hb hts hin hown hK hP 0 rfl rfl 0 (by decide) (hts (.fieldLink RX0 9 "FrameRow" "row" "[I") (by decide +kernel)) (fun _ h9 => h9) rfl dX0_isFirstOfItsValue_8 ?_
    refine lv_iload_n hx hb dX0_isFirstOfItsValue_11 rfl (lv_at hl 2 rfl) ?_
    refine kLd hx hb hK hP 1 0 rfl rfl (j := i) (by omega) (by decide) dX0_isFirstOfItsValue_12 ?_
    refine lv_aload_n hx hb dX0_isFirstOfItsValue_13 rfl (lv_at hl 0 rfl) ?_
    refine va_get (D := D) (ci := 0) (v := .ref h1) (C := RX0) (T := TX0) (N := 4) hx hb hts hin hown hK hP 0 rfl rfl 0 (by decide) (hts (.fieldLink RX0 9 "FrameRow" "row" "[I") (by decide +kernel)) (fun _ h9 => h9) rfl dX0_isFirstOfItsValue_14 ?_
    refine lv_iload_n hx hb dX0_isFirstOfItsValue_17 rfl (lv_at hl 1 rfl) ?_
    refine kLd hx hb hK hP 1 0 rfl rfl (j := q) (by omega) (by decide) dX0_isFirstOfItsValue_18 ?_
    refine lv_icmp_ne (tgt := 24) hx hb dX0_isFirstOfItsValue_19 (by decide) (fun c2 => ?_) (fun c2 => ?_)
    · skip
      refine lv_iinc (v := nI (i + 1)) (lv' := [(2, .int (nI (i + 1))), (0, .ref h0), (1, .int (nI q))]) hx hb dX0_isFirstOfItsValue_24 hl (k := 2) rfl (kInc1 _) (by decide) rfl (fun ls hl => ?_)
      refine lv_goto (tgt := 2) hx hb dX0_isFirstOfItsValue_27 (by decide) ?_
      exact ih c1  ls _ _ (by rw [rw_succ, List.mem_append, List.mem_singleton]; rintro (h | h); exact hno h; exact c2 h.symm) hP hD hS (lv_sub (l' := [(0, .ref h0), (1, .int (nI q)), (2, .int (nI (i + 1)))]) hl [1, 2, 0] rfl)
    · skip
      refine lv_iconst (v := nI 0) hx hb dX0_isFirstOfItsValue_22 (by decide) ?_
      exact (kRetz hx hb hr hlocks dX0_isFirstOfItsValue_23 (Or.inl rfl) (Nat.le_of_ble_eq_true rfl) (Nat.le_of_ble_eq_true rfl) hK hS hP hD ⟨rfl, (if_pos (rw_mem.mpr ⟨i, c1, c2⟩)).symm⟩)

set_option maxHeartbeats 4000000 in
set_option maxRecDepth 100000 in
theorem pX0_differentValues (l : Launch) (D : va_G) (h0 h1 h2 : Nat) (cI : ClassId) (f g : Nat → Int32) (L : Nat) (ca : Int32) (hL : L ≤ 2064) : Mi l yX0_differentValues wsX0_differentValues r1 D (tI cI) [.ref h0] (wX h0 h1 h2 cI f g (nI L) ca) (fun r u => u = wX h0 h1 h2 cI f g (nI L) ca ∧ r = nI (dd (nz (rw_ f L))).length) := by
  refine Mi.of (cc := cX0_differentValues) (maxL := 3) (ty := .int) (by decide +kernel) rfl (Nat.le_of_ble_eq_true rfl) ?_
  rintro p e s m below meth c ls A ⟨hx, hb, hr, hml, hts, hown, hlocks, hnm, hP, hK, hD, hA, hS, hl⟩
  have hown : s.vm.findClass RX0 = some m.cls := hown
  have hl : lv_has ls 3 [(0, .ref h0)] := hl
  have hin : ∀ w ∈ wsX00, w ∈ wsX0_differentValues := by decide +kernel
  have hP : va_P D kC (wX h0 h1 h2 cI f g (nI L) ca) s.heap := hP
  have hD : va_D A (wX h0 h1 h2 cI f g (nI L) ca) := hD
  refine lv_iconst (v := nI 0) hx hb dX0_differentValues_0 (by decide) ?_
  refine lv_istore_n (lv' := [(1, .int (nI 0)), (0, .ref h0)]) hx hb dX0_differentValues_1 rfl hl (by decide) rfl (fun ls hl => ?_)
  refine lv_iconst (v := nI 0) hx hb dX0_differentValues_2 (by decide) ?_
  refine lv_istore_n (lv' := [(2, .int (nI 0)), (1, .int (nI 0)), (0, .ref h0)]) hx hb dX0_differentValues_3 rfl hl (by decide) rfl (fun ls hl => ?_)
  refine kLoop (Q := fun i => ∀  (ls : Array Slot) (H : Heap) (locs : List Loc), va_P D kC (wX h0 h1 h2 cI f g (nI L) ca) H → va_D A (wX h0 h1 h2 cI f g (nI L) ca) → va_S A s.heap H locs → lv_has ls 3 [(0, .ref h0), (1, .int (nI ((dd (nz (rw_ f i))).length))), (2, .int (nI i))] → W p l e r1 s m [.ref h0].toArray below meth c H locs 0 0 (MQ below (va_Qi (fun r u => u = wX h0 h1 h2 cI f g (nI L) ca ∧ r = nI (dd (nz (rw_ f L))).length) (kB D (tI cI) A) A) [.ref h0].toArray s r1.cells r1.slots A) (F0 m 4 ls [])) (L) ?_ (0) (Nat.zero_le _)  ls _ _  hP hD hS (lv_sub hl [2, 1, 0] rfl)
  intro i hi ih  ls H locs  hP hD hS hl
  have hd1 := dd_len (nz (rw_ f i))
  have hd2 := nz_le (rw_ f i)
  rw [rw_len] at hd2
  refine lv_iload_n hx hb dX0_differentValues_4 rfl (lv_at hl 2 rfl) ?_
  refine lv_aload_n hx hb dX0_differentValues_5 rfl (lv_at hl 0 rfl) ?_
  refine va_get (D := D) (ci := 0) (v := .int (nI L)) (C := RX0) (T := TX0) (N := 4) hx hb hts hin hown hK hP 0 rfl rfl 2 (by decide) (hts (.fieldLink RX0 22 "FrameRow" "length" "I") (by decide +kernel)) (fun _ h9 => h9) rfl dX0_differentValues_6 ?_
  refine kIge (a := i) (b := L) (by omega) (by omega) (tgt := 38) hx hb dX0_differentValues_9 (by decide) (fun c1 => ?_) (fun c1 => ?_)
  · skip
    refine lv_iload_n hx hb dX0_differentValues_38 rfl (lv_at hl 1 rfl) ?_
    have hi2 : i = L := by omega
    subst hi2
    exact (kReti hx hb hr hlocks dX0_differentValues_39 (Nat.le_of_ble_eq_true rfl) (Nat.le_of_ble_eq_true rfl) hK hS hP hD ⟨rfl, rfl⟩)
  · skip
    refine lv_aload_n hx hb dX0_differentValues_12 rfl (lv_at hl 0 rfl) ?_
    refine va_get (D := D) (ci := 0) (v := .ref h1) (C := RX0) (T := TX0) (N := 4) hx hb hts hin hown hK hP 0 rfl rfl 0 (by decide) (hts (.fieldLink RX0 9 "FrameRow" "row" "[I") (by decide +kernel)) (fun _ h9 => h9) rfl dX0_differentValues_13 ?_
    refine lv_iload_n hx hb dX0_differentValues_16 rfl (lv_at hl 2 rfl) ?_
    refine kLd hx hb hK hP 1 0 rfl rfl (j := i) (by omega) (by decide) dX0_differentValues_17 ?_
    refine lv_if_eq (tgt := 32) hx hb dX0_differentValues_18 (by decide) (fun c2 => ?_) (fun c2 => ?_)
    · skip
      refine lv_iinc (v := nI (i + 1)) (lv' := [(2, .int (nI (i + 1))), (0, .ref h0), (1, .int (nI ((dd (nz (rw_ f i))).length)))]) hx hb dX0_differentValues_32 hl (k := 2) rfl (kInc1 _) (by decide) rfl (fun ls hl => ?_)
      refine lv_goto (tgt := 4) hx hb dX0_differentValues_35 (by decide) ?_
      exact ih c1  ls _ _  hP hD hS (by have h := (lv_sub (l' := [(0, .ref h0), (1, .int (nI ((dd (nz (rw_ f i))).length))), (2, .int (nI (i + 1)))]) hl [1, 2, 0] rfl); rw [show dd (nz (rw_ f (i + 1))) = dd (nz (rw_ f i)) by rw [rw_succ, nz_app, nz_0 c2, List.append_nil]]; exact h)
    · skip
      refine lv_aload_n hx hb dX0_differentValues_21 rfl (lv_at hl 0 rfl) ?_
      refine lv_iload_n hx hb dX0_differentValues_22 rfl (lv_at hl 2 rfl) ?_
      refine cVi (wr := []) (As := [.int (nI i)]) (rest := []) ⟨hx, hb, hml, hown, hts⟩ (pX0_isFirstOfItsValue l D h0 h1 h2 cI f g L ca hL i c1) (cwV 1 hts gX0_differentValues_X0_isFirstOfItsValue rfl rfl rfl (by decide +kernel) ⟨(Nat.le_of_ble_eq_true rfl), (Nat.le_of_ble_eq_true rfl)⟩) hK hP hD hS hA [0, 1, 2] [] rfl rfl (by decide) (by decide) (by decide) 0 rfl rfl rfl hl.1 rfl (Nat.le_of_ble_eq_true rfl) dX0_differentValues_23 ⟨(Nat.le_of_ble_eq_true rfl), (Nat.le_of_ble_eq_true rfl)⟩ (fun r u H locs hw hP hD hS => ?_)
      obtain ⟨rfl, rfl⟩ := hw
      have hP : va_P D kC (wX h0 h1 h2 cI f g (nI L) ca) H := hP
      have hD : va_D A (wX h0 h1 h2 cI f g (nI L) ca) := hD
      have hmem : f i ∈ dd (nz (rw_ f i)) ↔ f i ∈ rw_ f i := by rw [dd_mem, nz_mem]; exact ⟨fun h => h.1, fun h => ⟨h, c2⟩⟩
      by_cases c3 : f i ∈ rw_ f i
      · skip
        refine kTop (v' := nI 0) (if_pos c3) ?_
        refine kEq0 (a := 0) (by omega) (tgt := 32) hx hb dX0_differentValues_26 (by decide) (fun c4 => ?_) (fun c4 => ?_)
        · skip
          refine lv_iinc (v := nI (i + 1)) (lv' := [(2, .int (nI (i + 1))), (0, .ref h0), (1, .int (nI ((dd (nz (rw_ f i))).length)))]) hx hb dX0_differentValues_32 hl (k := 2) rfl (kInc1 _) (by decide) rfl (fun ls hl => ?_)
          refine lv_goto (tgt := 4) hx hb dX0_differentValues_35 (by decide) ?_
          exact ih c1  ls _ _  hP hD hS (by have h := (lv_sub (l' := [(0, .ref h0), (1, .int (nI ((dd (nz (rw_ f i))).length))), (2, .int (nI (i + 1)))]) hl [1, 2, 0] rfl); rw [show dd (nz (rw_ f (i + 1))) = dd (nz (rw_ f i)) by rw [rw_succ, nz_app, nz_1 c2, dd_snoc, ddS_in (hmem.mpr c3)]]; exact h)
        · skip
          exact absurd c4 (by decide)
      · skip
        refine kTop (v' := nI 1) (if_neg c3) ?_
        refine kEq0 (a := 1) (by omega) (tgt := 32) hx hb dX0_differentValues_26 (by decide) (fun c4 => ?_) (fun c4 => ?_)
        · skip
          exact absurd c4 (by decide)
        · skip
          refine lv_iinc (v := nI ((dd (nz (rw_ f i))).length + 1)) (lv' := [(1, .int (nI ((dd (nz (rw_ f i))).length + 1))), (0, .ref h0), (2, .int (nI i))]) hx hb dX0_differentValues_29 hl (k := 1) rfl (kInc1 _) (by decide) rfl (fun ls hl => ?_)
          refine lv_iinc (v := nI (i + 1)) (lv' := [(2, .int (nI (i + 1))), (1, .int (nI ((dd (nz (rw_ f i))).length + 1))), (0, .ref h0)]) hx hb dX0_differentValues_32 hl (k := 2) rfl (kInc1 _) (by decide) rfl (fun ls hl => ?_)
          refine lv_goto (tgt := 4) hx hb dX0_differentValues_35 (by decide) ?_
          exact ih c1  ls _ _  hP hD hS (by have h := (lv_sub (l' := [(0, .ref h0), (1, .int (nI ((dd (nz (rw_ f i))).length + 1))), (2, .int (nI (i + 1)))]) hl [2, 1, 0] rfl); rw [show (dd (nz (rw_ f (i + 1)))).length = (dd (nz (rw_ f i))).length + 1 by rw [rw_succ, nz_app, nz_1 c2, dd_snoc, ddS_new (fun h => c3 (hmem.mp h)), List.length_append]; rfl]; exact h)
