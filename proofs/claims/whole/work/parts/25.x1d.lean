set_option maxHeartbeats 4000000 in
set_option maxRecDepth 100000 in
theorem pX1_call (l : Launch) (D : va_G) (k0 k1 k2 k3 k4 k5 k6 : Nat) (cI : ClassId) (th : Int32) (F : Nat) (ca : Int32) (ow sl gl : Nat → Int32) (mn : Int32) (va ki ra : Nat → Int32) (hF : F ≤ 256) (x : Int32) (hF1 : inR x 4 → (rw_ ow F).count x < 64 → F < 256) : Mi l yX1_call wsX1_call r2 D (tI cI) [.ref k0, .int x] (wM k0 k1 k2 k3 k4 k5 k6 cI th (nI F) ca ow sl gl mn va ki ra) (fun r u => (inR x 4 ∧ (rw_ ow F).count x < 64 ∧ u = wM k0 k1 k2 k3 k4 k5 k6 cI (nI 0) (nI (F + 1)) (ca + nI 1) (upd ow F x) (fun t => if 8 * F ≤ t ∧ t < 8 * F + 8 then nI 0 else sl t) gl mn va ki ra ∧ r = nI ((rw_ ow F).count x + 1)) ∨ (¬ inR x 4 ∧ u = wM k0 k1 k2 k3 k4 k5 k6 cI (nI 1) (nI F) ca ow sl gl mn va ki ra) ∨ (inR x 4 ∧ 64 ≤ (rw_ ow F).count x ∧ u = wM k0 k1 k2 k3 k4 k5 k6 cI (nI 2) (nI F) ca ow sl gl mn va ki ra)) := by
  refine Mi.of (cc := cX1_call) (maxL := 3) (ty := .int) (by decide +kernel) rfl (Nat.le_of_ble_eq_true rfl) ?_
  rintro p e s m below meth c ls A ⟨hx, hb, hr, hml, hts, hown, hlocks, hnm, hP, hK, hD, hA, hS, hl⟩
  have hown : s.vm.findClass RX1 = some m.cls := hown
  have hl : lv_has ls 3 [(0, .ref k0), (1, .int x)] := hl
  have hin : ∀ w ∈ wsX10, w ∈ wsX1_call := by decide +kernel
  have hP : va_P D kC (wM k0 k1 k2 k3 k4 k5 k6 cI th (nI F) ca ow sl gl mn va ki ra) s.heap := hP
  have hD : va_D A (wM k0 k1 k2 k3 k4 k5 k6 cI th (nI F) ca ow sl gl mn va ki ra) := hD
  have hcl := rw_count_le ow F x
  refine lv_aload_n hx hb dX1_call_0 rfl (lv_at hl 0 rfl) ?_
  refine lv_iload_n hx hb dX1_call_1 rfl (lv_at hl 1 rfl) ?_
  refine cSi (wr := wM k0 k1 k2 k3 k4 k5 k6 cI th (nI F) ca ow sl gl mn va ki ra) (As := [.int x]) (rest := [.ref k0]) ⟨hx, hb, hml, hown, hts⟩ (pX1_isMutator l D cI x) (va_cwS 1 hts gX1_call_X1_isMutator rfl rfl rfl (by decide +kernel) ⟨(Nat.le_of_ble_eq_true rfl), (Nat.le_of_ble_eq_true rfl)⟩) hK hP hD hS hA [] [0, 1, 2, 3, 4, 5, 6] rfl rfl (by decide) (by decide) (by decide) rfl hl.1 rfl (Nat.le_of_ble_eq_true rfl) dX1_call_2 ⟨(Nat.le_of_ble_eq_true rfl), (Nat.le_of_ble_eq_true rfl)⟩ (fun r u H locs hw hP hD hS => ?_)
  obtain ⟨rfl, hw⟩ := hw
  have hP : va_P D kC (wM k0 k1 k2 k3 k4 k5 k6 cI th (nI F) ca ow sl gl mn va ki ra) H := hP
  have hD : va_D A (wM k0 k1 k2 k3 k4 k5 k6 cI th (nI F) ca ow sl gl mn va ki ra) := hD
  rcases hw with ⟨hx9, rfl⟩ | ⟨hx9, rfl⟩
  · skip
    refine lv_aload_n hx hb dX1_call_5 rfl (lv_at hl 0 rfl) ?_
    refine lv_iload_n hx hb dX1_call_6 rfl (lv_at hl 1 rfl) ?_
    refine cVi (wr := []) (As := [.int x]) (rest := [.int (nI 1), .ref k0]) ⟨hx, hb, hml, hown, hts⟩ (pX1_framesOf l D k0 k1 k2 k3 k4 k5 k6 cI th F ca ow sl gl mn va ki ra hF x) (cwV 1 hts gX1_call_X1_framesOf rfl rfl rfl (by decide +kernel) ⟨(Nat.le_of_ble_eq_true rfl), (Nat.le_of_ble_eq_true rfl)⟩) hK hP hD hS hA [0, 1, 2, 3, 4, 5, 6] [] rfl rfl (by decide) (by decide) (by decide) 0 rfl rfl rfl hl.1 rfl (Nat.le_of_ble_eq_true rfl) dX1_call_7 ⟨(Nat.le_of_ble_eq_true rfl), (Nat.le_of_ble_eq_true rfl)⟩ (fun r u H locs hw hP hD hS => ?_)
    obtain ⟨rfl, rfl⟩ := hw
    have hP : va_P D kC (wM k0 k1 k2 k3 k4 k5 k6 cI th (nI F) ca ow sl gl mn va ki ra) H := hP
    have hD : va_D A (wM k0 k1 k2 k3 k4 k5 k6 cI th (nI F) ca ow sl gl mn va ki ra) := hD
    refine lv_bipush (v := nI 64) hx hb dX1_call_10 (by decide) ?_
    refine kIge (a := (rw_ ow F).count x) (b := 64) (by omega) (by omega) (tgt := 19) hx hb dX1_call_12 (by decide) (fun c1 => ?_) (fun c1 => ?_)
    · skip
      refine lv_iconst (v := nI 0) hx hb dX1_call_19 (by decide) ?_
      refine cVi (wr := []) (As := [.int (nI 1), .int (nI 0)]) (rest := []) ⟨hx, hb, hml, hown, hts⟩ (pX1_goes l D k0 k1 k2 k3 k4 k5 k6 cI th F ca ow sl gl mn va ki ra 1 0 (by decide) (by decide)) (cwV 2 hts gX1_call_X1_goes rfl rfl rfl (by decide +kernel) ⟨(Nat.le_of_ble_eq_true rfl), (Nat.le_of_ble_eq_true rfl)⟩) hK hP hD hS hA [0, 1, 2, 3, 4, 5, 6] [] rfl rfl (by decide) (by decide) (by decide) 0 rfl rfl rfl hl.1 rfl (Nat.le_of_ble_eq_true rfl) dX1_call_20 ⟨(Nat.le_of_ble_eq_true rfl), (Nat.le_of_ble_eq_true rfl)⟩ (fun r u H locs hw hP hD hS => ?_)
      obtain ⟨rfl, rfl⟩ := hw
      have hP : va_P D kC (wM k0 k1 k2 k3 k4 k5 k6 cI (nI 2) (nI F) ca ow sl gl mn va ki ra) H := hP
      have hD : va_D A (wM k0 k1 k2 k3 k4 k5 k6 cI (nI 2) (nI F) ca ow sl gl mn va ki ra) := hD
      refine kTop (v' := nI 0) rfl ?_
      refine kNe0 (a := 0) (by omega) (tgt := 28) hx hb dX1_call_23 (by decide) (fun c8 => ?_) (fun c8 => ?_)
      · skip
        exact absurd c8 (by decide)
      · skip
        refine lv_iconst (v := nI 0) hx hb dX1_call_26 (by decide) ?_
        exact (kReti hx hb hr hlocks dX1_call_27 (Nat.le_of_ble_eq_true rfl) (Nat.le_of_ble_eq_true rfl) hK hS hP hD (Or.inr (Or.inr ⟨hx9, c1, rfl⟩)))
    · skip
      refine lv_iconst (v := nI 1) hx hb dX1_call_15 (by decide) ?_
      refine lv_goto (tgt := 20) hx hb dX1_call_16 (by decide) ?_
      refine cVi (wr := []) (As := [.int (nI 1), .int (nI 1)]) (rest := []) ⟨hx, hb, hml, hown, hts⟩ (pX1_goes l D k0 k1 k2 k3 k4 k5 k6 cI th F ca ow sl gl mn va ki ra 1 1 (by decide) (by decide)) (cwV 2 hts gX1_call_X1_goes rfl rfl rfl (by decide +kernel) ⟨(Nat.le_of_ble_eq_true rfl), (Nat.le_of_ble_eq_true rfl)⟩) hK hP hD hS hA [0, 1, 2, 3, 4, 5, 6] [] rfl rfl (by decide) (by decide) (by decide) 0 rfl rfl rfl hl.1 rfl (Nat.le_of_ble_eq_true rfl) dX1_call_20 ⟨(Nat.le_of_ble_eq_true rfl), (Nat.le_of_ble_eq_true rfl)⟩ (fun r u H locs hw hP hD hS => ?_)
      obtain ⟨rfl, rfl⟩ := hw
      have hP : va_P D kC (wM k0 k1 k2 k3 k4 k5 k6 cI (nI 0) (nI F) ca ow sl gl mn va ki ra) H := hP
      have hD : va_D A (wM k0 k1 k2 k3 k4 k5 k6 cI (nI 0) (nI F) ca ow sl gl mn va ki ra) := hD
      refine kTop (v' := nI 1) rfl ?_
      refine kNe0 (a := 1) (by omega) (tgt := 28) hx hb dX1_call_23 (by decide) (fun c8 => ?_) (fun c8 => ?_)
      · skip
        have hF2 := hF1 hx9 c1
        refine lv_aload_n hx hb dX1_call_28 rfl (lv_at hl 0 rfl) ?_
        refine va_get (D := D) (ci := 1) (v := .ref k1) (C := RX1) (T := TX1) (N := 10) hx hb hts hin hown hK hP 0 rfl rfl 3 (by decide) (hts (.fieldLink RX1 13 "FrameRowModel" "owners" "[I") (by decide +kernel)) (fun _ h9 => h9) rfl dX1_call_29 ?_
        refine lv_aload_n hx hb dX1_call_32 rfl (lv_at hl 0 rfl) ?_
        refine va_get (D := D) (ci := 1) (v := .int (nI F)) (C := RX1) (T := TX1) (N := 10) hx hb hts hin hown hK hP 0 rfl rfl 1 (by decide) (hts (.fieldLink RX1 7 "FrameRowModel" "frames" "I") (by decide +kernel)) (fun _ h9 => h9) rfl dX1_call_33 ?_
        refine lv_iload_n hx hb dX1_call_36 rfl (lv_at hl 1 rfl) ?_
        refine kSt hx hb hK hP hD hS 1 0 rfl rfl (j := F) (by omega) (by decide) dX1_call_37 (fun H locs hP hD hS => ?_)
        have hP : va_P D kC (wM k0 k1 k2 k3 k4 k5 k6 cI (nI 0) (nI F) ca (upd ow F x) sl gl mn va ki ra) H := hP
        have hD : va_D A (wM k0 k1 k2 k3 k4 k5 k6 cI (nI 0) (nI F) ca (upd ow F x) sl gl mn va ki ra) := hD
        refine lv_iconst (v := nI 0) hx hb dX1_call_38 (by decide) ?_
        refine lv_istore_n (lv' := [(2, .int (nI 0)), (0, .ref k0), (1, .int x)]) hx hb dX1_call_39 rfl hl (by decide) rfl (fun ls hl => ?_)
        have hP : va_P D kC (wM k0 k1 k2 k3 k4 k5 k6 cI (nI 0) (nI F) ca (upd ow F x) ((fun t => if 8 * F ≤ t ∧ t < 8 * F + 0 then nI 0 else sl t)) gl mn va ki ra) H := by rw [show 8 * F + 0 = 8 * F from rfl, ft_start]; exact hP
        have hD : va_D A (wM k0 k1 k2 k3 k4 k5 k6 cI (nI 0) (nI F) ca (upd ow F x) ((fun t => if 8 * F ≤ t ∧ t < 8 * F + 0 then nI 0 else sl t)) gl mn va ki ra) := by rw [show 8 * F + 0 = 8 * F from rfl, ft_start]; exact hD
        refine kLoop (Q := fun i => ∀  (ls : Array Slot) (H : Heap) (locs : List Loc), va_P D kC (wM k0 k1 k2 k3 k4 k5 k6 cI (nI 0) (nI F) ca (upd ow F x) ((fun t => if 8 * F ≤ t ∧ t < 8 * F + i then nI 0 else sl t)) gl mn va ki ra) H → va_D A (wM k0 k1 k2 k3 k4 k5 k6 cI (nI 0) (nI F) ca (upd ow F x) ((fun t => if 8 * F ≤ t ∧ t < 8 * F + i then nI 0 else sl t)) gl mn va ki ra) → va_S A s.heap H locs → lv_has ls 3 [(0, .ref k0), (1, .int x), (2, .int (nI i))] → W p l e r2 s m [.ref k0, .int x].toArray below meth c H locs 0 0 (MQ below (va_Qi (fun r u => (inR x 4 ∧ (rw_ ow F).count x < 64 ∧ u = wM k0 k1 k2 k3 k4 k5 k6 cI (nI 0) (nI (F + 1)) (ca + nI 1) (upd ow F x) (fun t => if 8 * F ≤ t ∧ t < 8 * F + 8 then nI 0 else sl t) gl mn va ki ra ∧ r = nI ((rw_ ow F).count x + 1)) ∨ (¬ inR x 4 ∧ u = wM k0 k1 k2 k3 k4 k5 k6 cI (nI 1) (nI F) ca ow sl gl mn va ki ra) ∨ (inR x 4 ∧ 64 ≤ (rw_ ow F).count x ∧ u = wM k0 k1 k2 k3 k4 k5 k6 cI (nI 2) (nI F) ca ow sl gl mn va ki ra)) (kB D (tI cI) A) A) [.ref k0, .int x].toArray s r2.cells r2.slots A) (F0 m 40 ls [])) (8) ?_ (0) (Nat.zero_le _)  ls _ _  hP hD hS (lv_sub hl [1, 2, 0] rfl)
        intro i hi ih  ls H locs  hP hD hS hl
        refine lv_iload_n hx hb dX1_call_40 rfl (lv_at hl 2 rfl) ?_
        refine lv_bipush (v := nI 8) hx hb dX1_call_41 (by decide) ?_
        refine kIge (a := i) (b := 8) (by omega) (by omega) (tgt := 67) hx hb dX1_call_43 (by decide) (fun c2 => ?_) (fun c2 => ?_)
        · skip
          have hi2 : i = 8 := by omega
          subst hi2
          refine lv_aload_n hx hb dX1_call_67 rfl (lv_at hl 0 rfl) ?_
          refine lv_dup hx hb dX1_call_68 rfl ?_
          refine va_get (D := D) (ci := 1) (v := .int (nI F)) (C := RX1) (T := TX1) (N := 10) hx hb hts hin hown hK hP 0 rfl rfl 1 (by decide) (hts (.fieldLink RX1 7 "FrameRowModel" "frames" "I") (by decide +kernel)) (fun _ h9 => h9) rfl dX1_call_69 ?_
          refine lv_iconst (v := nI 1) hx hb dX1_call_72 (by decide) ?_
          refine kAdd hx hb dX1_call_73 ?_
          refine va_put (D := D) (ci := 1) (v := .int (nI (F + 1))) (ty := .int) (C := RX1) (T := TX1) (N := 10) hx hb hts hin tyX1 tyX1_ok nmX1 hown hK hP hD hS 0 rfl rfl 1 (by decide) (hts (.fieldLink RX1 7 "FrameRowModel" "frames" "I") (by decide +kernel)) (fun _ h9 => h9) rfl (by decide +kernel) rfl rfl (Nat.le_of_ble_eq_true rfl) dX1_call_74 (fun H locs hP hD hS => ?_)
          have hP : va_P D kC (wM k0 k1 k2 k3 k4 k5 k6 cI (nI 0) (nI (F + 1)) ca (upd ow F x) ((fun t => if 8 * F ≤ t ∧ t < 8 * F + 8 then nI 0 else sl t)) gl mn va ki ra) H := hP
          have hD : va_D A (wM k0 k1 k2 k3 k4 k5 k6 cI (nI 0) (nI (F + 1)) ca (upd ow F x) ((fun t => if 8 * F ≤ t ∧ t < 8 * F + 8 then nI 0 else sl t)) gl mn va ki ra) := hD
          refine lv_aload_n hx hb dX1_call_77 rfl (lv_at hl 0 rfl) ?_
          refine lv_dup hx hb dX1_call_78 rfl ?_
          refine va_get (D := D) (ci := 1) (v := .int ca) (C := RX1) (T := TX1) (N := 10) hx hb hts hin hown hK hP 0 rfl rfl 2 (by decide) (hts (.fieldLink RX1 48 "FrameRowModel" "calls" "I") (by decide +kernel)) (fun _ h9 => h9) rfl dX1_call_79 ?_
          refine lv_iconst (v := nI 1) hx hb dX1_call_82 (by decide) ?_
          refine lv_iadd hx hb dX1_call_83 ?_
          refine va_put (D := D) (ci := 1) (v := .int (ca + (nI 1))) (ty := .int) (C := RX1) (T := TX1) (N := 10) hx hb hts hin tyX1 tyX1_ok nmX1 hown hK hP hD hS 0 rfl rfl 2 (by decide) (hts (.fieldLink RX1 48 "FrameRowModel" "calls" "I") (by decide +kernel)) (fun _ h9 => h9) rfl (by decide +kernel) rfl rfl (Nat.le_of_ble_eq_true rfl) dX1_call_84 (fun H locs hP hD hS => ?_)
          have hP : va_P D kC (wM k0 k1 k2 k3 k4 k5 k6 cI (nI 0) (nI (F + 1)) (ca + (nI 1)) (upd ow F x) ((fun t => if 8 * F ≤ t ∧ t < 8 * F + 8 then nI 0 else sl t)) gl mn va ki ra) H := hP
          have hD : va_D A (wM k0 k1 k2 k3 k4 k5 k6 cI (nI 0) (nI (F + 1)) (ca + (nI 1)) (upd ow F x) ((fun t => if 8 * F ≤ t ∧ t < 8 * F + 8 then nI 0 else sl t)) gl mn va ki ra) := hD
          refine lv_aload_n hx hb dX1_call_87 rfl (lv_at hl 0 rfl) ?_
          refine lv_iload_n hx hb dX1_call_88 rfl (lv_at hl 1 rfl) ?_
          refine cVi (wr := []) (As := [.int x]) (rest := []) ⟨hx, hb, hml, hown, hts⟩ (pX1_framesOf l D k0 k1 k2 k3 k4 k5 k6 cI (nI 0) (F + 1) (ca + (nI 1)) (upd ow F x) (fun t => if 8 * F ≤ t ∧ t < 8 * F + 8 then nI 0 else sl t) gl mn va ki ra (by omega) x) (cwV 1 hts gX1_call_X1_framesOf rfl rfl rfl (by decide +kernel) ⟨(Nat.le_of_ble_eq_true rfl), (Nat.le_of_ble_eq_true rfl)⟩) hK hP hD hS hA [0, 1, 2, 3, 4, 5, 6] [] rfl rfl (by decide) (by decide) (by decide) 0 rfl rfl rfl hl.1 rfl (Nat.le_of_ble_eq_true rfl) dX1_call_89 ⟨(Nat.le_of_ble_eq_true rfl), (Nat.le_of_ble_eq_true rfl)⟩ (fun r u H locs hw hP hD hS => ?_)
          obtain ⟨rfl, rfl⟩ := hw
          have hP : va_P D kC (wM k0 k1 k2 k3 k4 k5 k6 cI (nI 0) (nI (F + 1)) (ca + (nI 1)) (upd ow F x) ((fun t => if 8 * F ≤ t ∧ t < 8 * F + 8 then nI 0 else sl t)) gl mn va ki ra) H := hP
          have hD : va_D A (wM k0 k1 k2 k3 k4 k5 k6 cI (nI 0) (nI (F + 1)) (ca + (nI 1)) (upd ow F x) ((fun t => if 8 * F ≤ t ∧ t < 8 * F + 8 then nI 0 else sl t)) gl mn va ki ra) := hD
          refine kTop (v' := nI ((rw_ ow F).count x + 1)) (by rw [cn_succ, pk_us, if_pos rfl, rw_congr (g := ow) (fun i hi => pk_un (by omega))]) ?_
          exact (kReti hx hb hr hlocks dX1_call_92 (Nat.le_of_ble_eq_true rfl) (Nat.le_of_ble_eq_true rfl) hK hS hP hD (Or.inl ⟨hx9, c1, rfl, rfl⟩))
        · skip
          refine lv_aload_n hx hb dX1_call_46 rfl (lv_at hl 0 rfl) ?_
          refine va_get (D := D) (ci := 1) (v := .ref k2) (C := RX1) (T := TX1) (N := 10) hx hb hts hin hown hK hP 0 rfl rfl 4 (by decide) (hts (.fieldLink RX1 17 "FrameRowModel" "slots" "[I") (by decide +kernel)) (fun _ h9 => h9) rfl dX1_call_47 ?_
          refine lv_bipush (v := nI 8) hx hb dX1_call_50 (by decide) ?_
          refine lv_aload_n hx hb dX1_call_52 rfl (lv_at hl 0 rfl) ?_
          refine va_get (D := D) (ci := 1) (v := .int (nI F)) (C := RX1) (T := TX1) (N := 10) hx hb hts hin hown hK hP 0 rfl rfl 1 (by decide) (hts (.fieldLink RX1 7 "FrameRowModel" "frames" "I") (by decide +kernel)) (fun _ h9 => h9) rfl dX1_call_53 ?_
          refine kMul hx hb dX1_call_56 ?_
          refine lv_iload_n hx hb dX1_call_57 rfl (lv_at hl 2 rfl) ?_
          refine kAdd hx hb dX1_call_58 ?_
          refine lv_iconst (v := nI 0) hx hb dX1_call_59 (by decide) ?_
          refine kSt hx hb hK hP hD hS 2 0 rfl rfl (j := (8 * F) + i) (by omega) (by decide) dX1_call_60 (fun H locs hP hD hS => ?_)
          have hP : va_P D kC (wM k0 k1 k2 k3 k4 k5 k6 cI (nI 0) (nI F) ca (upd ow F x) (upd ((fun t => if 8 * F ≤ t ∧ t < 8 * F + i then nI 0 else sl t)) ((8 * F) + i) (nI 0)) gl mn va ki ra) H := hP
          have hD : va_D A (wM k0 k1 k2 k3 k4 k5 k6 cI (nI 0) (nI F) ca (upd ow F x) (upd ((fun t => if 8 * F ≤ t ∧ t < 8 * F + i then nI 0 else sl t)) ((8 * F) + i) (nI 0)) gl mn va ki ra) := hD
          rw [ft_put (by omega)] at hP hD
          refine lv_iinc (v := nI (i + 1)) (lv' := [(2, .int (nI (i + 1))), (0, .ref k0), (1, .int x)]) hx hb dX1_call_61 hl (k := 2) rfl (kInc1 _) (by decide) rfl (fun ls hl => ?_)
          refine lv_goto (tgt := 40) hx hb dX1_call_64 (by decide) ?_
          exact ih c2  ls _ _  hP hD hS (lv_sub (l' := [(0, .ref k0), (1, .int x), (2, .int (nI (i + 1)))]) hl [1, 2, 0] rfl)
      · skip
        exact absurd c8 (by decide)
  · skip
    refine lv_aload_n hx hb dX1_call_5 rfl (lv_at hl 0 rfl) ?_
    refine lv_iload_n hx hb dX1_call_6 rfl (lv_at hl 1 rfl) ?_
    refine cVi (wr := []) (As := [.int x]) (rest := [.int (nI 0), .ref k0]) ⟨hx, hb, hml, hown, hts⟩ (pX1_framesOf l D k0 k1 k2 k3 k4 k5 k6 cI th F ca ow sl gl mn va ki ra hF x) (cwV 1 hts gX1_call_X1_framesOf rfl rfl rfl (by decide +kernel) ⟨(Nat.le_of_ble_eq_true rfl), (Nat.le_of_ble_eq_true rfl)⟩) hK hP hD hS hA [0, 1, 2, 3, 4, 5, 6] [] rfl rfl (by decide) (by decide) (by decide) 0 rfl rfl rfl hl.1 rfl (Nat.le_of_ble_eq_true rfl) dX1_call_7 ⟨(Nat.le_of_ble_eq_true rfl), (Nat.le_of_ble_eq_true rfl)⟩ (fun r u H locs hw hP hD hS => ?_)
    obtain ⟨rfl, rfl⟩ := hw
    have hP : va_P D kC (wM k0 k1 k2 k3 k4 k5 k6 cI th (nI F) ca ow sl gl mn va ki ra) H := hP
    have hD : va_D A (wM k0 k1 k2 k3 k4 k5 k6 cI th (nI F) ca ow sl gl mn va ki ra) := hD
    refine lv_bipush (v := nI 64) hx hb dX1_call_10 (by decide) ?_
    refine kIge (a := (rw_ ow F).count x) (b := 64) (by omega) (by omega) (tgt := 19) hx hb dX1_call_12 (by decide) (fun c1 => ?_) (fun c1 => ?_)
    · skip
      refine lv_iconst (v := nI 0) hx hb dX1_call_19 (by decide) ?_
      refine cVi (wr := []) (As := [.int (nI 0), .int (nI 0)]) (rest := []) ⟨hx, hb, hml, hown, hts⟩ (pX1_goes l D k0 k1 k2 k3 k4 k5 k6 cI th F ca ow sl gl mn va ki ra 0 0 (by decide) (by decide)) (cwV 2 hts gX1_call_X1_goes rfl rfl rfl (by decide +kernel) ⟨(Nat.le_of_ble_eq_true rfl), (Nat.le_of_ble_eq_true rfl)⟩) hK hP hD hS hA [0, 1, 2, 3, 4, 5, 6] [] rfl rfl (by decide) (by decide) (by decide) 0 rfl rfl rfl hl.1 rfl (Nat.le_of_ble_eq_true rfl) dX1_call_20 ⟨(Nat.le_of_ble_eq_true rfl), (Nat.le_of_ble_eq_true rfl)⟩ (fun r u H locs hw hP hD hS => ?_)
      obtain ⟨rfl, rfl⟩ := hw
      have hP : va_P D kC (wM k0 k1 k2 k3 k4 k5 k6 cI (nI 1) (nI F) ca ow sl gl mn va ki ra) H := hP
      have hD : va_D A (wM k0 k1 k2 k3 k4 k5 k6 cI (nI 1) (nI F) ca ow sl gl mn va ki ra) := hD
      refine kTop (v' := nI 0) rfl ?_
      refine kNe0 (a := 0) (by omega) (tgt := 28) hx hb dX1_call_23 (by decide) (fun c8 => ?_) (fun c8 => ?_)
      · skip
        exact absurd c8 (by decide)
      · skip
        refine lv_iconst (v := nI 0) hx hb dX1_call_26 (by decide) ?_
        exact (kReti hx hb hr hlocks dX1_call_27 (Nat.le_of_ble_eq_true rfl) (Nat.le_of_ble_eq_true rfl) hK hS hP hD (Or.inr (Or.inl ⟨hx9, rfl⟩)))
    · skip
      refine lv_iconst (v := nI 1) hx hb dX1_call_15 (by decide) ?_
      refine lv_goto (tgt := 20) hx hb dX1_call_16 (by decide) ?_
      refine cVi (wr := []) (As := [.int (nI 0), .int (nI 1)]) (rest := []) ⟨hx, hb, hml, hown, hts⟩ (pX1_goes l D k0 k1 k2 k3 k4 k5 k6 cI th F ca ow sl gl mn va ki ra 0 1 (by decide) (by decide)) (cwV 2 hts gX1_call_X1_goes rfl rfl rfl (by decide +kernel) ⟨(Nat.le_of_ble_eq_true rfl), (Nat.le_of_ble_eq_true rfl)⟩) hK hP hD hS hA [0, 1, 2, 3, 4, 5, 6] [] rfl rfl (by decide) (by decide) (by decide) 0 rfl rfl rfl hl.1 rfl (Nat.le_of_ble_eq_true rfl) dX1_call_20 ⟨(Nat.le_of_ble_eq_true rfl), (Nat.le_of_ble_eq_true rfl)⟩ (fun r u H locs hw hP hD hS => ?_)
      obtain ⟨rfl, rfl⟩ := hw
      have hP : va_P D kC (wM k0 k1 k2 k3 k4 k5 k6 cI (nI 1) (nI F) ca ow sl gl mn va ki ra) H := hP
      have hD : va_D A (wM k0 k1 k2 k3 k4 k5 k6 cI (nI 1) (nI F) ca ow sl gl mn va ki ra) := hD
      refine kTop (v' := nI 0) rfl ?_
      refine kNe0 (a := 0) (by omega) (tgt := 28) hx hb dX1_call_23 (by decide) (fun c8 => ?_) (fun c8 => ?_)
      · skip
        exact absurd c8 (by decide)
      · skip
        refine lv_iconst (v := nI 0) hx hb dX1_call_26 (by decide) ?_
        exact (kReti hx hb hr hlocks dX1_call_27 (Nat.le_of_ble_eq_true rfl) (Nat.le_of_ble_eq_true rfl) hK hS hP hD (Or.inr (Or.inl ⟨hx9, rfl⟩)))

set_option maxHeartbeats 4000000 in
set_option maxRecDepth 100000 in
theorem pX1_leave (l : Launch) (D : va_G) (k0 k1 k2 k3 k4 k5 k6 : Nat) (cI : ClassId) (th : Int32) (F : Nat) (ca : Int32) (ow sl gl : Nat → Int32) (mn : Int32) (va ki ra : Nat → Int32) (hF : F ≤ 256) (x y : Int32) : Mi l yX1_leave wsX1_leave r2 D (tI cI) [.ref k0, .int x, .int y] (wM k0 k1 k2 k3 k4 k5 k6 cI th (nI F) ca ow sl gl mn va ki ra) (fun r u => ((inR x 4 ∧ inR y 8) ∧ 1 < (rw_ ow F).count x ∧ r = nI ((rw_ ow F).count x - 1) ∧ ∃ s9 q1 q2, s9 < 8 ∧ y = nI s9 ∧ q1 < F ∧ ow q1 = x ∧ (rw_ ow q1).count x = (rw_ ow F).count x - 1 ∧ q2 < F ∧ ow q2 = x ∧ (rw_ ow q2).count x = (rw_ ow F).count x - 2 ∧ u = wM k0 k1 k2 k3 k4 k5 k6 cI (nI 0) (nI (F - 1)) ca ((fun t => if q1 ≤ t ∧ t < F - 1 then ow (t + 1) else ow t)) ((fun t => if 8 * q1 ≤ t ∧ t < 8 * (F - 1) then (upd sl (8 * q2) (sl (8 * q1 + s9))) (t + 8) else (upd sl (8 * q2) (sl (8 * q1 + s9))) t)) gl mn va ki ra) ∨ (¬ (inR x 4 ∧ inR y 8) ∧ u = wM k0 k1 k2 k3 k4 k5 k6 cI (nI 1) (nI F) ca ow sl gl mn va ki ra) ∨ ((inR x 4 ∧ inR y 8) ∧ (rw_ ow F).count x ≤ 1 ∧ u = wM k0 k1 k2 k3 k4 k5 k6 cI (nI 2) (nI F) ca ow sl gl mn va ki ra)) := by
  refine Mi.of (cc := cX1_leave) (maxL := 5) (ty := .int) (by decide +kernel) rfl (Nat.le_of_ble_eq_true rfl) ?_
  rintro p e s m below meth c ls A ⟨hx, hb, hr, hml, hts, hown, hlocks, hnm, hP, hK, hD, hA, hS, hl⟩
  have hown : s.vm.findClass RX1 = some m.cls := hown
  have hl : lv_has ls 5 [(0, .ref k0), (1, .int x), (2, .int y)] := hl
  have hin : ∀ w ∈ wsX10, w ∈ wsX1_leave := by decide +kernel
  have hP : va_P D kC (wM k0 k1 k2 k3 k4 k5 k6 cI th (nI F) ca ow sl gl mn va ki ra) s.heap := hP
  have hD : va_D A (wM k0 k1 k2 k3 k4 k5 k6 cI th (nI F) ca ow sl gl mn va ki ra) := hD
  have hcl := rw_count_le ow F x
  refine lv_aload_n hx hb dX1_leave_0 rfl (lv_at hl 0 rfl) ?_
  refine lv_iload_n hx hb dX1_leave_1 rfl (lv_at hl 1 rfl) ?_
  refine cSi (wr := wM k0 k1 k2 k3 k4 k5 k6 cI th (nI F) ca ow sl gl mn va ki ra) (As := [.int x]) (rest := [.ref k0]) ⟨hx, hb, hml, hown, hts⟩ (pX1_isMutator l D cI x) (va_cwS 1 hts gX1_leave_X1_isMutator rfl rfl rfl (by decide +kernel) ⟨(Nat.le_of_ble_eq_true rfl), (Nat.le_of_ble_eq_true rfl)⟩) hK hP hD hS hA [] [0, 1, 2, 3, 4, 5, 6] rfl rfl (by decide) (by decide) (by decide) rfl hl.1 rfl (Nat.le_of_ble_eq_true rfl) dX1_leave_2 ⟨(Nat.le_of_ble_eq_true rfl), (Nat.le_of_ble_eq_true rfl)⟩ (fun r u H locs hw hP hD hS => ?_)
  obtain ⟨rfl, hw⟩ := hw
  have hP : va_P D kC (wM k0 k1 k2 k3 k4 k5 k6 cI th (nI F) ca ow sl gl mn va ki ra) H := hP
  have hD : va_D A (wM k0 k1 k2 k3 k4 k5 k6 cI th (nI F) ca ow sl gl mn va ki ra) := hD
  rcases hw with ⟨hx9, rfl⟩ | ⟨hx9, rfl⟩
  · skip
    refine kEq0 (a := 1) (by omega) (tgt := 22) hx hb dX1_leave_5 (by decide) (fun c0 => ?_) (fun c0 => ?_)
    · skip
      exact absurd c0 (by decide)
    · skip
      refine lv_iload_n hx hb dX1_leave_8 rfl (lv_at hl 2 rfl) ?_
      refine lv_if_lt (tgt := 22) hx hb dX1_leave_9 (by decide) (fun c1 => ?_) (fun c1 => ?_)
      · skip
        refine lv_iconst (v := nI 0) hx hb dX1_leave_22 (by decide) ?_
        refine lv_aload_n hx hb dX1_leave_23 rfl (lv_at hl 0 rfl) ?_
        refine lv_iload_n hx hb dX1_leave_24 rfl (lv_at hl 1 rfl) ?_
        refine cVi (wr := []) (As := [.int x]) (rest := [.int (nI 0), .ref k0]) ⟨hx, hb, hml, hown, hts⟩ (pX1_framesOf l D k0 k1 k2 k3 k4 k5 k6 cI th F ca ow sl gl mn va ki ra hF x) (cwV 1 hts gX1_leave_X1_framesOf rfl rfl rfl (by decide +kernel) ⟨(Nat.le_of_ble_eq_true rfl), (Nat.le_of_ble_eq_true rfl)⟩) hK hP hD hS hA [0, 1, 2, 3, 4, 5, 6] [] rfl rfl (by decide) (by decide) (by decide) 0 rfl rfl rfl hl.1 rfl (Nat.le_of_ble_eq_true rfl) dX1_leave_25 ⟨(Nat.le_of_ble_eq_true rfl), (Nat.le_of_ble_eq_true rfl)⟩ (fun r u H locs hw hP hD hS => ?_)
        obtain ⟨rfl, rfl⟩ := hw
        have hP : va_P D kC (wM k0 k1 k2 k3 k4 k5 k6 cI th (nI F) ca ow sl gl mn va ki ra) H := hP
        have hD : va_D A (wM k0 k1 k2 k3 k4 k5 k6 cI th (nI F) ca ow sl gl mn va ki ra) := hD
        refine lv_iconst (v := nI 1) hx hb dX1_leave_28 (by decide) ?_
        refine kIle (a := (rw_ ow F).count x) (b := 1) (by omega) (by omega) (tgt := 36) hx hb dX1_leave_29 (by decide) (fun c9 => ?_) (fun c9 => ?_)
        · skip
          refine lv_iconst (v := nI 0) hx hb dX1_leave_36 (by decide) ?_
          refine cVi (wr := []) (As := [.int (nI 0), .int (nI 0)]) (rest := []) ⟨hx, hb, hml, hown, hts⟩ (pX1_goes l D k0 k1 k2 k3 k4 k5 k6 cI th F ca ow sl gl mn va ki ra 0 0 (by decide) (by decide)) (cwV 2 hts gX1_leave_X1_goes rfl rfl rfl (by decide +kernel) ⟨(Nat.le_of_ble_eq_true rfl), (Nat.le_of_ble_eq_true rfl)⟩) hK hP hD hS hA [0, 1, 2, 3, 4, 5, 6] [] rfl rfl (by decide) (by decide) (by decide) 0 rfl rfl rfl hl.1 rfl (Nat.le_of_ble_eq_true rfl) dX1_leave_37 ⟨(Nat.le_of_ble_eq_true rfl), (Nat.le_of_ble_eq_true rfl)⟩ (fun r u H locs hw hP hD hS => ?_)
          obtain ⟨rfl, rfl⟩ := hw
          have hP : va_P D kC (wM k0 k1 k2 k3 k4 k5 k6 cI (nI 1) (nI F) ca ow sl gl mn va ki ra) H := hP
          have hD : va_D A (wM k0 k1 k2 k3 k4 k5 k6 cI (nI 1) (nI F) ca ow sl gl mn va ki ra) := hD
          refine kTop (v' := nI 0) rfl ?_
          refine kNe0 (a := 0) (by omega) (tgt := 45) hx hb dX1_leave_40 (by decide) (fun c8 => ?_) (fun c8 => ?_)
          · skip
            exact absurd c8 (by decide)
          · skip
            refine lv_iconst (v := nI 0) hx hb dX1_leave_43 (by decide) ?_
            exact (kReti hx hb hr hlocks dX1_leave_44 (Nat.le_of_ble_eq_true rfl) (Nat.le_of_ble_eq_true rfl) hK hS hP hD (Or.inr (Or.inl ⟨fun h => ((inR_iff (n := 8) (by decide)).mp h.2).1 c1, rfl⟩)))
        · skip
          refine lv_iconst (v := nI 1) hx hb dX1_leave_32 (by decide) ?_
          refine lv_goto (tgt := 37) hx hb dX1_leave_33 (by decide) ?_
          refine cVi (wr := []) (As := [.int (nI 0), .int (nI 1)]) (rest := []) ⟨hx, hb, hml, hown, hts⟩ (pX1_goes l D k0 k1 k2 k3 k4 k5 k6 cI th F ca ow sl gl mn va ki ra 0 1 (by decide) (by decide)) (cwV 2 hts gX1_leave_X1_goes rfl rfl rfl (by decide +kernel) ⟨(Nat.le_of_ble_eq_true rfl), (Nat.le_of_ble_eq_true rfl)⟩) hK hP hD hS hA [0, 1, 2, 3, 4, 5, 6] [] rfl rfl (by decide) (by decide) (by decide) 0 rfl rfl rfl hl.1 rfl (Nat.le_of_ble_eq_true rfl) dX1_leave_37 ⟨(Nat.le_of_ble_eq_true rfl), (Nat.le_of_ble_eq_true rfl)⟩ (fun r u H locs hw hP hD hS => ?_)
          obtain ⟨rfl, rfl⟩ := hw
          have hP : va_P D kC (wM k0 k1 k2 k3 k4 k5 k6 cI (nI 1) (nI F) ca ow sl gl mn va ki ra) H := hP
          have hD : va_D A (wM k0 k1 k2 k3 k4 k5 k6 cI (nI 1) (nI F) ca ow sl gl mn va ki ra) := hD
          refine kTop (v' := nI 0) rfl ?_
          refine kNe0 (a := 0) (by omega) (tgt := 45) hx hb dX1_leave_40 (by decide) (fun c8 => ?_) (fun c8 => ?_)
          · skip
            exact absurd c8 (by decide)
          · skip
            refine lv_iconst (v := nI 0) hx hb dX1_leave_43 (by decide) ?_
            exact (kReti hx hb hr hlocks dX1_leave_44 (Nat.le_of_ble_eq_true rfl) (Nat.le_of_ble_eq_true rfl) hK hS hP hD (Or.inr (Or.inl ⟨fun h => ((inR_iff (n := 8) (by decide)).mp h.2).1 c1, rfl⟩)))
      · skip
        refine lv_iload_n hx hb dX1_leave_12 rfl (lv_at hl 2 rfl) ?_
        refine lv_bipush (v := nI 8) hx hb dX1_leave_13 (by decide) ?_
        refine lv_icmp_ge (tgt := 22) hx hb dX1_leave_15 (by decide) (fun c2 => ?_) (fun c2 => ?_)
        · skip
          refine lv_iconst (v := nI 0) hx hb dX1_leave_22 (by decide) ?_
          refine lv_aload_n hx hb dX1_leave_23 rfl (lv_at hl 0 rfl) ?_
          refine lv_iload_n hx hb dX1_leave_24 rfl (lv_at hl 1 rfl) ?_
          refine cVi (wr := []) (As := [.int x]) (rest := [.int (nI 0), .ref k0]) ⟨hx, hb, hml, hown, hts⟩ (pX1_framesOf l D k0 k1 k2 k3 k4 k5 k6 cI th F ca ow sl gl mn va ki ra hF x) (cwV 1 hts gX1_leave_X1_framesOf rfl rfl rfl (by decide +kernel) ⟨(Nat.le_of_ble_eq_true rfl), (Nat.le_of_ble_eq_true rfl)⟩) hK hP hD hS hA [0, 1, 2, 3, 4, 5, 6] [] rfl rfl (by decide) (by decide) (by decide) 0 rfl rfl rfl hl.1 rfl (Nat.le_of_ble_eq_true rfl) dX1_leave_25 ⟨(Nat.le_of_ble_eq_true rfl), (Nat.le_of_ble_eq_true rfl)⟩ (fun r u H locs hw hP hD hS => ?_)
          obtain ⟨rfl, rfl⟩ := hw
          have hP : va_P D kC (wM k0 k1 k2 k3 k4 k5 k6 cI th (nI F) ca ow sl gl mn va ki ra) H := hP
          have hD : va_D A (wM k0 k1 k2 k3 k4 k5 k6 cI th (nI F) ca ow sl gl mn va ki ra) := hD
          refine lv_iconst (v := nI 1) hx hb dX1_leave_28 (by decide) ?_
          refine kIle (a := (rw_ ow F).count x) (b := 1) (by omega) (by omega) (tgt := 36) hx hb dX1_leave_29 (by decide) (fun c9 => ?_) (fun c9 => ?_)
          · skip
            refine lv_iconst (v := nI 0) hx hb dX1_leave_36 (by decide) ?_
            refine cVi (wr := []) (As := [.int (nI 0), .int (nI 0)]) (rest := []) ⟨hx, hb, hml, hown, hts⟩ (pX1_goes l D k0 k1 k2 k3 k4 k5 k6 cI th F ca ow sl gl mn va ki ra 0 0 (by decide) (by decide)) (cwV 2 hts gX1_leave_X1_goes rfl rfl rfl (by decide +kernel) ⟨(Nat.le_of_ble_eq_true rfl), (Nat.le_of_ble_eq_true rfl)⟩) hK hP hD hS hA [0, 1, 2, 3, 4, 5, 6] [] rfl rfl (by decide) (by decide) (by decide) 0 rfl rfl rfl hl.1 rfl (Nat.le_of_ble_eq_true rfl) dX1_leave_37 ⟨(Nat.le_of_ble_eq_true rfl), (Nat.le_of_ble_eq_true rfl)⟩ (fun r u H locs hw hP hD hS => ?_)
            obtain ⟨rfl, rfl⟩ := hw
            have hP : va_P D kC (wM k0 k1 k2 k3 k4 k5 k6 cI (nI 1) (nI F) ca ow sl gl mn va ki ra) H := hP
            have hD : va_D A (wM k0 k1 k2 k3 k4 k5 k6 cI (nI 1) (nI F) ca ow sl gl mn va ki ra) := hD
            refine kTop (v' := nI 0) rfl ?_
            refine kNe0 (a := 0) (by omega) (tgt := 45) hx hb dX1_leave_40 (by decide) (fun c8 => ?_) (fun c8 => ?_)
            · skip
              exact absurd c8 (by decide)
            · skip
              refine lv_iconst (v := nI 0) hx hb dX1_leave_43 (by decide) ?_
              exact (kReti hx hb hr hlocks dX1_leave_44 (Nat.le_of_ble_eq_true rfl) (Nat.le_of_ble_eq_true rfl) hK hS hP hD (Or.inr (Or.inl ⟨fun h => (Int32.not_le.mpr ((inR_iff (n := 8) (by decide)).mp h.2).2) c2, rfl⟩)))
          · skip
            refine lv_iconst (v := nI 1) hx hb dX1_leave_32 (by decide) ?_
            refine lv_goto (tgt := 37) hx hb dX1_leave_33 (by decide) ?_
            refine cVi (wr := []) (As := [.int (nI 0), .int (nI 1)]) (rest := []) ⟨hx, hb, hml, hown, hts⟩ (pX1_goes l D k0 k1 k2 k3 k4 k5 k6 cI th F ca ow sl gl mn va ki ra 0 1 (by decide) (by decide)) (cwV 2 hts gX1_leave_X1_goes rfl rfl rfl (by decide +kernel) ⟨(Nat.le_of_ble_eq_true rfl), (Nat.le_of_ble_eq_true rfl)⟩) hK hP hD hS hA [0, 1, 2, 3, 4, 5, 6] [] rfl rfl (by decide) (by decide) (by decide) 0 rfl rfl rfl hl.1 rfl (Nat.le_of_ble_eq_true rfl) dX1_leave_37 ⟨(Nat.le_of_ble_eq_true rfl), (Nat.le_of_ble_eq_true rfl)⟩ (fun r u H locs hw hP hD hS => ?_)
            obtain ⟨rfl, rfl⟩ := hw
            have hP : va_P D kC (wM k0 k1 k2 k3 k4 k5 k6 cI (nI 1) (nI F) ca ow sl gl mn va ki ra) H := hP
            have hD : va_D A (wM k0 k1 k2 k3 k4 k5 k6 cI (nI 1) (nI F) ca ow sl gl mn va ki ra) := hD
            refine kTop (v' := nI 0) rfl ?_
            refine kNe0 (a := 0) (by omega) (tgt := 45) hx hb dX1_leave_40 (by decide) (fun c8 => ?_) (fun c8 => ?_)
            · skip
              exact absurd c8 (by decide)
            · skip
              refine lv_iconst (v := nI 0) hx hb dX1_leave_43 (by decide) ?_
              exact (kReti hx hb hr hlocks dX1_leave_44 (Nat.le_of_ble_eq_true rfl) (Nat.le_of_ble_eq_true rfl) hK hS hP hD (Or.inr (Or.inl ⟨fun h => (Int32.not_le.mpr ((inR_iff (n := 8) (by decide)).mp h.2).2) c2, rfl⟩)))
        · skip
          have hy9 : inR y 8 := (inR_iff (n := 8) (by decide)).mpr ⟨c1, Int32.not_le.mp c2⟩
          refine lv_iconst (v := nI 1) hx hb dX1_leave_18 (by decide) ?_
          refine lv_goto (tgt := 23) hx hb dX1_leave_19 (by decide) ?_
          refine lv_aload_n hx hb dX1_leave_23 rfl (lv_at hl 0 rfl) ?_
          refine lv_iload_n hx hb dX1_leave_24 rfl (lv_at hl 1 rfl) ?_
          refine cVi (wr := []) (As := [.int x]) (rest := [.int (nI 1), .ref k0]) ⟨hx, hb, hml, hown, hts⟩ (pX1_framesOf l D k0 k1 k2 k3 k4 k5 k6 cI th F ca ow sl gl mn va ki ra hF x) (cwV 1 hts gX1_leave_X1_framesOf rfl rfl rfl (by decide +kernel) ⟨(Nat.le_of_ble_eq_true rfl), (Nat.le_of_ble_eq_true rfl)⟩) hK hP hD hS hA [0, 1, 2, 3, 4, 5, 6] [] rfl rfl (by decide) (by decide) (by decide) 0 rfl rfl rfl hl.1 rfl (Nat.le_of_ble_eq_true rfl) dX1_leave_25 ⟨(Nat.le_of_ble_eq_true rfl), (Nat.le_of_ble_eq_true rfl)⟩ (fun r u H locs hw hP hD hS => ?_)
          obtain ⟨rfl, rfl⟩ := hw
          have hP : va_P D kC (wM k0 k1 k2 k3 k4 k5 k6 cI th (nI F) ca ow sl gl mn va ki ra) H := hP
          have hD : va_D A (wM k0 k1 k2 k3 k4 k5 k6 cI th (nI F) ca ow sl gl mn va ki ra) := hD
          refine lv_iconst (v := nI 1) hx hb dX1_leave_28 (by decide) ?_
          refine kIle (a := (rw_ ow F).count x) (b := 1) (by omega) (by omega) (tgt := 36) hx hb dX1_leave_29 (by decide) (fun c9 => ?_) (fun c9 => ?_)
          · skip
            refine lv_iconst (v := nI 0) hx hb dX1_leave_36 (by decide) ?_
            refine cVi (wr := []) (As := [.int (nI 1), .int (nI 0)]) (rest := []) ⟨hx, hb, hml, hown, hts⟩ (pX1_goes l D k0 k1 k2 k3 k4 k5 k6 cI th F ca ow sl gl mn va ki ra 1 0 (by decide) (by decide)) (cwV 2 hts gX1_leave_X1_goes rfl rfl rfl (by decide +kernel) ⟨(Nat.le_of_ble_eq_true rfl), (Nat.le_of_ble_eq_true rfl)⟩) hK hP hD hS hA [0, 1, 2, 3, 4, 5, 6] [] rfl rfl (by decide) (by decide) (by decide) 0 rfl rfl rfl hl.1 rfl (Nat.le_of_ble_eq_true rfl) dX1_leave_37 ⟨(Nat.le_of_ble_eq_true rfl), (Nat.le_of_ble_eq_true rfl)⟩ (fun r u H locs hw hP hD hS => ?_)
            obtain ⟨rfl, rfl⟩ := hw
            have hP : va_P D kC (wM k0 k1 k2 k3 k4 k5 k6 cI (nI 2) (nI F) ca ow sl gl mn va ki ra) H := hP
            have hD : va_D A (wM k0 k1 k2 k3 k4 k5 k6 cI (nI 2) (nI F) ca ow sl gl mn va ki ra) := hD
            refine kTop (v' := nI 0) rfl ?_
            refine kNe0 (a := 0) (by omega) (tgt := 45) hx hb dX1_leave_40 (by decide) (fun c8 => ?_) (fun c8 => ?_)
            · skip
              exact absurd c8 (by decide)
            · skip
              refine lv_iconst (v := nI 0) hx hb dX1_leave_43 (by decide) ?_
              exact (kReti hx hb hr hlocks dX1_leave_44 (Nat.le_of_ble_eq_true rfl) (Nat.le_of_ble_eq_true rfl) hK hS hP hD (Or.inr (Or.inr ⟨⟨hx9, hy9⟩, c9, rfl⟩)))
          · skip
            refine lv_iconst (v := nI 1) hx hb dX1_leave_32 (by decide) ?_
            refine lv_goto (tgt := 37) hx hb dX1_leave_33 (by decide) ?_
            refine cVi (wr := []) (As := [.int (nI 1), .int (nI 1)]) (rest := []) ⟨hx, hb, hml, hown, hts⟩ (pX1_goes l D k0 k1 k2 k3 k4 k5 k6 cI th F ca ow sl gl mn va ki ra 1 1 (by decide) (by decide)) (cwV 2 hts gX1_leave_X1_goes rfl rfl rfl (by decide +kernel) ⟨(Nat.le_of_ble_eq_true rfl), (Nat.le_of_ble_eq_true rfl)⟩) hK hP hD hS hA [0, 1, 2, 3, 4, 5, 6] [] rfl rfl (by decide) (by decide) (by decide) 0 rfl rfl rfl hl.1 rfl (Nat.le_of_ble_eq_true rfl) dX1_leave_37 ⟨(Nat.le_of_ble_eq_true rfl), (Nat.le_of_ble_eq_true rfl)⟩ (fun r u H locs hw hP hD hS => ?_)
            obtain ⟨rfl, rfl⟩ := hw
            have hP : va_P D kC (wM k0 k1 k2 k3 k4 k5 k6 cI (nI 0) (nI F) ca ow sl gl mn va ki ra) H := hP
            have hD : va_D A (wM k0 k1 k2 k3 k4 k5 k6 cI (nI 0) (nI F) ca ow sl gl mn va ki ra) := hD
            refine kTop (v' := nI 1) rfl ?_
            refine kNe0 (a := 1) (by omega) (tgt := 45) hx hb dX1_leave_40 (by decide) (fun c8 => ?_) (fun c8 => ?_)
            · skip
              obtain ⟨s9, hs9, rfl⟩ := hy9
              refine lv_aload_n hx hb dX1_leave_45 rfl (lv_at hl 0 rfl) ?_
              refine lv_iload_n hx hb dX1_leave_46 rfl (lv_at hl 1 rfl) ?_
              refine cVi (wr := []) (As := [.int x]) (rest := []) ⟨hx, hb, hml, hown, hts⟩ (pX1_framesOf l D k0 k1 k2 k3 k4 k5 k6 cI (nI 0) F ca ow sl gl mn va ki ra hF x) (cwV 1 hts gX1_leave_X1_framesOf rfl rfl rfl (by decide +kernel) ⟨(Nat.le_of_ble_eq_true rfl), (Nat.le_of_ble_eq_true rfl)⟩) hK hP hD hS hA [0, 1, 2, 3, 4, 5, 6] [] rfl rfl (by decide) (by decide) (by decide) 0 rfl rfl rfl hl.1 rfl (Nat.le_of_ble_eq_true rfl) dX1_leave_47 ⟨(Nat.le_of_ble_eq_true rfl), (Nat.le_of_ble_eq_true rfl)⟩ (fun r u H locs hw hP hD hS => ?_)
              obtain ⟨rfl, rfl⟩ := hw
              have hP : va_P D kC (wM k0 k1 k2 k3 k4 k5 k6 cI (nI 0) (nI F) ca ow sl gl mn va ki ra) H := hP
              have hD : va_D A (wM k0 k1 k2 k3 k4 k5 k6 cI (nI 0) (nI F) ca ow sl gl mn va ki ra) := hD
              refine lv_istore_n (lv' := [(3, .int (nI ((rw_ ow F).count x))), (0, .ref k0), (1, .int x), (2, .int (nI s9))]) hx hb dX1_leave_50 rfl hl (by decide) rfl (fun ls hl => ?_)
              refine lv_aload_n hx hb dX1_leave_51 rfl (lv_at hl 1 rfl) ?_
              refine lv_iload_n hx hb dX1_leave_52 rfl (lv_at hl 2 rfl) ?_
              refine lv_iload_n hx hb dX1_leave_53 rfl (lv_at hl 0 rfl) ?_
              refine lv_iconst (v := nI 1) hx hb dX1_leave_54 (by decide) ?_
              refine kSub (by omega) hx hb dX1_leave_55 ?_
              refine cVi (wr := []) (As := [.int x, .int (nI (((rw_ ow F).count x) - 1))]) (rest := []) ⟨hx, hb, hml, hown, hts⟩ (pX1_frame l D k0 k1 k2 k3 k4 k5 k6 cI (nI 0) F ca ow sl gl mn va ki ra hF x ((rw_ ow F).count x - 1) (by omega)) (cwV 2 hts gX1_leave_X1_frame rfl rfl rfl (by decide +kernel) ⟨(Nat.le_of_ble_eq_true rfl), (Nat.le_of_ble_eq_true rfl)⟩) hK hP hD hS hA [0, 1, 2, 3, 4, 5, 6] [] rfl rfl (by decide) (by decide) (by decide) 0 rfl rfl rfl hl.1 rfl (Nat.le_of_ble_eq_true rfl) dX1_leave_56 ⟨(Nat.le_of_ble_eq_true rfl), (Nat.le_of_ble_eq_true rfl)⟩ (fun r u H locs hw hP hD hS => ?_)
              obtain ⟨rfl, hw⟩ := hw
              obtain ⟨q1, rfl, hq1, hoq1, hcq1⟩ : ∃ q, r = nI q ∧ q < F ∧ ow q = x ∧ (rw_ ow q).count x = (rw_ ow F).count x - 1 := by rcases hw with ⟨-, h9⟩ | h9; exact absurd h9 (by omega); exact h9
              have hP : va_P D kC (wM k0 k1 k2 k3 k4 k5 k6 cI (nI 0) (nI F) ca ow sl gl mn va ki ra) H := hP
              have hD : va_D A (wM k0 k1 k2 k3 k4 k5 k6 cI (nI 0) (nI F) ca ow sl gl mn va ki ra) := hD
              refine lv_istore (lv' := [(4, .int (nI q1)), (3, .int (nI ((rw_ ow F).count x))), (0, .ref k0), (1, .int x), (2, .int (nI s9))]) hx hb dX1_leave_59 hl (by decide) rfl (fun ls hl => ?_)
              refine lv_aload_n hx hb dX1_leave_61 rfl (lv_at hl 2 rfl) ?_
              refine va_get (D := D) (ci := 1) (v := .ref k2) (C := RX1) (T := TX1) (N := 10) hx hb hts hin hown hK hP 0 rfl rfl 4 (by decide) (hts (.fieldLink RX1 17 "FrameRowModel" "slots" "[I") (by decide +kernel)) (fun _ h9 => h9) rfl dX1_leave_62 ?_
              refine lv_bipush (v := nI 8) hx hb dX1_leave_65 (by decide) ?_
              refine lv_aload_n hx hb dX1_leave_67 rfl (lv_at hl 2 rfl) ?_
              refine lv_iload_n hx hb dX1_leave_68 rfl (lv_at hl 3 rfl) ?_
              refine lv_iload_n hx hb dX1_leave_69 rfl (lv_at hl 1 rfl) ?_
              refine lv_iconst (v := nI 2) hx hb dX1_leave_70 (by decide) ?_
              refine kSub (by omega) hx hb dX1_leave_71 ?_
              refine cVi (wr := []) (As := [.int x, .int (nI (((rw_ ow F).count x) - 2))]) (rest := [.int (nI 8), .ref k2]) ⟨hx, hb, hml, hown, hts⟩ (pX1_frame l D k0 k1 k2 k3 k4 k5 k6 cI (nI 0) F ca ow sl gl mn va ki ra hF x ((rw_ ow F).count x - 2) (by omega)) (cwV 2 hts gX1_leave_X1_frame rfl rfl rfl (by decide +kernel) ⟨(Nat.le_of_ble_eq_true rfl), (Nat.le_of_ble_eq_true rfl)⟩) hK hP hD hS hA [0, 1, 2, 3, 4, 5, 6] [] rfl rfl (by decide) (by decide) (by decide) 0 rfl rfl rfl hl.1 rfl (Nat.le_of_ble_eq_true rfl) dX1_leave_72 ⟨(Nat.le_of_ble_eq_true rfl), (Nat.le_of_ble_eq_true rfl)⟩ (fun r u H locs hw hP hD hS => ?_)
              obtain ⟨rfl, hw⟩ := hw
              obtain ⟨q2, rfl, hq2, hoq2, hcq2⟩ : ∃ q, r = nI q ∧ q < F ∧ ow q = x ∧ (rw_ ow q).count x = (rw_ ow F).count x - 2 := by rcases hw with ⟨-, h9⟩ | h9; exact absurd h9 (by omega); exact h9
              have hP : va_P D kC (wM k0 k1 k2 k3 k4 k5 k6 cI (nI 0) (nI F) ca ow sl gl mn va ki ra) H := hP
              have hD : va_D A (wM k0 k1 k2 k3 k4 k5 k6 cI (nI 0) (nI F) ca ow sl gl mn va ki ra) := hD
              refine kMul hx hb dX1_leave_75 ?_
              refine lv_aload_n hx hb dX1_leave_76 rfl (lv_at hl 2 rfl) ?_
              refine va_get (D := D) (ci := 1) (v := .ref k2) (C := RX1) (T := TX1) (N := 10) hx hb hts hin hown hK hP 0 rfl rfl 4 (by decide) (hts (.fieldLink RX1 17 "FrameRowModel" "slots" "[I") (by decide +kernel)) (fun _ h9 => h9) rfl dX1_leave_77 ?_
              refine lv_bipush (v := nI 8) hx hb dX1_leave_80 (by decide) ?_
              refine lv_iload hx hb dX1_leave_82 (lv_at hl 0 rfl) ?_
              refine kMul hx hb dX1_leave_84 ?_
              refine lv_iload_n hx hb dX1_leave_85 rfl (lv_at hl 4 rfl) ?_
              refine kAdd hx hb dX1_leave_86 ?_
              refine kLd hx hb hK hP 2 0 rfl rfl (j := (8 * q1) + s9) (by omega) (by decide) dX1_leave_87 ?_
              refine kSt hx hb hK hP hD hS 2 0 rfl rfl (j := 8 * q2) (by omega) (by decide) dX1_leave_88 (fun H locs hP hD hS => ?_)
              have hP : va_P D kC (wM k0 k1 k2 k3 k4 k5 k6 cI (nI 0) (nI F) ca ow (upd sl (8 * q2) (sl ((8 * q1) + s9))) gl mn va ki ra) H := hP
              have hD : va_D A (wM k0 k1 k2 k3 k4 k5 k6 cI (nI 0) (nI F) ca ow (upd sl (8 * q2) (sl ((8 * q1) + s9))) gl mn va ki ra) := hD
              refine lv_aload_n hx hb dX1_leave_89 rfl (lv_at hl 2 rfl) ?_
              refine lv_iload hx hb dX1_leave_90 (lv_at hl 0 rfl) ?_
              refine cVv (wr := []) (As := [.int (nI q1)]) (rest := []) ⟨hx, hb, hml, hown, hts⟩ (pX1_drop l D k0 k1 k2 k3 k4 k5 k6 cI (nI 0) F ca ow (upd sl (8 * q2) (sl ((8 * q1) + s9))) gl mn va ki ra hF q1 hq1) (cwV 1 hts gX1_leave_X1_drop rfl rfl rfl (by decide +kernel) ⟨(Nat.le_of_ble_eq_true rfl), (Nat.le_of_ble_eq_true rfl)⟩) hK hP hD hS hA [0, 1, 2, 3, 4, 5, 6] [] rfl rfl (by decide) (by decide) (by decide) 0 rfl rfl rfl hl.1 rfl (Nat.le_of_ble_eq_true rfl) dX1_leave_92 ⟨(Nat.le_of_ble_eq_true rfl), (Nat.le_of_ble_eq_true rfl)⟩ (fun u H locs hw hP hD hS => ?_)
              obtain rfl := hw
              have hP : va_P D kC (wM k0 k1 k2 k3 k4 k5 k6 cI (nI 0) (nI (F - 1)) ca ((fun t => if q1 ≤ t ∧ t < F - 1 then ow (t + 1) else ow t)) ((fun t => if 8 * q1 ≤ t ∧ t < 8 * (F - 1) then (upd sl (8 * q2) (sl (8 * q1 + s9))) (t + 8) else (upd sl (8 * q2) (sl (8 * q1 + s9))) t)) gl mn va ki ra) H := hP
              have hD : va_D A (wM k0 k1 k2 k3 k4 k5 k6 cI (nI 0) (nI (F - 1)) ca ((fun t => if q1 ≤ t ∧ t < F - 1 then ow (t + 1) else ow t)) ((fun t => if 8 * q1 ≤ t ∧ t < 8 * (F - 1) then (upd sl (8 * q2) (sl (8 * q1 + s9))) (t + 8) else (upd sl (8 * q2) (sl (8 * q1 + s9))) t)) gl mn va ki ra) := hD
              refine lv_iload_n hx hb dX1_leave_95 rfl (lv_at hl 1 rfl) ?_
              refine lv_iconst (v := nI 1) hx hb dX1_leave_96 (by decide) ?_
              refine kSub (by omega) hx hb dX1_leave_97 ?_
              exact (kReti hx hb hr hlocks dX1_leave_98 (Nat.le_of_ble_eq_true rfl) (Nat.le_of_ble_eq_true rfl) hK hS hP hD (Or.inl ⟨⟨hx9, s9, hs9, rfl⟩, c9, rfl, s9, q1, q2, hs9, rfl, hq1, hoq1, hcq1, hq2, hoq2, hcq2, rfl⟩))
            · skip
              exact absurd c8 (by decide)
  · skip
    refine kEq0 (a := 0) (by omega) (tgt := 22) hx hb dX1_leave_5 (by decide) (fun c0 => ?_) (fun c0 => ?_)
    · skip
      refine lv_iconst (v := nI 0) hx hb dX1_leave_22 (by decide) ?_
      refine lv_aload_n hx hb dX1_leave_23 rfl (lv_at hl 0 rfl) ?_
      refine lv_iload_n hx hb dX1_leave_24 rfl (lv_at hl 1 rfl) ?_
      refine cVi (wr := []) (As := [.int x]) (rest := [.int (nI 0), .ref k0]) ⟨hx, hb, hml, hown, hts⟩ (pX1_framesOf l D k0 k1 k2 k3 k4 k5 k6 cI th F ca ow sl gl mn va ki ra hF x) (cwV 1 hts gX1_leave_X1_framesOf rfl rfl rfl (by decide +kernel) ⟨(Nat.le_of_ble_eq_true rfl), (Nat.le_of_ble_eq_true rfl)⟩) hK hP hD hS hA [0, 1, 2, 3, 4, 5, 6] [] rfl rfl (by decide) (by decide) (by decide) 0 rfl rfl rfl hl.1 rfl (Nat.le_of_ble_eq_true rfl) dX1_leave_25 ⟨(Nat.le_of_ble_eq_true rfl), (Nat.le_of_ble_eq_true rfl)⟩ (fun r u H locs hw hP hD hS => ?_)
      obtain ⟨rfl, rfl⟩ := hw
      have hP : va_P D kC (wM k0 k1 k2 k3 k4 k5 k6 cI th (nI F) ca ow sl gl mn va ki ra) H := hP
      have hD : va_D A (wM k0 k1 k2 k3 k4 k5 k6 cI th (nI F) ca ow sl gl mn va ki ra) := hD
      refine lv_iconst (v := nI 1) hx hb dX1_leave_28 (by decide) ?_
      refine kIle (a := (rw_ ow F).count x) (b := 1) (by omega) (by omega) (tgt := 36) hx hb dX1_leave_29 (by decide) (fun c9 => ?_) (fun c9 => ?_)
      · skip
        refine lv_iconst (v := nI 0) hx hb dX1_leave_36 (by decide) ?_
        refine cVi (wr := []) (As := [.int (nI 0), .int (nI 0)]) (rest := []) ⟨hx, hb, hml, hown, hts⟩ (pX1_goes l D k0 k1 k2 k3 k4 k5 k6 cI th F ca ow sl gl mn va ki ra 0 0 (by decide) (by decide)) (cwV 2 hts gX1_leave_X1_goes rfl rfl rfl (by decide +kernel) ⟨(Nat.le_of_ble_eq_true rfl), (Nat.le_of_ble_eq_true rfl)⟩) hK hP hD hS hA [0, 1, 2, 3, 4, 5, 6] [] rfl rfl (by decide) (by decide) (by decide) 0 rfl rfl rfl hl.1 rfl (Nat.le_of_ble_eq_true rfl) dX1_leave_37 ⟨(Nat.le_of_ble_eq_true rfl), (Nat.le_of_ble_eq_true rfl)⟩ (fun r u H locs hw hP hD hS => ?_)
        obtain ⟨rfl, rfl⟩ := hw
        have hP : va_P D kC (wM k0 k1 k2 k3 k4 k5 k6 cI (nI 1) (nI F) ca ow sl gl mn va ki ra) H := hP
        have hD : va_D A (wM k0 k1 k2 k3 k4 k5 k6 cI (nI 1) (nI F) ca ow sl gl mn va ki ra) := hD
        refine kTop (v' := nI 0) rfl ?_
        refine kNe0 (a := 0) (by omega) (tgt := 45) hx hb dX1_leave_40 (by decide) (fun c8 => ?_) (fun c8 => ?_)
        · skip
          exact absurd c8 (by decide)
        · skip
          refine lv_iconst (v := nI 0) hx hb dX1_leave_43 (by decide) ?_
          exact (kReti hx hb hr hlocks dX1_leave_44 (Nat.le_of_ble_eq_true rfl) (Nat.le_of_ble_eq_true rfl) hK hS hP hD (Or.inr (Or.inl ⟨fun h => hx9 h.1, rfl⟩)))
      · skip
        refine lv_iconst (v := nI 1) hx hb dX1_leave_32 (by decide) ?_
        refine lv_goto (tgt := 37) hx hb dX1_leave_33 (by decide) ?_
        refine cVi (wr := []) (As := [.int (nI 0), .int (nI 1)]) (rest := []) ⟨hx, hb, hml, hown, hts⟩ (pX1_goes l D k0 k1 k2 k3 k4 k5 k6 cI th F ca ow sl gl mn va ki ra 0 1 (by decide) (by decide)) (cwV 2 hts gX1_leave_X1_goes rfl rfl rfl (by decide +kernel) ⟨(Nat.le_of_ble_eq_true rfl), (Nat.le_of_ble_eq_true rfl)⟩) hK hP hD hS hA [0, 1, 2, 3, 4, 5, 6] [] rfl rfl (by decide) (by decide) (by decide) 0 rfl rfl rfl hl.1 rfl (Nat.le_of_ble_eq_true rfl) dX1_leave_37 ⟨(Nat.le_of_ble_eq_true rfl), (Nat.le_of_ble_eq_true rfl)⟩ (fun r u H locs hw hP hD hS => ?_)
        obtain ⟨rfl, rfl⟩ := hw
        have hP : va_P D kC (wM k0 k1 k2 k3 k4 k5 k6 cI (nI 1) (nI F) ca ow sl gl mn va ki ra) H := hP
        have hD : va_D A (wM k0 k1 k2 k3 k4 k5 k6 cI (nI 1) (nI F) ca ow sl gl mn va ki ra) := hD
        refine kTop (v' := nI 0) rfl ?_
        refine kNe0 (a := 0) (by omega) (tgt := 45) hx hb dX1_leave_40 (by decide) (fun c8 => ?_) (fun c8 => ?_)
        · skip
          exact absurd c8 (by decide)
        · skip
          refine lv_iconst (v := nI 0) hx hb dX1_leave_43 (by decide) ?_
          exact (kReti hx hb hr hlocks dX1_leave_44 (Nat.le_of_ble_eq_true rfl) (Nat.le_of_ble_eq_true rfl) hK hS hP hD (Or.inr (Or.inl ⟨fun h => hx9 h.1, rfl⟩)))
    · skip
      exact absurd c0 (by decide)

set_option maxHeartbeats 4000000 in
set_option maxRecDepth 100000 in
theorem pX1_cut (l : Launch) (D : va_G) (k0 k1 k2 k3 k4 k5 k6 : Nat) (cI : ClassId) (th : Int32) (F : Nat) (ca : Int32) (ow sl gl : Nat → Int32) (mn : Int32) (va ki ra : Nat → Int32) (hF : F ≤ 256) (x y : Int32) : Mi l yX1_cut wsX1_cut r2 D (tI cI) [.ref k0, .int x, .int y] (wM k0 k1 k2 k3 k4 k5 k6 cI th (nI F) ca ow sl gl mn va ki ra) (fun r u => (inR x 4 ∧ ∃ lf9, y = nI lf9 ∧ 1 ≤ lf9 ∧ lf9 ≤ (rw_ ow F).count x ∧ r = nI ((rw_ ow F).count x - lf9) ∧ ∃ ow' sl' : Nat → Int32, CutR ow sl x F ((rw_ ow F).count x - lf9) ow' sl' ∧ u = wM k0 k1 k2 k3 k4 k5 k6 cI (nI 0) (nI (F - ((rw_ ow F).count x - lf9))) ca ow' sl' gl mn va ki ra) ∨ (¬ (inR x 4 ∧ ∃ lf9, y = nI lf9 ∧ 1 ≤ lf9 ∧ lf9 ≤ (rw_ ow F).count x) ∧ u = wM k0 k1 k2 k3 k4 k5 k6 cI (nI 1) (nI F) ca ow sl gl mn va ki ra)) := by
  refine Mi.of (cc := cX1_cut) (maxL := 5) (ty := .int) (by decide +kernel) rfl (Nat.le_of_ble_eq_true rfl) ?_
  rintro p e s m below meth c ls A ⟨hx, hb, hr, hml, hts, hown, hlocks, hnm, hP, hK, hD, hA, hS, hl⟩
  have hown : s.vm.findClass RX1 = some m.cls := hown
  have hl : lv_has ls 5 [(0, .ref k0), (1, .int x), (2, .int y)] := hl
  have hin : ∀ w ∈ wsX10, w ∈ wsX1_cut := by decide +kernel
  have hP : va_P D kC (wM k0 k1 k2 k3 k4 k5 k6 cI th (nI F) ca ow sl gl mn va ki ra) s.heap := hP
  have hD : va_D A (wM k0 k1 k2 k3 k4 k5 k6 cI th (nI F) ca ow sl gl mn va ki ra) := hD
  have hcl := rw_count_le ow F x
  refine lv_aload_n hx hb dX1_cut_0 rfl (lv_at hl 0 rfl) ?_
  refine lv_iload_n hx hb dX1_cut_1 rfl (lv_at hl 1 rfl) ?_
  refine cSi (wr := wM k0 k1 k2 k3 k4 k5 k6 cI th (nI F) ca ow sl gl mn va ki ra) (As := [.int x]) (rest := [.ref k0]) ⟨hx, hb, hml, hown, hts⟩ (pX1_isMutator l D cI x) (va_cwS 1 hts gX1_cut_X1_isMutator rfl rfl rfl (by decide +kernel) ⟨(Nat.le_of_ble_eq_true rfl), (Nat.le_of_ble_eq_true rfl)⟩) hK hP hD hS hA [] [0, 1, 2, 3, 4, 5, 6] rfl rfl (by decide) (by decide) (by decide) rfl hl.1 rfl (Nat.le_of_ble_eq_true rfl) dX1_cut_2 ⟨(Nat.le_of_ble_eq_true rfl), (Nat.le_of_ble_eq_true rfl)⟩ (fun r u H locs hw hP hD hS => ?_)
  obtain ⟨rfl, hw⟩ := hw
  have hP : va_P D kC (wM k0 k1 k2 k3 k4 k5 k6 cI th (nI F) ca ow sl gl mn va ki ra) H := hP
  have hD : va_D A (wM k0 k1 k2 k3 k4 k5 k6 cI th (nI F) ca ow sl gl mn va ki ra) := hD
  rcases hw with ⟨hx9, rfl⟩ | ⟨hx9, rfl⟩
  · skip
    refine kEq0 (a := 1) (by omega) (tgt := 26) hx hb dX1_cut_5 (by decide) (fun c0 => ?_) (fun c0 => ?_)
    · skip
      exact absurd c0 (by decide)
    · skip
      refine lv_iload_n hx hb dX1_cut_8 rfl (lv_at hl 2 rfl) ?_
      refine lv_iconst (v := nI 1) hx hb dX1_cut_9 (by decide) ?_
      refine lv_icmp_lt (tgt := 26) hx hb dX1_cut_10 (by decide) (fun c1 => ?_) (fun c1 => ?_)
      · skip
        refine lv_iconst (v := nI 0) hx hb dX1_cut_26 (by decide) ?_
        refine lv_iconst (v := nI 1) hx hb dX1_cut_27 (by decide) ?_
        refine cVi (wr := []) (As := [.int (nI 0), .int (nI 1)]) (rest := []) ⟨hx, hb, hml, hown, hts⟩ (pX1_goes l D k0 k1 k2 k3 k4 k5 k6 cI th F ca ow sl gl mn va ki ra 0 1 (by decide) (by decide)) (cwV 2 hts gX1_cut_X1_goes rfl rfl rfl (by decide +kernel) ⟨(Nat.le_of_ble_eq_true rfl), (Nat.le_of_ble_eq_true rfl)⟩) hK hP hD hS hA [0, 1, 2, 3, 4, 5, 6] [] rfl rfl (by decide) (by decide) (by decide) 0 rfl rfl rfl hl.1 rfl (Nat.le_of_ble_eq_true rfl) dX1_cut_28 ⟨(Nat.le_of_ble_eq_true rfl), (Nat.le_of_ble_eq_true rfl)⟩ (fun r u H locs hw hP hD hS => ?_)
        obtain ⟨rfl, rfl⟩ := hw
        have hP : va_P D kC (wM k0 k1 k2 k3 k4 k5 k6 cI (nI 1) (nI F) ca ow sl gl mn va ki ra) H := hP
        have hD : va_D A (wM k0 k1 k2 k3 k4 k5 k6 cI (nI 1) (nI F) ca ow sl gl mn va ki ra) := hD
        refine kTop (v' := nI 0) rfl ?_
        refine kNe0 (a := 0) (by omega) (tgt := 36) hx hb dX1_cut_31 (by decide) (fun c8 => ?_) (fun c8 => ?_)
        · skip
          exact absurd c8 (by decide)
        · skip
          refine lv_iconst (v := nI 0) hx hb dX1_cut_34 (by decide) ?_
          exact (kReti hx hb hr hlocks dX1_cut_35 (Nat.le_of_ble_eq_true rfl) (Nat.le_of_ble_eq_true rfl) hK hS hP hD (Or.inr ⟨fun ⟨_, lf, e1, e2, e3⟩ => absurd c1 (by rw [e1]; exact nI_nlt e2 (by omega)), rfl⟩))
      · skip
        refine lv_iload_n hx hb dX1_cut_13 rfl (lv_at hl 2 rfl) ?_
        refine lv_aload_n hx hb dX1_cut_14 rfl (lv_at hl 0 rfl) ?_
        refine lv_iload_n hx hb dX1_cut_15 rfl (lv_at hl 1 rfl) ?_
        refine cVi (wr := []) (As := [.int x]) (rest := [.int y, .ref k0]) ⟨hx, hb, hml, hown, hts⟩ (pX1_framesOf l D k0 k1 k2 k3 k4 k5 k6 cI th F ca ow sl gl mn va ki ra hF x) (cwV 1 hts gX1_cut_X1_framesOf rfl rfl rfl (by decide +kernel) ⟨(Nat.le_of_ble_eq_true rfl), (Nat.le_of_ble_eq_true rfl)⟩) hK hP hD hS hA [0, 1, 2, 3, 4, 5, 6] [] rfl rfl (by decide) (by decide) (by decide) 0 rfl rfl rfl hl.1 rfl (Nat.le_of_ble_eq_true rfl) dX1_cut_16 ⟨(Nat.le_of_ble_eq_true rfl), (Nat.le_of_ble_eq_true rfl)⟩ (fun r u H locs hw hP hD hS => ?_)
        obtain ⟨rfl, rfl⟩ := hw
        have hP : va_P D kC (wM k0 k1 k2 k3 k4 k5 k6 cI th (nI F) ca ow sl gl mn va ki ra) H := hP
        have hD : va_D A (wM k0 k1 k2 k3 k4 k5 k6 cI th (nI F) ca ow sl gl mn va ki ra) := hD
        refine lv_icmp_gt (tgt := 26) hx hb dX1_cut_19 (by decide) (fun c2 => ?_) (fun c2 => ?_)
        · skip
          refine lv_iconst (v := nI 0) hx hb dX1_cut_26 (by decide) ?_
          refine lv_iconst (v := nI 1) hx hb dX1_cut_27 (by decide) ?_
          refine cVi (wr := []) (As := [.int (nI 0), .int (nI 1)]) (rest := []) ⟨hx, hb, hml, hown, hts⟩ (pX1_goes l D k0 k1 k2 k3 k4 k5 k6 cI th F ca ow sl gl mn va ki ra 0 1 (by decide) (by decide)) (cwV 2 hts gX1_cut_X1_goes rfl rfl rfl (by decide +kernel) ⟨(Nat.le_of_ble_eq_true rfl), (Nat.le_of_ble_eq_true rfl)⟩) hK hP hD hS hA [0, 1, 2, 3, 4, 5, 6] [] rfl rfl (by decide) (by decide) (by decide) 0 rfl rfl rfl hl.1 rfl (Nat.le_of_ble_eq_true rfl) dX1_cut_28 ⟨(Nat.le_of_ble_eq_true rfl), (Nat.le_of_ble_eq_true rfl)⟩ (fun r u H locs hw hP hD hS => ?_)
          obtain ⟨rfl, rfl⟩ := hw
          have hP : va_P D kC (wM k0 k1 k2 k3 k4 k5 k6 cI (nI 1) (nI F) ca ow sl gl mn va ki ra) H := hP
          have hD : va_D A (wM k0 k1 k2 k3 k4 k5 k6 cI (nI 1) (nI F) ca ow sl gl mn va ki ra) := hD
          refine kTop (v' := nI 0) rfl ?_
          refine kNe0 (a := 0) (by omega) (tgt := 36) hx hb dX1_cut_31 (by decide) (fun c8 => ?_) (fun c8 => ?_)
          · skip
            exact absurd c8 (by decide)
          · skip
            refine lv_iconst (v := nI 0) hx hb dX1_cut_34 (by decide) ?_
            exact (kReti hx hb hr hlocks dX1_cut_35 (Nat.le_of_ble_eq_true rfl) (Nat.le_of_ble_eq_true rfl) hK hS hP hD (Or.inr ⟨fun ⟨_, lf, e1, e2, e3⟩ => absurd c2 (Int32.not_lt.mpr (by rw [e1]; exact nI_le e3 (by omega))), rfl⟩))
        · skip
          obtain ⟨lf, h1f, h2f, rfl⟩ : ∃ lf, 1 ≤ lf ∧ lf ≤ (rw_ ow F).count x ∧ y = nI lf := cut_of (by omega) c1 (Int32.not_lt.mp c2)
          refine lv_iconst (v := nI 1) hx hb dX1_cut_22 (by decide) ?_
          refine lv_goto (tgt := 27) hx hb dX1_cut_23 (by decide) ?_
          refine lv_iconst (v := nI 1) hx hb dX1_cut_27 (by decide) ?_
          refine cVi (wr := []) (As := [.int (nI 1), .int (nI 1)]) (rest := []) ⟨hx, hb, hml, hown, hts⟩ (pX1_goes l D k0 k1 k2 k3 k4 k5 k6 cI th F ca ow sl gl mn va ki ra 1 1 (by decide) (by decide)) (cwV 2 hts gX1_cut_X1_goes rfl rfl rfl (by decide +kernel) ⟨(Nat.le_of_ble_eq_true rfl), (Nat.le_of_ble_eq_true rfl)⟩) hK hP hD hS hA [0, 1, 2, 3, 4, 5, 6] [] rfl rfl (by decide) (by decide) (by decide) 0 rfl rfl rfl hl.1 rfl (Nat.le_of_ble_eq_true rfl) dX1_cut_28 ⟨(Nat.le_of_ble_eq_true rfl), (Nat.le_of_ble_eq_true rfl)⟩ (fun r u H locs hw hP hD hS => ?_)
          obtain ⟨rfl, rfl⟩ := hw
          have hP : va_P D kC (wM k0 k1 k2 k3 k4 k5 k6 cI (nI 0) (nI F) ca ow sl gl mn va ki ra) H := hP
          have hD : va_D A (wM k0 k1 k2 k3 k4 k5 k6 cI (nI 0) (nI F) ca ow sl gl mn va ki ra) := hD
          refine kTop (v' := nI 1) rfl ?_
          refine kNe0 (a := 1) (by omega) (tgt := 36) hx hb dX1_cut_31 (by decide) (fun c8 => ?_) (fun c8 => ?_)
          · skip
            refine lv_aload_n hx hb dX1_cut_36 rfl (lv_at hl 0 rfl) ?_
            refine lv_iload_n hx hb dX1_cut_37 rfl (lv_at hl 1 rfl) ?_
            refine cVi (wr := []) (As := [.int x]) (rest := []) ⟨hx, hb, hml, hown, hts⟩ (pX1_framesOf l D k0 k1 k2 k3 k4 k5 k6 cI (nI 0) F ca ow sl gl mn va ki ra hF x) (cwV 1 hts gX1_cut_X1_framesOf rfl rfl rfl (by decide +kernel) ⟨(Nat.le_of_ble_eq_true rfl), (Nat.le_of_ble_eq_true rfl)⟩) hK hP hD hS hA [0, 1, 2, 3, 4, 5, 6] [] rfl rfl (by decide) (by decide) (by decide) 0 rfl rfl rfl hl.1 rfl (Nat.le_of_ble_eq_true rfl) dX1_cut_38 ⟨(Nat.le_of_ble_eq_true rfl), (Nat.le_of_ble_eq_true rfl)⟩ (fun r u H locs hw hP hD hS => ?_)
            obtain ⟨rfl, rfl⟩ := hw
            have hP : va_P D kC (wM k0 k1 k2 k3 k4 k5 k6 cI (nI 0) (nI F) ca ow sl gl mn va ki ra) H := hP
            have hD : va_D A (wM k0 k1 k2 k3 k4 k5 k6 cI (nI 0) (nI F) ca ow sl gl mn va ki ra) := hD
            refine lv_iload_n hx hb dX1_cut_41 rfl (lv_at hl 2 rfl) ?_
            refine kSub (by omega) hx hb dX1_cut_42 ?_
            refine lv_istore_n (lv' := [(3, .int (nI (((rw_ ow F).count x) - lf))), (0, .ref k0), (1, .int x), (2, .int (nI lf))]) hx hb dX1_cut_43 rfl hl (by decide) rfl (fun ls hl => ?_)
            refine lv_iconst (v := nI 0) hx hb dX1_cut_44 (by decide) ?_
            refine lv_istore (lv' := [(4, .int (nI 0)), (3, .int (nI (((rw_ ow F).count x) - lf))), (0, .ref k0), (1, .int x), (2, .int (nI lf))]) hx hb dX1_cut_45 hl (by decide) rfl (fun ls hl => ?_)
            refine kLoop (Q := fun i => ∀ (wi : Nat → Int32) (si : Nat → Int32) (ls : Array Slot) (H : Heap) (locs : List Loc), CutR ow sl x F i wi si → va_P D kC (wM k0 k1 k2 k3 k4 k5 k6 cI (nI 0) (nI (F - i)) ca wi si gl mn va ki ra) H → va_D A (wM k0 k1 k2 k3 k4 k5 k6 cI (nI 0) (nI (F - i)) ca wi si gl mn va ki ra) → va_S A s.heap H locs → lv_has ls 5 [(0, .ref k0), (1, .int x), (2, .int (nI lf)), (3, .int (nI ((rw_ ow F).count x - lf))), (4, .int (nI i))] → W p l e r2 s m [.ref k0, .int x, .int (nI lf)].toArray below meth c H locs 0 0 (MQ below (va_Qi (fun r u => (inR x 4 ∧ ∃ lf9, (nI lf) = nI lf9 ∧ 1 ≤ lf9 ∧ lf9 ≤ (rw_ ow F).count x ∧ r = nI ((rw_ ow F).count x - lf9) ∧ ∃ ow' sl' : Nat → Int32, CutR ow sl x F ((rw_ ow F).count x - lf9) ow' sl' ∧ u = wM k0 k1 k2 k3 k4 k5 k6 cI (nI 0) (nI (F - ((rw_ ow F).count x - lf9))) ca ow' sl' gl mn va ki ra) ∨ (¬ (inR x 4 ∧ ∃ lf9, (nI lf) = nI lf9 ∧ 1 ≤ lf9 ∧ lf9 ≤ (rw_ ow F).count x) ∧ u = wM k0 k1 k2 k3 k4 k5 k6 cI (nI 1) (nI F) ca ow sl gl mn va ki ra)) (kB D (tI cI) A) A) [.ref k0, .int x, .int (nI lf)].toArray s r2.cells r2.slots A) (F0 m 47 ls [])) ((rw_ ow F).count x - lf) ?_ (0) (Nat.zero_le _) ow sl ls _ _ CutR.start hP hD hS (lv_sub hl [2, 3, 4, 1, 0] rfl)
            intro i hi ih wi si ls H locs hR hP hD hS hl
            refine lv_iload hx hb dX1_cut_47 (lv_at hl 4 rfl) ?_
            refine lv_iload_n hx hb dX1_cut_49 rfl (lv_at hl 3 rfl) ?_
            refine kIge (a := i) (b := (rw_ ow F).count x - lf) (by omega) (by omega) (tgt := 75) hx hb dX1_cut_50 (by decide) (fun c3 => ?_) (fun c3 => ?_)
            · skip
              have hi2 : i = (rw_ ow F).count x - lf := by omega
              rw [hi2] at hP hD hR
              refine lv_iload_n hx hb dX1_cut_75 rfl (lv_at hl 3 rfl) ?_
              exact (kReti hx hb hr hlocks dX1_cut_76 (Nat.le_of_ble_eq_true rfl) (Nat.le_of_ble_eq_true rfl) hK hS hP hD (Or.inl ⟨hx9, lf, rfl, h1f, h2f, rfl, wi, si, hR, rfl⟩))
            · skip
              have hcw : (rw_ wi (F - i)).count x = (rw_ ow F).count x - i := hR.1
              have hFi : F - i ≤ 256 := by omega
              refine lv_aload_n hx hb dX1_cut_53 rfl (lv_at hl 0 rfl) ?_
              refine lv_aload_n hx hb dX1_cut_54 rfl (lv_at hl 0 rfl) ?_
              refine lv_iload_n hx hb dX1_cut_55 rfl (lv_at hl 1 rfl) ?_
              refine lv_aload_n hx hb dX1_cut_56 rfl (lv_at hl 0 rfl) ?_
              refine lv_iload_n hx hb dX1_cut_57 rfl (lv_at hl 1 rfl) ?_
              refine cVi (wr := []) (As := [.int x]) (rest := [.int x, .ref k0, .ref k0]) ⟨hx, hb, hml, hown, hts⟩ (pX1_framesOf l D k0 k1 k2 k3 k4 k5 k6 cI (nI 0) (F - i) ca wi si gl mn va ki ra hFi x) (cwV 1 hts gX1_cut_X1_framesOf rfl rfl rfl (by decide +kernel) ⟨(Nat.le_of_ble_eq_true rfl), (Nat.le_of_ble_eq_true rfl)⟩) hK hP hD hS hA [0, 1, 2, 3, 4, 5, 6] [] rfl rfl (by decide) (by decide) (by decide) 0 rfl rfl rfl hl.1 rfl (Nat.le_of_ble_eq_true rfl) dX1_cut_58 ⟨(Nat.le_of_ble_eq_true rfl), (Nat.le_of_ble_eq_true rfl)⟩ (fun r u H locs hw hP hD hS => ?_)
              obtain ⟨rfl, rfl⟩ := hw
              have hP : va_P D kC (wM k0 k1 k2 k3 k4 k5 k6 cI (nI 0) (nI (F - i)) ca wi si gl mn va ki ra) H := hP
              have hD : va_D A (wM k0 k1 k2 k3 k4 k5 k6 cI (nI 0) (nI (F - i)) ca wi si gl mn va ki ra) := hD
              refine kTop (v' := nI ((rw_ ow F).count x - i)) (by rw [hcw]) ?_
              refine lv_iconst (v := nI 1) hx hb dX1_cut_61 (by decide) ?_
              refine kSub (by omega) hx hb dX1_cut_62 ?_
              refine cVi (wr := []) (As := [.int x, .int (nI (((rw_ ow F).count x - i) - 1))]) (rest := [.ref k0]) ⟨hx, hb, hml, hown, hts⟩ (pX1_frame l D k0 k1 k2 k3 k4 k5 k6 cI (nI 0) (F - i) ca wi si gl mn va ki ra hFi x ((rw_ ow F).count x - i - 1) (by omega)) (cwV 2 hts gX1_cut_X1_frame rfl rfl rfl (by decide +kernel) ⟨(Nat.le_of_ble_eq_true rfl), (Nat.le_of_ble_eq_true rfl)⟩) hK hP hD hS hA [0, 1, 2, 3, 4, 5, 6] [] rfl rfl (by decide) (by decide) (by decide) 0 rfl rfl rfl hl.1 rfl (Nat.le_of_ble_eq_true rfl) dX1_cut_63 ⟨(Nat.le_of_ble_eq_true rfl), (Nat.le_of_ble_eq_true rfl)⟩ (fun r u H locs hw hP hD hS => ?_)
              obtain ⟨rfl, hw⟩ := hw
              obtain ⟨q, rfl, hq, hoq, hcq⟩ : ∃ q, r = nI q ∧ q < F - i ∧ wi q = x ∧ (rw_ wi q).count x = (rw_ ow F).count x - i - 1 := by rcases hw with ⟨-, h9⟩ | h9; exact absurd h9 (by rw [hcw]; omega); exact h9
              have hP : va_P D kC (wM k0 k1 k2 k3 k4 k5 k6 cI (nI 0) (nI (F - i)) ca wi si gl mn va ki ra) H := hP
              have hD : va_D A (wM k0 k1 k2 k3 k4 k5 k6 cI (nI 0) (nI (F - i)) ca wi si gl mn va ki ra) := hD
              refine cVv (wr := []) (As := [.int (nI q)]) (rest := []) ⟨hx, hb, hml, hown, hts⟩ (pX1_drop l D k0 k1 k2 k3 k4 k5 k6 cI (nI 0) (F - i) ca wi si gl mn va ki ra hFi q hq) (cwV 1 hts gX1_cut_X1_drop rfl rfl rfl (by decide +kernel) ⟨(Nat.le_of_ble_eq_true rfl), (Nat.le_of_ble_eq_true rfl)⟩) hK hP hD hS hA [0, 1, 2, 3, 4, 5, 6] [] rfl rfl (by decide) (by decide) (by decide) 0 rfl rfl rfl hl.1 rfl (Nat.le_of_ble_eq_true rfl) dX1_cut_66 ⟨(Nat.le_of_ble_eq_true rfl), (Nat.le_of_ble_eq_true rfl)⟩ (fun u H locs hw hP hD hS => ?_)
              obtain rfl := hw
              have hP : va_P D kC (wM k0 k1 k2 k3 k4 k5 k6 cI (nI 0) (nI (F - i - 1)) ca ((fun t => if q ≤ t ∧ t < F - i - 1 then wi (t + 1) else wi t)) ((fun t => if 8 * q ≤ t ∧ t < 8 * (F - i - 1) then si (t + 8) else si t)) gl mn va ki ra) H := hP
              have hD : va_D A (wM k0 k1 k2 k3 k4 k5 k6 cI (nI 0) (nI (F - i - 1)) ca ((fun t => if q ≤ t ∧ t < F - i - 1 then wi (t + 1) else wi t)) ((fun t => if 8 * q ≤ t ∧ t < 8 * (F - i - 1) then si (t + 8) else si t)) gl mn va ki ra) := hD
              have hR2 := hR.next (by omega) hq hoq hcq
              refine lv_iinc (v := nI (i + 1)) (lv' := [(4, .int (nI (i + 1))), (0, .ref k0), (1, .int x), (2, .int (nI lf)), (3, .int (nI ((rw_ ow F).count x - lf)))]) hx hb dX1_cut_69 hl (k := 4) rfl (kInc1 _) (by decide) rfl (fun ls hl => ?_)
              refine lv_goto (tgt := 47) hx hb dX1_cut_72 (by decide) ?_
              exact ih c3 _ _ ls _ _ hR2 hP hD hS (lv_sub (l' := [(0, .ref k0), (1, .int x), (2, .int (nI lf)), (3, .int (nI ((rw_ ow F).count x - lf))), (4, .int (nI (i + 1)))]) hl [1, 2, 3, 4, 0] rfl)
          · skip
            exact absurd c8 (by decide)
  · skip
    refine kEq0 (a := 0) (by omega) (tgt := 26) hx hb dX1_cut_5 (by decide) (fun c0 => ?_) (fun c0 => ?_)
    · skip
      refine lv_iconst (v := nI 0) hx hb dX1_cut_26 (by decide) ?_
      refine lv_iconst (v := nI 1) hx hb dX1_cut_27 (by decide) ?_
      refine cVi (wr := []) (As := [.int (nI 0), .int (nI 1)]) (rest := []) ⟨hx, hb, hml, hown, hts⟩ (pX1_goes l D k0 k1 k2 k3 k4 k5 k6 cI th F ca ow sl gl mn va ki ra 0 1 (by decide) (by decide)) (cwV 2 hts gX1_cut_X1_goes rfl rfl rfl (by decide +kernel) ⟨(Nat.le_of_ble_eq_true rfl), (Nat.le_of_ble_eq_true rfl)⟩) hK hP hD hS hA [0, 1, 2, 3, 4, 5, 6] [] rfl rfl (by decide) (by decide) (by decide) 0 rfl rfl rfl hl.1 rfl (Nat.le_of_ble_eq_true rfl) dX1_cut_28 ⟨(Nat.le_of_ble_eq_true rfl), (Nat.le_of_ble_eq_true rfl)⟩ (fun r u H locs hw hP hD hS => ?_)
      obtain ⟨rfl, rfl⟩ := hw
      have hP : va_P D kC (wM k0 k1 k2 k3 k4 k5 k6 cI (nI 1) (nI F) ca ow sl gl mn va ki ra) H := hP
      have hD : va_D A (wM k0 k1 k2 k3 k4 k5 k6 cI (nI 1) (nI F) ca ow sl gl mn va ki ra) := hD
      refine kTop (v' := nI 0) rfl ?_
      refine kNe0 (a := 0) (by omega) (tgt := 36) hx hb dX1_cut_31 (by decide) (fun c8 => ?_) (fun c8 => ?_)
      · skip
        exact absurd c8 (by decide)
      · skip
        refine lv_iconst (v := nI 0) hx hb dX1_cut_34 (by decide) ?_
        exact (kReti hx hb hr hlocks dX1_cut_35 (Nat.le_of_ble_eq_true rfl) (Nat.le_of_ble_eq_true rfl) hK hS hP hD (Or.inr ⟨fun h => hx9 h.1, rfl⟩))
    · skip
      exact absurd c0 (by decide)

set_option maxHeartbeats 4000000 in
set_option maxRecDepth 100000 in
theorem pX1_get (l : Launch) (D : va_G) (k0 k1 k2 k3 k4 k5 k6 : Nat) (cI : ClassId) (th : Int32) (F : Nat) (ca : Int32) (ow sl gl : Nat → Int32) (mn : Int32) (va ki ra : Nat → Int32) (hF : F ≤ 256) (x y : Int32) (hc1 : inR x 4 → 1 ≤ (rw_ ow F).count x) : Mi l yX1_get wsX1_get r2 D (tI cI) [.ref k0, .int x, .int y] (wM k0 k1 k2 k3 k4 k5 k6 cI th (nI F) ca ow sl gl mn va ki ra) (fun r u => ((inR x 4 ∧ inR y 24) ∧ u = wM k0 k1 k2 k3 k4 k5 k6 cI (nI 0) (nI F) ca ow sl gl mn va ki ra ∧ ∃ a, a < 24 ∧ y = nI a ∧ ((a < 8 ∧ ∃ q, q < F ∧ ow q = x ∧ (rw_ ow q).count x = (rw_ ow F).count x - 1 ∧ r = sl (8 * q + a)) ∨ (8 ≤ a ∧ r = gl (a - 8)))) ∨ (¬ (inR x 4 ∧ inR y 24) ∧ u = wM k0 k1 k2 k3 k4 k5 k6 cI (nI 1) (nI F) ca ow sl gl mn va ki ra)) := by
  refine Mi.of (cc := cX1_get) (maxL := 3) (ty := .int) (by decide +kernel) rfl (Nat.le_of_ble_eq_true rfl) ?_
  rintro p e s m below meth c ls A ⟨hx, hb, hr, hml, hts, hown, hlocks, hnm, hP, hK, hD, hA, hS, hl⟩
  have hown : s.vm.findClass RX1 = some m.cls := hown
  have hl : lv_has ls 3 [(0, .ref k0), (1, .int x), (2, .int y)] := hl
  have hin : ∀ w ∈ wsX10, w ∈ wsX1_get := by decide +kernel
  have hP : va_P D kC (wM k0 k1 k2 k3 k4 k5 k6 cI th (nI F) ca ow sl gl mn va ki ra) s.heap := hP
  have hD : va_D A (wM k0 k1 k2 k3 k4 k5 k6 cI th (nI F) ca ow sl gl mn va ki ra) := hD
  have hcl := rw_count_le ow F x
  refine lv_aload_n hx hb dX1_get_0 rfl (lv_at hl 0 rfl) ?_
  refine lv_iload_n hx hb dX1_get_1 rfl (lv_at hl 1 rfl) ?_
  refine lv_iload_n hx hb dX1_get_2 rfl (lv_at hl 2 rfl) ?_
  refine cSi (wr := wM k0 k1 k2 k3 k4 k5 k6 cI th (nI F) ca ow sl gl mn va ki ra) (As := [.int x, .int y]) (rest := [.ref k0]) ⟨hx, hb, hml, hown, hts⟩ (pX1_isPlace l D cI x y) (va_cwS 2 hts gX1_get_X1_isPlace rfl rfl rfl (by decide +kernel) ⟨(Nat.le_of_ble_eq_true rfl), (Nat.le_of_ble_eq_true rfl)⟩) hK hP hD hS hA [] [0, 1, 2, 3, 4, 5, 6] rfl rfl (by decide) (by decide) (by decide) rfl hl.1 rfl (Nat.le_of_ble_eq_true rfl) dX1_get_3 ⟨(Nat.le_of_ble_eq_true rfl), (Nat.le_of_ble_eq_true rfl)⟩ (fun r u H locs hw hP hD hS => ?_)
  obtain ⟨rfl, hw⟩ := hw
  have hP : va_P D kC (wM k0 k1 k2 k3 k4 k5 k6 cI th (nI F) ca ow sl gl mn va ki ra) H := hP
  have hD : va_D A (wM k0 k1 k2 k3 k4 k5 k6 cI th (nI F) ca ow sl gl mn va ki ra) := hD
  rcases hw with ⟨hx9, rfl⟩ | ⟨hx9, rfl⟩
  · skip
    refine lv_iconst (v := nI 1) hx hb dX1_get_6 (by decide) ?_
    refine cVi (wr := []) (As := [.int (nI 1), .int (nI 1)]) (rest := []) ⟨hx, hb, hml, hown, hts⟩ (pX1_goes l D k0 k1 k2 k3 k4 k5 k6 cI th F ca ow sl gl mn va ki ra 1 1 (by decide) (by decide)) (cwV 2 hts gX1_get_X1_goes rfl rfl rfl (by decide +kernel) ⟨(Nat.le_of_ble_eq_true rfl), (Nat.le_of_ble_eq_true rfl)⟩) hK hP hD hS hA [0, 1, 2, 3, 4, 5, 6] [] rfl rfl (by decide) (by decide) (by decide) 0 rfl rfl rfl hl.1 rfl (Nat.le_of_ble_eq_true rfl) dX1_get_7 ⟨(Nat.le_of_ble_eq_true rfl), (Nat.le_of_ble_eq_true rfl)⟩ (fun r u H locs hw hP hD hS => ?_)
    obtain ⟨rfl, rfl⟩ := hw
    have hP : va_P D kC (wM k0 k1 k2 k3 k4 k5 k6 cI (nI 0) (nI F) ca ow sl gl mn va ki ra) H := hP
    have hD : va_D A (wM k0 k1 k2 k3 k4 k5 k6 cI (nI 0) (nI F) ca ow sl gl mn va ki ra) := hD
    refine kTop (v' := nI 1) rfl ?_
    refine kNe0 (a := 1) (by omega) (tgt := 15) hx hb dX1_get_10 (by decide) (fun c8 => ?_) (fun c8 => ?_)
    · skip
      have hc1 := hc1 hx9.1
      obtain ⟨a, ha, rfl⟩ := id hx9.2
      refine lv_iload_n hx hb dX1_get_15 rfl (lv_at hl 2 rfl) ?_
      refine lv_bipush (v := nI 8) hx hb dX1_get_16 (by decide) ?_
      refine kIge (a := a) (b := 8) (by omega) (by omega) (tgt := 46) hx hb dX1_get_18 (by decide) (fun c1 => ?_) (fun c1 => ?_)
      · skip
        refine lv_aload_n hx hb dX1_get_46 rfl (lv_at hl 0 rfl) ?_
        refine va_get (D := D) (ci := 1) (v := .ref k3) (C := RX1) (T := TX1) (N := 10) hx hb hts hin hown hK hP 0 rfl rfl 5 (by decide) (hts (.fieldLink RX1 20 "FrameRowModel" "globals" "[I") (by decide +kernel)) (fun _ h9 => h9) rfl dX1_get_47 ?_
        refine lv_iload_n hx hb dX1_get_50 rfl (lv_at hl 2 rfl) ?_
        refine lv_bipush (v := nI 8) hx hb dX1_get_51 (by decide) ?_
        refine kSub (by omega) hx hb dX1_get_53 ?_
        refine kLd hx hb hK hP 3 0 rfl rfl (j := a - 8) (by omega) (by decide) dX1_get_54 ?_
        exact (kReti hx hb hr hlocks dX1_get_55 (Nat.le_of_ble_eq_true rfl) (Nat.le_of_ble_eq_true rfl) hK hS hP hD (Or.inl ⟨hx9, rfl, a, ha, rfl, Or.inr ⟨c1, rfl⟩⟩))
      · skip
        refine lv_aload_n hx hb dX1_get_21 rfl (lv_at hl 0 rfl) ?_
        refine va_get (D := D) (ci := 1) (v := .ref k2) (C := RX1) (T := TX1) (N := 10) hx hb hts hin hown hK hP 0 rfl rfl 4 (by decide) (hts (.fieldLink RX1 17 "FrameRowModel" "slots" "[I") (by decide +kernel)) (fun _ h9 => h9) rfl dX1_get_22 ?_
        refine lv_bipush (v := nI 8) hx hb dX1_get_25 (by decide) ?_
        refine lv_aload_n hx hb dX1_get_27 rfl (lv_at hl 0 rfl) ?_
        refine lv_iload_n hx hb dX1_get_28 rfl (lv_at hl 1 rfl) ?_
        refine lv_aload_n hx hb dX1_get_29 rfl (lv_at hl 0 rfl) ?_
        refine lv_iload_n hx hb dX1_get_30 rfl (lv_at hl 1 rfl) ?_
        refine cVi (wr := []) (As := [.int x]) (rest := [.int x, .ref k0, .int (nI 8), .ref k2]) ⟨hx, hb, hml, hown, hts⟩ (pX1_framesOf l D k0 k1 k2 k3 k4 k5 k6 cI (nI 0) F ca ow sl gl mn va ki ra hF x) (cwV 1 hts gX1_get_X1_framesOf rfl rfl rfl (by decide +kernel) ⟨(Nat.le_of_ble_eq_true rfl), (Nat.le_of_ble_eq_true rfl)⟩) hK hP hD hS hA [0, 1, 2, 3, 4, 5, 6] [] rfl rfl (by decide) (by decide) (by decide) 0 rfl rfl rfl hl.1 rfl (Nat.le_of_ble_eq_true rfl) dX1_get_31 ⟨(Nat.le_of_ble_eq_true rfl), (Nat.le_of_ble_eq_true rfl)⟩ (fun r u H locs hw hP hD hS => ?_)
        obtain ⟨rfl, rfl⟩ := hw
        have hP : va_P D kC (wM k0 k1 k2 k3 k4 k5 k6 cI (nI 0) (nI F) ca ow sl gl mn va ki ra) H := hP
        have hD : va_D A (wM k0 k1 k2 k3 k4 k5 k6 cI (nI 0) (nI F) ca ow sl gl mn va ki ra) := hD
        refine lv_iconst (v := nI 1) hx hb dX1_get_34 (by decide) ?_
        refine kSub (by omega) hx hb dX1_get_35 ?_
        refine cVi (wr := []) (As := [.int x, .int (nI (((rw_ ow F).count x) - 1))]) (rest := [.int (nI 8), .ref k2]) ⟨hx, hb, hml, hown, hts⟩ (pX1_frame l D k0 k1 k2 k3 k4 k5 k6 cI (nI 0) F ca ow sl gl mn va ki ra hF x ((rw_ ow F).count x - 1) (by omega)) (cwV 2 hts gX1_get_X1_frame rfl rfl rfl (by decide +kernel) ⟨(Nat.le_of_ble_eq_true rfl), (Nat.le_of_ble_eq_true rfl)⟩) hK hP hD hS hA [0, 1, 2, 3, 4, 5, 6] [] rfl rfl (by decide) (by decide) (by decide) 0 rfl rfl rfl hl.1 rfl (Nat.le_of_ble_eq_true rfl) dX1_get_36 ⟨(Nat.le_of_ble_eq_true rfl), (Nat.le_of_ble_eq_true rfl)⟩ (fun r u H locs hw hP hD hS => ?_)
        obtain ⟨rfl, hw⟩ := hw
        obtain ⟨q, rfl, hq, hoq, hcq⟩ : ∃ q, r = nI q ∧ q < F ∧ ow q = x ∧ (rw_ ow q).count x = (rw_ ow F).count x - 1 := by rcases hw with ⟨-, h9⟩ | h9; exact absurd h9 (by omega); exact h9
        have hP : va_P D kC (wM k0 k1 k2 k3 k4 k5 k6 cI (nI 0) (nI F) ca ow sl gl mn va ki ra) H := hP
        have hD : va_D A (wM k0 k1 k2 k3 k4 k5 k6 cI (nI 0) (nI F) ca ow sl gl mn va ki ra) := hD
        refine kMul hx hb dX1_get_39 ?_
        refine lv_iload_n hx hb dX1_get_40 rfl (lv_at hl 2 rfl) ?_
        refine kAdd hx hb dX1_get_41 ?_
        refine kLd hx hb hK hP 2 0 rfl rfl (j := (8 * q) + a) (by omega) (by decide) dX1_get_42 ?_
        refine lv_goto (tgt := 55) hx hb dX1_get_43 (by decide) ?_
        exact (kReti hx hb hr hlocks dX1_get_55 (Nat.le_of_ble_eq_true rfl) (Nat.le_of_ble_eq_true rfl) hK hS hP hD (Or.inl ⟨hx9, rfl, a, ha, rfl, Or.inl ⟨c1, q, hq, hoq, hcq, rfl⟩⟩))
    · skip
      exact absurd c8 (by decide)
  · skip
    refine lv_iconst (v := nI 1) hx hb dX1_get_6 (by decide) ?_
    refine cVi (wr := []) (As := [.int (nI 0), .int (nI 1)]) (rest := []) ⟨hx, hb, hml, hown, hts⟩ (pX1_goes l D k0 k1 k2 k3 k4 k5 k6 cI th F ca ow sl gl mn va ki ra 0 1 (by decide) (by decide)) (cwV 2 hts gX1_get_X1_goes rfl rfl rfl (by decide +kernel) ⟨(Nat.le_of_ble_eq_true rfl), (Nat.le_of_ble_eq_true rfl)⟩) hK hP hD hS hA [0, 1, 2, 3, 4, 5, 6] [] rfl rfl (by decide) (by decide) (by decide) 0 rfl rfl rfl hl.1 rfl (Nat.le_of_ble_eq_true rfl) dX1_get_7 ⟨(Nat.le_of_ble_eq_true rfl), (Nat.le_of_ble_eq_true rfl)⟩ (fun r u H locs hw hP hD hS => ?_)
    obtain ⟨rfl, rfl⟩ := hw
    have hP : va_P D kC (wM k0 k1 k2 k3 k4 k5 k6 cI (nI 1) (nI F) ca ow sl gl mn va ki ra) H := hP
    have hD : va_D A (wM k0 k1 k2 k3 k4 k5 k6 cI (nI 1) (nI F) ca ow sl gl mn va ki ra) := hD
    refine kTop (v' := nI 0) rfl ?_
    refine kNe0 (a := 0) (by omega) (tgt := 15) hx hb dX1_get_10 (by decide) (fun c8 => ?_) (fun c8 => ?_)
    · skip
      exact absurd c8 (by decide)
    · skip
      refine lv_iconst (v := nI 0) hx hb dX1_get_13 (by decide) ?_
      exact (kReti hx hb hr hlocks dX1_get_14 (Nat.le_of_ble_eq_true rfl) (Nat.le_of_ble_eq_true rfl) hK hS hP hD (Or.inr ⟨hx9, rfl⟩))

set_option maxHeartbeats 4000000 in
set_option maxRecDepth 100000 in
theorem pX1_put (l : Launch) (D : va_G) (k0 k1 k2 k3 k4 k5 k6 : Nat) (cI : ClassId) (th : Int32) (F : Nat) (ca : Int32) (ow sl gl : Nat → Int32) (mn : Int32) (va ki ra : Nat → Int32) (hF : F ≤ 256) (x y z : Int32) (hc1 : inR x 4 → 1 ≤ (rw_ ow F).count x) : Mi l yX1_put wsX1_put r3 D (tI cI) [.ref k0, .int x, .int y, .int z] (wM k0 k1 k2 k3 k4 k5 k6 cI th (nI F) ca ow sl gl mn va ki ra) (fun r u => ((inR x 4 ∧ inR y 24) ∧ inR z 1000001 ∧ ∃ a, a < 24 ∧ y = nI a ∧ ((a < 8 ∧ ∃ q, q < F ∧ ow q = x ∧ (rw_ ow q).count x = (rw_ ow F).count x - 1 ∧ r = sl (8 * q + a) ∧ u = wM k0 k1 k2 k3 k4 k5 k6 cI (nI 0) (nI F) ca ow (upd sl (8 * q + a) z) gl mn va ki ra) ∨ (8 ≤ a ∧ r = gl (a - 8) ∧ u = wM k0 k1 k2 k3 k4 k5 k6 cI (nI 0) (nI F) ca ow sl (upd gl (a - 8) z) mn va ki ra))) ∨ (¬ (inR x 4 ∧ inR y 24) ∧ u = wM k0 k1 k2 k3 k4 k5 k6 cI (nI 1) (nI F) ca ow sl gl mn va ki ra) ∨ ((inR x 4 ∧ inR y 24) ∧ ¬ inR z 1000001 ∧ u = wM k0 k1 k2 k3 k4 k5 k6 cI (nI 2) (nI F) ca ow sl gl mn va ki ra)) := by
  refine Mi.of (cc := cX1_put) (maxL := 5) (ty := .int) (by decide +kernel) rfl (Nat.le_of_ble_eq_true rfl) ?_
  rintro p e s m below meth c ls A ⟨hx, hb, hr, hml, hts, hown, hlocks, hnm, hP, hK, hD, hA, hS, hl⟩
  have hown : s.vm.findClass RX1 = some m.cls := hown
  have hl : lv_has ls 5 [(0, .ref k0), (1, .int x), (2, .int y), (3, .int z)] := hl
  have hin : ∀ w ∈ wsX10, w ∈ wsX1_put := by decide +kernel
  have hP : va_P D kC (wM k0 k1 k2 k3 k4 k5 k6 cI th (nI F) ca ow sl gl mn va ki ra) s.heap := hP
  have hD : va_D A (wM k0 k1 k2 k3 k4 k5 k6 cI th (nI F) ca ow sl gl mn va ki ra) := hD
  have hcl := rw_count_le ow F x
  refine lv_aload_n hx hb dX1_put_0 rfl (lv_at hl 0 rfl) ?_
  refine lv_iload_n hx hb dX1_put_1 rfl (lv_at hl 1 rfl) ?_
  refine lv_iload_n hx hb dX1_put_2 rfl (lv_at hl 2 rfl) ?_
  refine cSi (wr := wM k0 k1 k2 k3 k4 k5 k6 cI th (nI F) ca ow sl gl mn va ki ra) (As := [.int x, .int y]) (rest := [.ref k0]) ⟨hx, hb, hml, hown, hts⟩ (pX1_isPlace l D cI x y) (va_cwS 2 hts gX1_put_X1_isPlace rfl rfl rfl (by decide +kernel) ⟨(Nat.le_of_ble_eq_true rfl), (Nat.le_of_ble_eq_true rfl)⟩) hK hP hD hS hA [] [0, 1, 2, 3, 4, 5, 6] rfl rfl (by decide) (by decide) (by decide) rfl hl.1 rfl (Nat.le_of_ble_eq_true rfl) dX1_put_3 ⟨(Nat.le_of_ble_eq_true rfl), (Nat.le_of_ble_eq_true rfl)⟩ (fun r u H locs hw hP hD hS => ?_)
  obtain ⟨rfl, hw⟩ := hw
  have hP : va_P D kC (wM k0 k1 k2 k3 k4 k5 k6 cI th (nI F) ca ow sl gl mn va ki ra) H := hP
  have hD : va_D A (wM k0 k1 k2 k3 k4 k5 k6 cI th (nI F) ca ow sl gl mn va ki ra) := hD
  rcases hw with ⟨hx9, rfl⟩ | ⟨hx9, rfl⟩
  · skip
    refine lv_iload_n hx hb dX1_put_6 rfl (lv_at hl 3 rfl) ?_
    refine cSi (wr := wM k0 k1 k2 k3 k4 k5 k6 cI th (nI F) ca ow sl gl mn va ki ra) (As := [.int z]) (rest := [.int (nI 1), .ref k0]) ⟨hx, hb, hml, hown, hts⟩ (pX1_isValue l D cI z) (va_cwS 1 hts gX1_put_X1_isValue rfl rfl rfl (by decide +kernel) ⟨(Nat.le_of_ble_eq_true rfl), (Nat.le_of_ble_eq_true rfl)⟩) hK hP hD hS hA [] [0, 1, 2, 3, 4, 5, 6] rfl rfl (by decide) (by decide) (by decide) rfl hl.1 rfl (Nat.le_of_ble_eq_true rfl) dX1_put_7 ⟨(Nat.le_of_ble_eq_true rfl), (Nat.le_of_ble_eq_true rfl)⟩ (fun r u H locs hw hP hD hS => ?_)
    obtain ⟨rfl, hw⟩ := hw
    have hP : va_P D kC (wM k0 k1 k2 k3 k4 k5 k6 cI th (nI F) ca ow sl gl mn va ki ra) H := hP
    have hD : va_D A (wM k0 k1 k2 k3 k4 k5 k6 cI th (nI F) ca ow sl gl mn va ki ra) := hD
    rcases hw with ⟨hz9, rfl⟩ | ⟨hz9, rfl⟩
    · skip
      refine cVi (wr := []) (As := [.int (nI 1), .int (nI 1)]) (rest := []) ⟨hx, hb, hml, hown, hts⟩ (pX1_goes l D k0 k1 k2 k3 k4 k5 k6 cI th F ca ow sl gl mn va ki ra 1 1 (by decide) (by decide)) (cwV 2 hts gX1_put_X1_goes rfl rfl rfl (by decide +kernel) ⟨(Nat.le_of_ble_eq_true rfl), (Nat.le_of_ble_eq_true rfl)⟩) hK hP hD hS hA [0, 1, 2, 3, 4, 5, 6] [] rfl rfl (by decide) (by decide) (by decide) 0 rfl rfl rfl hl.1 rfl (Nat.le_of_ble_eq_true rfl) dX1_put_10 ⟨(Nat.le_of_ble_eq_true rfl), (Nat.le_of_ble_eq_true rfl)⟩ (fun r u H locs hw hP hD hS => ?_)
      obtain ⟨rfl, rfl⟩ := hw
      have hP : va_P D kC (wM k0 k1 k2 k3 k4 k5 k6 cI (nI 0) (nI F) ca ow sl gl mn va ki ra) H := hP
      have hD : va_D A (wM k0 k1 k2 k3 k4 k5 k6 cI (nI 0) (nI F) ca ow sl gl mn va ki ra) := hD
      refine kTop (v' := nI 1) rfl ?_
      refine kNe0 (a := 1) (by omega) (tgt := 18) hx hb dX1_put_13 (by decide) (fun c8 => ?_) (fun c8 => ?_)
      · skip
        refine lv_aload_n hx hb dX1_put_18 rfl (lv_at hl 0 rfl) ?_
        refine lv_iload_n hx hb dX1_put_19 rfl (lv_at hl 1 rfl) ?_
        refine lv_iload_n hx hb dX1_put_20 rfl (lv_at hl 2 rfl) ?_
        refine cVi (wr := []) (As := [.int x, .int y]) (rest := []) ⟨hx, hb, hml, hown, hts⟩ (pX1_get l D k0 k1 k2 k3 k4 k5 k6 cI (nI 0) F ca ow sl gl mn va ki ra hF x y hc1) (cwV 2 hts gX1_put_X1_get rfl rfl rfl (by decide +kernel) ⟨(Nat.le_of_ble_eq_true rfl), (Nat.le_of_ble_eq_true rfl)⟩) hK hP hD hS hA [0, 1, 2, 3, 4, 5, 6] [] rfl rfl (by decide) (by decide) (by decide) 0 rfl rfl rfl hl.1 rfl (Nat.le_of_ble_eq_true rfl) dX1_put_21 ⟨(Nat.le_of_ble_eq_true rfl), (Nat.le_of_ble_eq_true rfl)⟩ (fun r u H locs hw hP hD hS => ?_)
        rcases hw with ⟨-, rfl, a, ha, rfl, hval⟩ | ⟨h9, -⟩
        rotate_left
        · exact absurd hx9 h9
        have hP : va_P D kC (wM k0 k1 k2 k3 k4 k5 k6 cI (nI 0) (nI F) ca ow sl gl mn va ki ra) H := hP
        have hD : va_D A (wM k0 k1 k2 k3 k4 k5 k6 cI (nI 0) (nI F) ca ow sl gl mn va ki ra) := hD
        have hc1 := hc1 hx9.1
        refine lv_istore (lv' := [(4, .int r), (0, .ref k0), (1, .int x), (2, .int (nI a)), (3, .int z)]) hx hb dX1_put_24 hl (by decide) rfl (fun ls hl => ?_)
        refine lv_iload_n hx hb dX1_put_26 rfl (lv_at hl 3 rfl) ?_
        refine lv_bipush (v := nI 8) hx hb dX1_put_27 (by decide) ?_
        refine kIge (a := a) (b := 8) (by omega) (by omega) (tgt := 58) hx hb dX1_put_29 (by decide) (fun c1 => ?_) (fun c1 => ?_)
        · skip
          have hval2 : r = gl (a - 8) := by rcases hval with ⟨h9, -⟩ | ⟨-, h9⟩; omega; exact h9
          refine lv_aload_n hx hb dX1_put_58 rfl (lv_at hl 1 rfl) ?_
          refine va_get (D := D) (ci := 1) (v := .ref k3) (C := RX1) (T := TX1) (N := 10) hx hb hts hin hown hK hP 0 rfl rfl 5 (by decide) (hts (.fieldLink RX1 20 "FrameRowModel" "globals" "[I") (by decide +kernel)) (fun _ h9 => h9) rfl dX1_put_59 ?_
          refine lv_iload_n hx hb dX1_put_62 rfl (lv_at hl 3 rfl) ?_
          refine lv_bipush (v := nI 8) hx hb dX1_put_63 (by decide) ?_
          refine kSub (by omega) hx hb dX1_put_65 ?_
          refine lv_iload_n hx hb dX1_put_66 rfl (lv_at hl 4 rfl) ?_
          refine kSt hx hb hK hP hD hS 3 0 rfl rfl (j := a - 8) (by omega) (by decide) dX1_put_67 (fun H locs hP hD hS => ?_)
          have hP : va_P D kC (wM k0 k1 k2 k3 k4 k5 k6 cI (nI 0) (nI F) ca ow sl (upd gl (a - 8) z) mn va ki ra) H := hP
          have hD : va_D A (wM k0 k1 k2 k3 k4 k5 k6 cI (nI 0) (nI F) ca ow sl (upd gl (a - 8) z) mn va ki ra) := hD
          refine lv_iload hx hb dX1_put_68 (lv_at hl 0 rfl) ?_
          exact (kReti hx hb hr hlocks dX1_put_70 (Nat.le_of_ble_eq_true rfl) (Nat.le_of_ble_eq_true rfl) hK hS hP hD (Or.inl ⟨hx9, hz9, a, ha, rfl, Or.inr ⟨c1, hval2, rfl⟩⟩))
        · skip
          obtain ⟨qq, hqq, hoqq, hcqq, hrr⟩ : ∃ q, q < F ∧ ow q = x ∧ (rw_ ow q).count x = (rw_ ow F).count x - 1 ∧ r = sl (8 * q + a) := by rcases hval with ⟨-, h9⟩ | ⟨h9, -⟩; exact h9; omega
          obtain ⟨r9, hr9⟩ : ∃ r9, r9 = r := ⟨_, rfl⟩
          refine lv_aload_n hx hb dX1_put_32 rfl (lv_at hl 1 rfl) ?_
          refine va_get (D := D) (ci := 1) (v := .ref k2) (C := RX1) (T := TX1) (N := 10) hx hb hts hin hown hK hP 0 rfl rfl 4 (by decide) (hts (.fieldLink RX1 17 "FrameRowModel" "slots" "[I") (by decide +kernel)) (fun _ h9 => h9) rfl dX1_put_33 ?_
          refine lv_bipush (v := nI 8) hx hb dX1_put_36 (by decide) ?_
          refine lv_aload_n hx hb dX1_put_38 rfl (lv_at hl 1 rfl) ?_
          refine lv_iload_n hx hb dX1_put_39 rfl (lv_at hl 2 rfl) ?_
          refine lv_aload_n hx hb dX1_put_40 rfl (lv_at hl 1 rfl) ?_
          refine lv_iload_n hx hb dX1_put_41 rfl (lv_at hl 2 rfl) ?_
          refine cVi (wr := []) (As := [.int x]) (rest := [.int x, .ref k0, .int (nI 8), .ref k2]) ⟨hx, hb, hml, hown, hts⟩ (pX1_framesOf l D k0 k1 k2 k3 k4 k5 k6 cI (nI 0) F ca ow sl gl mn va ki ra hF x) (cwV 1 hts gX1_put_X1_framesOf rfl rfl rfl (by decide +kernel) ⟨(Nat.le_of_ble_eq_true rfl), (Nat.le_of_ble_eq_true rfl)⟩) hK hP hD hS hA [0, 1, 2, 3, 4, 5, 6] [] rfl rfl (by decide) (by decide) (by decide) 0 rfl rfl rfl hl.1 rfl (Nat.le_of_ble_eq_true rfl) dX1_put_42 ⟨(Nat.le_of_ble_eq_true rfl), (Nat.le_of_ble_eq_true rfl)⟩ (fun r u H locs hw hP hD hS => ?_)
          obtain ⟨rfl, rfl⟩ := hw
          have hP : va_P D kC (wM k0 k1 k2 k3 k4 k5 k6 cI (nI 0) (nI F) ca ow sl gl mn va ki ra) H := hP
          have hD : va_D A (wM k0 k1 k2 k3 k4 k5 k6 cI (nI 0) (nI F) ca ow sl gl mn va ki ra) := hD
          refine lv_iconst (v := nI 1) hx hb dX1_put_45 (by decide) ?_
          refine kSub (by omega) hx hb dX1_put_46 ?_
          refine cVi (wr := []) (As := [.int x, .int (nI (((rw_ ow F).count x) - 1))]) (rest := [.int (nI 8), .ref k2]) ⟨hx, hb, hml, hown, hts⟩ (pX1_frame l D k0 k1 k2 k3 k4 k5 k6 cI (nI 0) F ca ow sl gl mn va ki ra hF x ((rw_ ow F).count x - 1) (by omega)) (cwV 2 hts gX1_put_X1_frame rfl rfl rfl (by decide +kernel) ⟨(Nat.le_of_ble_eq_true rfl), (Nat.le_of_ble_eq_true rfl)⟩) hK hP hD hS hA [0, 1, 2, 3, 4, 5, 6] [] rfl rfl (by decide) (by decide) (by decide) 0 rfl rfl rfl hl.1 rfl (Nat.le_of_ble_eq_true rfl) dX1_put_47 ⟨(Nat.le_of_ble_eq_true rfl), (Nat.le_of_ble_eq_true rfl)⟩ (fun r1 u H locs hw hP hD hS => ?_)
          obtain ⟨rfl, hw⟩ := hw
          obtain ⟨q, rfl, hq, hoq, hcq⟩ : ∃ q, r1 = nI q ∧ q < F ∧ ow q = x ∧ (rw_ ow q).count x = (rw_ ow F).count x - 1 := by rcases hw with ⟨-, h9⟩ | h9; exact absurd h9 (by omega); exact h9
          have hP : va_P D kC (wM k0 k1 k2 k3 k4 k5 k6 cI (nI 0) (nI F) ca ow sl gl mn va ki ra) H := hP
          have hD : va_D A (wM k0 k1 k2 k3 k4 k5 k6 cI (nI 0) (nI F) ca ow sl gl mn va ki ra) := hD
          have hqe : qq = q := top_uniq hoqq hoq (hcqq.trans hcq.symm)
          subst hqe
          refine kMul hx hb dX1_put_50 ?_
          refine lv_iload_n hx hb dX1_put_51 rfl (lv_at hl 3 rfl) ?_
          refine kAdd hx hb dX1_put_52 ?_
          refine lv_iload_n hx hb dX1_put_53 rfl (lv_at hl 4 rfl) ?_
          refine kSt hx hb hK hP hD hS 2 0 rfl rfl (j := (8 * qq) + a) (by omega) (by decide) dX1_put_54 (fun H locs hP hD hS => ?_)
          have hP : va_P D kC (wM k0 k1 k2 k3 k4 k5 k6 cI (nI 0) (nI F) ca ow (upd sl ((8 * qq) + a) z) gl mn va ki ra) H := hP
          have hD : va_D A (wM k0 k1 k2 k3 k4 k5 k6 cI (nI 0) (nI F) ca ow (upd sl ((8 * qq) + a) z) gl mn va ki ra) := hD
          refine lv_goto (tgt := 68) hx hb dX1_put_55 (by decide) ?_
          refine lv_iload hx hb dX1_put_68 (lv_at hl 0 rfl) ?_
          exact (kReti hx hb hr hlocks dX1_put_70 (Nat.le_of_ble_eq_true rfl) (Nat.le_of_ble_eq_true rfl) hK hS hP hD (Or.inl ⟨hx9, hz9, a, ha, rfl, Or.inl ⟨c1, qq, hqq, hoqq, hcqq, hrr, rfl⟩⟩))
      · skip
        exact absurd c8 (by decide)
    · skip
      refine cVi (wr := []) (As := [.int (nI 1), .int (nI 0)]) (rest := []) ⟨hx, hb, hml, hown, hts⟩ (pX1_goes l D k0 k1 k2 k3 k4 k5 k6 cI th F ca ow sl gl mn va ki ra 1 0 (by decide) (by decide)) (cwV 2 hts gX1_put_X1_goes rfl rfl rfl (by decide +kernel) ⟨(Nat.le_of_ble_eq_true rfl), (Nat.le_of_ble_eq_true rfl)⟩) hK hP hD hS hA [0, 1, 2, 3, 4, 5, 6] [] rfl rfl (by decide) (by decide) (by decide) 0 rfl rfl rfl hl.1 rfl (Nat.le_of_ble_eq_true rfl) dX1_put_10 ⟨(Nat.le_of_ble_eq_true rfl), (Nat.le_of_ble_eq_true rfl)⟩ (fun r u H locs hw hP hD hS => ?_)
      obtain ⟨rfl, rfl⟩ := hw
      have hP : va_P D kC (wM k0 k1 k2 k3 k4 k5 k6 cI (nI 2) (nI F) ca ow sl gl mn va ki ra) H := hP
      have hD : va_D A (wM k0 k1 k2 k3 k4 k5 k6 cI (nI 2) (nI F) ca ow sl gl mn va ki ra) := hD
      refine kTop (v' := nI 0) rfl ?_
      refine kNe0 (a := 0) (by omega) (tgt := 18) hx hb dX1_put_13 (by decide) (fun c8 => ?_) (fun c8 => ?_)
      · skip
        exact absurd c8 (by decide)
      · skip
        refine lv_iconst (v := nI 0) hx hb dX1_put_16 (by decide) ?_
        exact (kReti hx hb hr hlocks dX1_put_17 (Nat.le_of_ble_eq_true rfl) (Nat.le_of_ble_eq_true rfl) hK hS hP hD (Or.inr (Or.inr ⟨hx9, hz9, rfl⟩)))
  · skip
    refine lv_iload_n hx hb dX1_put_6 rfl (lv_at hl 3 rfl) ?_
    refine cSi (wr := wM k0 k1 k2 k3 k4 k5 k6 cI th (nI F) ca ow sl gl mn va ki ra) (As := [.int z]) (rest := [.int (nI 0), .ref k0]) ⟨hx, hb, hml, hown, hts⟩ (pX1_isValue l D cI z) (va_cwS 1 hts gX1_put_X1_isValue rfl rfl rfl (by decide +kernel) ⟨(Nat.le_of_ble_eq_true rfl), (Nat.le_of_ble_eq_true rfl)⟩) hK hP hD hS hA [] [0, 1, 2, 3, 4, 5, 6] rfl rfl (by decide) (by decide) (by decide) rfl hl.1 rfl (Nat.le_of_ble_eq_true rfl) dX1_put_7 ⟨(Nat.le_of_ble_eq_true rfl), (Nat.le_of_ble_eq_true rfl)⟩ (fun r u H locs hw hP hD hS => ?_)
    obtain ⟨rfl, hw⟩ := hw
    have hP : va_P D kC (wM k0 k1 k2 k3 k4 k5 k6 cI th (nI F) ca ow sl gl mn va ki ra) H := hP
    have hD : va_D A (wM k0 k1 k2 k3 k4 k5 k6 cI th (nI F) ca ow sl gl mn va ki ra) := hD
    rcases hw with ⟨hz9, rfl⟩ | ⟨hz9, rfl⟩
    · skip
      refine cVi (wr := []) (As := [.int (nI 0), .int (nI 1)]) (rest := []) ⟨hx, hb, hml, hown, hts⟩ (pX1_goes l D k0 k1 k2 k3 k4 k5 k6 cI th F ca ow sl gl mn va ki ra 0 1 (by decide) (by decide)) (cwV 2 hts gX1_put_X1_goes rfl rfl rfl (by decide +kernel) ⟨(Nat.le_of_ble_eq_true rfl), (Nat.le_of_ble_eq_true rfl)⟩) hK hP hD hS hA [0, 1, 2, 3, 4, 5, 6] [] rfl rfl (by decide) (by decide) (by decide) 0 rfl rfl rfl hl.1 rfl (Nat.le_of_ble_eq_true rfl) dX1_put_10 ⟨(Nat.le_of_ble_eq_true rfl), (Nat.le_of_ble_eq_true rfl)⟩ (fun r u H locs hw hP hD hS => ?_)
      obtain ⟨rfl, rfl⟩ := hw
      have hP : va_P D kC (wM k0 k1 k2 k3 k4 k5 k6 cI (nI 1) (nI F) ca ow sl gl mn va ki ra) H := hP
      have hD : va_D A (wM k0 k1 k2 k3 k4 k5 k6 cI (nI 1) (nI F) ca ow sl gl mn va ki ra) := hD
      refine kTop (v' := nI 0) rfl ?_
      refine kNe0 (a := 0) (by omega) (tgt := 18) hx hb dX1_put_13 (by decide) (fun c8 => ?_) (fun c8 => ?_)
      · skip
        exact absurd c8 (by decide)
      · skip
        refine lv_iconst (v := nI 0) hx hb dX1_put_16 (by decide) ?_
        exact (kReti hx hb hr hlocks dX1_put_17 (Nat.le_of_ble_eq_true rfl) (Nat.le_of_ble_eq_true rfl) hK hS hP hD (Or.inr (Or.inl ⟨hx9, rfl⟩)))
    · skip
      refine cVi (wr := []) (As := [.int (nI 0), .int (nI 0)]) (rest := []) ⟨hx, hb, hml, hown, hts⟩ (pX1_goes l D k0 k1 k2 k3 k4 k5 k6 cI th F ca ow sl gl mn va ki ra 0 0 (by decide) (by decide)) (cwV 2 hts gX1_put_X1_goes rfl rfl rfl (by decide +kernel) ⟨(Nat.le_of_ble_eq_true rfl), (Nat.le_of_ble_eq_true rfl)⟩) hK hP hD hS hA [0, 1, 2, 3, 4, 5, 6] [] rfl rfl (by decide) (by decide) (by decide) 0 rfl rfl rfl hl.1 rfl (Nat.le_of_ble_eq_true rfl) dX1_put_10 ⟨(Nat.le_of_ble_eq_true rfl), (Nat.le_of_ble_eq_true rfl)⟩ (fun r u H locs hw hP hD hS => ?_)
      obtain ⟨rfl, rfl⟩ := hw
      have hP : va_P D kC (wM k0 k1 k2 k3 k4 k5 k6 cI (nI 1) (nI F) ca ow sl gl mn va ki ra) H := hP
      have hD : va_D A (wM k0 k1 k2 k3 k4 k5 k6 cI (nI 1) (nI F) ca ow sl gl mn va ki ra) := hD
      refine kTop (v' := nI 0) rfl ?_
      refine kNe0 (a := 0) (by omega) (tgt := 18) hx hb dX1_put_13 (by decide) (fun c8 => ?_) (fun c8 => ?_)
      · skip
        exact absurd c8 (by decide)
      · skip
        refine lv_iconst (v := nI 0) hx hb dX1_put_16 (by decide) ?_
        exact (kReti hx hb hr hlocks dX1_put_17 (Nat.le_of_ble_eq_true rfl) (Nat.le_of_ble_eq_true rfl) hK hS hP hD (Or.inr (Or.inl ⟨hx9, rfl⟩)))

set_option maxHeartbeats 4000000 in
set_option maxRecDepth 100000 in
theorem pX1_peek (l : Launch) (D : va_G) (k0 k1 k2 k3 k4 k5 k6 : Nat) (cI : ClassId) (th : Int32) (F : Nat) (ca : Int32) (ow sl gl : Nat → Int32) (mn : Int32) (va ki ra : Nat → Int32) (hF : F ≤ 256) (x y z : Int32) : Mi l yX1_peek wsX1_peek r2 D (tI cI) [.ref k0, .int x, .int y, .int z] (wM k0 k1 k2 k3 k4 k5 k6 cI th (nI F) ca ow sl gl mn va ki ra) (fun r u => ((inR x 4 ∧ inR z 8 ∧ inR y ((rw_ ow F).count x)) ∧ u = wM k0 k1 k2 k3 k4 k5 k6 cI (nI 0) (nI F) ca ow sl gl mn va ki ra ∧ ∃ k9 s9 q, y = nI k9 ∧ z = nI s9 ∧ s9 < 8 ∧ q < F ∧ ow q = x ∧ (rw_ ow q).count x = k9 ∧ r = sl (8 * q + s9)) ∨ (¬ (inR x 4 ∧ inR z 8 ∧ inR y ((rw_ ow F).count x)) ∧ u = wM k0 k1 k2 k3 k4 k5 k6 cI (nI 1) (nI F) ca ow sl gl mn va ki ra)) := by
  refine Mi.of (cc := cX1_peek) (maxL := 5) (ty := .int) (by decide +kernel) rfl (Nat.le_of_ble_eq_true rfl) ?_
  rintro p e s m below meth c ls A ⟨hx, hb, hr, hml, hts, hown, hlocks, hnm, hP, hK, hD, hA, hS, hl⟩
  have hown : s.vm.findClass RX1 = some m.cls := hown
  have hl : lv_has ls 5 [(0, .ref k0), (1, .int x), (2, .int y), (3, .int z)] := hl
  have hin : ∀ w ∈ wsX10, w ∈ wsX1_peek := by decide +kernel
  have hP : va_P D kC (wM k0 k1 k2 k3 k4 k5 k6 cI th (nI F) ca ow sl gl mn va ki ra) s.heap := hP
  have hD : va_D A (wM k0 k1 k2 k3 k4 k5 k6 cI th (nI F) ca ow sl gl mn va ki ra) := hD
  have hcl := rw_count_le ow F x
  refine lv_iload_n hx hb dX1_peek_0 rfl (lv_at hl 1 rfl) ?_
  refine cSi (wr := wM k0 k1 k2 k3 k4 k5 k6 cI th (nI F) ca ow sl gl mn va ki ra) (As := [.int x]) (rest := []) ⟨hx, hb, hml, hown, hts⟩ (pX1_isMutator l D cI x) (va_cwS 1 hts gX1_peek_X1_isMutator rfl rfl rfl (by decide +kernel) ⟨(Nat.le_of_ble_eq_true rfl), (Nat.le_of_ble_eq_true rfl)⟩) hK hP hD hS hA [] [0, 1, 2, 3, 4, 5, 6] rfl rfl (by decide) (by decide) (by decide) rfl hl.1 rfl (Nat.le_of_ble_eq_true rfl) dX1_peek_1 ⟨(Nat.le_of_ble_eq_true rfl), (Nat.le_of_ble_eq_true rfl)⟩ (fun r u H locs hw hP hD hS => ?_)
  obtain ⟨rfl, hw⟩ := hw
  have hP : va_P D kC (wM k0 k1 k2 k3 k4 k5 k6 cI th (nI F) ca ow sl gl mn va ki ra) H := hP
  have hD : va_D A (wM k0 k1 k2 k3 k4 k5 k6 cI th (nI F) ca ow sl gl mn va ki ra) := hD
  rcases hw with ⟨hx9, rfl⟩ | ⟨hx9, rfl⟩
  · skip
    refine kEq0 (a := 1) (by omega) (tgt := 30) hx hb dX1_peek_4 (by decide) (fun c0 => ?_) (fun c0 => ?_)
    · skip
      exact absurd c0 (by decide)
    · skip
      refine lv_iload_n hx hb dX1_peek_7 rfl (lv_at hl 3 rfl) ?_
      refine lv_if_lt (tgt := 30) hx hb dX1_peek_8 (by decide) (fun c1 => ?_) (fun c1 => ?_)
      · skip
        refine lv_iconst (v := nI 0) hx hb dX1_peek_30 (by decide) ?_
        refine lv_istore (lv' := [(4, .int (nI 0)), (0, .ref k0), (1, .int x), (2, .int y), (3, .int z)]) hx hb dX1_peek_31 hl (by decide) rfl (fun ls hl => ?_)
        refine lv_aload_n hx hb dX1_peek_33 rfl (lv_at hl 1 rfl) ?_
        refine lv_iload hx hb dX1_peek_34 (lv_at hl 0 rfl) ?_
        refine lv_iconst (v := nI 1) hx hb dX1_peek_36 (by decide) ?_
        refine cVi (wr := []) (As := [.int (nI 0), .int (nI 1)]) (rest := []) ⟨hx, hb, hml, hown, hts⟩ (pX1_goes l D k0 k1 k2 k3 k4 k5 k6 cI th F ca ow sl gl mn va ki ra 0 1 (by decide) (by decide)) (cwV 2 hts gX1_peek_X1_goes rfl rfl rfl (by decide +kernel) ⟨(Nat.le_of_ble_eq_true rfl), (Nat.le_of_ble_eq_true rfl)⟩) hK hP hD hS hA [0, 1, 2, 3, 4, 5, 6] [] rfl rfl (by decide) (by decide) (by decide) 0 rfl rfl rfl hl.1 rfl (Nat.le_of_ble_eq_true rfl) dX1_peek_37 ⟨(Nat.le_of_ble_eq_true rfl), (Nat.le_of_ble_eq_true rfl)⟩ (fun r u H locs hw hP hD hS => ?_)
        obtain ⟨rfl, rfl⟩ := hw
        have hP : va_P D kC (wM k0 k1 k2 k3 k4 k5 k6 cI (nI 1) (nI F) ca ow sl gl mn va ki ra) H := hP
        have hD : va_D A (wM k0 k1 k2 k3 k4 k5 k6 cI (nI 1) (nI F) ca ow sl gl mn va ki ra) := hD
        refine kTop (v' := nI 0) rfl ?_
        refine kEq0 (a := 0) (by omega) (tgt := 62) hx hb dX1_peek_40 (by decide) (fun c8 => ?_) (fun c8 => ?_)
        · skip
          refine lv_iconst (v := nI 0) hx hb dX1_peek_62 (by decide) ?_
          exact (kReti hx hb hr hlocks dX1_peek_63 (Nat.le_of_ble_eq_true rfl) (Nat.le_of_ble_eq_true rfl) hK hS hP hD (Or.inr ⟨fun h => ((inR_iff (n := 8) (by decide)).mp h.2.1).1 c1, rfl⟩))
        · skip
          exact absurd c8 (by decide)
      · skip
        refine lv_iload_n hx hb dX1_peek_11 rfl (lv_at hl 3 rfl) ?_
        refine lv_bipush (v := nI 8) hx hb dX1_peek_12 (by decide) ?_
        refine lv_icmp_ge (tgt := 30) hx hb dX1_peek_14 (by decide) (fun c2 => ?_) (fun c2 => ?_)
        · skip
          refine lv_iconst (v := nI 0) hx hb dX1_peek_30 (by decide) ?_
          refine lv_istore (lv' := [(4, .int (nI 0)), (0, .ref k0), (1, .int x), (2, .int y), (3, .int z)]) hx hb dX1_peek_31 hl (by decide) rfl (fun ls hl => ?_)
          refine lv_aload_n hx hb dX1_peek_33 rfl (lv_at hl 1 rfl) ?_
          refine lv_iload hx hb dX1_peek_34 (lv_at hl 0 rfl) ?_
          refine lv_iconst (v := nI 1) hx hb dX1_peek_36 (by decide) ?_
          refine cVi (wr := []) (As := [.int (nI 0), .int (nI 1)]) (rest := []) ⟨hx, hb, hml, hown, hts⟩ (pX1_goes l D k0 k1 k2 k3 k4 k5 k6 cI th F ca ow sl gl mn va ki ra 0 1 (by decide) (by decide)) (cwV 2 hts gX1_peek_X1_goes rfl rfl rfl (by decide +kernel) ⟨(Nat.le_of_ble_eq_true rfl), (Nat.le_of_ble_eq_true rfl)⟩) hK hP hD hS hA [0, 1, 2, 3, 4, 5, 6] [] rfl rfl (by decide) (by decide) (by decide) 0 rfl rfl rfl hl.1 rfl (Nat.le_of_ble_eq_true rfl) dX1_peek_37 ⟨(Nat.le_of_ble_eq_true rfl), (Nat.le_of_ble_eq_true rfl)⟩ (fun r u H locs hw hP hD hS => ?_)
          obtain ⟨rfl, rfl⟩ := hw
          have hP : va_P D kC (wM k0 k1 k2 k3 k4 k5 k6 cI (nI 1) (nI F) ca ow sl gl mn va ki ra) H := hP
          have hD : va_D A (wM k0 k1 k2 k3 k4 k5 k6 cI (nI 1) (nI F) ca ow sl gl mn va ki ra) := hD
          refine kTop (v' := nI 0) rfl ?_
          refine kEq0 (a := 0) (by omega) (tgt := 62) hx hb dX1_peek_40 (by decide) (fun c8 => ?_) (fun c8 => ?_)
          · skip
            refine lv_iconst (v := nI 0) hx hb dX1_peek_62 (by decide) ?_
            exact (kReti hx hb hr hlocks dX1_peek_63 (Nat.le_of_ble_eq_true rfl) (Nat.le_of_ble_eq_true rfl) hK hS hP hD (Or.inr ⟨fun h => (Int32.not_le.mpr ((inR_iff (n := 8) (by decide)).mp h.2.1).2) c2, rfl⟩))
          · skip
            exact absurd c8 (by decide)
        · skip
          have hz9 : inR z 8 := (inR_iff (n := 8) (by decide)).mpr ⟨c1, Int32.not_le.mp c2⟩
          refine lv_aload_n hx hb dX1_peek_17 rfl (lv_at hl 0 rfl) ?_
          refine lv_iload_n hx hb dX1_peek_18 rfl (lv_at hl 1 rfl) ?_
          refine lv_iload_n hx hb dX1_peek_19 rfl (lv_at hl 2 rfl) ?_
          by_cases hy0 : y < 0
          · skip
            refine cVi (wr := []) (As := [.int x, .int y]) (rest := []) ⟨hx, hb, hml, hown, hts⟩ (pX1_frameN l D k0 k1 k2 k3 k4 k5 k6 cI th F ca ow sl gl mn va ki ra hF x y hy0) (cwV 2 hts gX1_peek_X1_frame rfl rfl rfl (by decide +kernel) ⟨(Nat.le_of_ble_eq_true rfl), (Nat.le_of_ble_eq_true rfl)⟩) hK hP hD hS hA [0, 1, 2, 3, 4, 5, 6] [] rfl rfl (by decide) (by decide) (by decide) 0 rfl rfl rfl hl.1 rfl (Nat.le_of_ble_eq_true rfl) dX1_peek_20 ⟨(Nat.le_of_ble_eq_true rfl), (Nat.le_of_ble_eq_true rfl)⟩ (fun r u H locs hw hP hD hS => ?_)
            obtain ⟨rfl, rfl⟩ := hw
            have hP : va_P D kC (wM k0 k1 k2 k3 k4 k5 k6 cI th (nI F) ca ow sl gl mn va ki ra) H := hP
            have hD : va_D A (wM k0 k1 k2 k3 k4 k5 k6 cI th (nI F) ca ow sl gl mn va ki ra) := hD
            refine lv_if_lt (tgt := 30) hx hb dX1_peek_23 (by decide) (fun c3 => ?_) (fun c3 => ?_)
            · skip
              refine lv_iconst (v := nI 0) hx hb dX1_peek_30 (by decide) ?_
              refine lv_istore (lv' := [(4, .int (nI 0)), (0, .ref k0), (1, .int x), (2, .int y), (3, .int z)]) hx hb dX1_peek_31 hl (by decide) rfl (fun ls hl => ?_)
              refine lv_aload_n hx hb dX1_peek_33 rfl (lv_at hl 1 rfl) ?_
              refine lv_iload hx hb dX1_peek_34 (lv_at hl 0 rfl) ?_
              refine lv_iconst (v := nI 1) hx hb dX1_peek_36 (by decide) ?_
              refine cVi (wr := []) (As := [.int (nI 0), .int (nI 1)]) (rest := []) ⟨hx, hb, hml, hown, hts⟩ (pX1_goes l D k0 k1 k2 k3 k4 k5 k6 cI th F ca ow sl gl mn va ki ra 0 1 (by decide) (by decide)) (cwV 2 hts gX1_peek_X1_goes rfl rfl rfl (by decide +kernel) ⟨(Nat.le_of_ble_eq_true rfl), (Nat.le_of_ble_eq_true rfl)⟩) hK hP hD hS hA [0, 1, 2, 3, 4, 5, 6] [] rfl rfl (by decide) (by decide) (by decide) 0 rfl rfl rfl hl.1 rfl (Nat.le_of_ble_eq_true rfl) dX1_peek_37 ⟨(Nat.le_of_ble_eq_true rfl), (Nat.le_of_ble_eq_true rfl)⟩ (fun r u H locs hw hP hD hS => ?_)
              obtain ⟨rfl, rfl⟩ := hw
              have hP : va_P D kC (wM k0 k1 k2 k3 k4 k5 k6 cI (nI 1) (nI F) ca ow sl gl mn va ki ra) H := hP
              have hD : va_D A (wM k0 k1 k2 k3 k4 k5 k6 cI (nI 1) (nI F) ca ow sl gl mn va ki ra) := hD
              refine kTop (v' := nI 0) rfl ?_
              refine kEq0 (a := 0) (by omega) (tgt := 62) hx hb dX1_peek_40 (by decide) (fun c8 => ?_) (fun c8 => ?_)
              · skip
                refine lv_iconst (v := nI 0) hx hb dX1_peek_62 (by decide) ?_
                exact (kReti hx hb hr hlocks dX1_peek_63 (Nat.le_of_ble_eq_true rfl) (Nat.le_of_ble_eq_true rfl) hK hS hP hD (Or.inr ⟨fun h => ((inR_iff (by omega)).mp h.2.2).1 hy0, rfl⟩))
              · skip
                exact absurd c8 (by decide)
            · skip
              exact absurd c3 (by decide)
          · skip
            obtain ⟨k9, hk9, rfl⟩ := nI_of hy0
            refine cVi (wr := []) (As := [.int x, .int (nI k9)]) (rest := []) ⟨hx, hb, hml, hown, hts⟩ (pX1_frame l D k0 k1 k2 k3 k4 k5 k6 cI th F ca ow sl gl mn va ki ra hF x k9 hk9) (cwV 2 hts gX1_peek_X1_frame rfl rfl rfl (by decide +kernel) ⟨(Nat.le_of_ble_eq_true rfl), (Nat.le_of_ble_eq_true rfl)⟩) hK hP hD hS hA [0, 1, 2, 3, 4, 5, 6] [] rfl rfl (by decide) (by decide) (by decide) 0 rfl rfl rfl hl.1 rfl (Nat.le_of_ble_eq_true rfl) dX1_peek_20 ⟨(Nat.le_of_ble_eq_true rfl), (Nat.le_of_ble_eq_true rfl)⟩ (fun r u H locs hw hP hD hS => ?_)
            obtain ⟨rfl, hw⟩ := hw
            rcases hw with ⟨rfl, hcc⟩ | ⟨q, rfl, hq, hoq, hcq⟩
            · skip
              have hP : va_P D kC (wM k0 k1 k2 k3 k4 k5 k6 cI th (nI F) ca ow sl gl mn va ki ra) H := hP
              have hD : va_D A (wM k0 k1 k2 k3 k4 k5 k6 cI th (nI F) ca ow sl gl mn va ki ra) := hD
              refine lv_if_lt (tgt := 30) hx hb dX1_peek_23 (by decide) (fun c3 => ?_) (fun c3 => ?_)
              · skip
                refine lv_iconst (v := nI 0) hx hb dX1_peek_30 (by decide) ?_
                refine lv_istore (lv' := [(4, .int (nI 0)), (0, .ref k0), (1, .int x), (2, .int (nI k9)), (3, .int z)]) hx hb dX1_peek_31 hl (by decide) rfl (fun ls hl => ?_)
                refine lv_aload_n hx hb dX1_peek_33 rfl (lv_at hl 1 rfl) ?_
                refine lv_iload hx hb dX1_peek_34 (lv_at hl 0 rfl) ?_
                refine lv_iconst (v := nI 1) hx hb dX1_peek_36 (by decide) ?_
                refine cVi (wr := []) (As := [.int (nI 0), .int (nI 1)]) (rest := []) ⟨hx, hb, hml, hown, hts⟩ (pX1_goes l D k0 k1 k2 k3 k4 k5 k6 cI th F ca ow sl gl mn va ki ra 0 1 (by decide) (by decide)) (cwV 2 hts gX1_peek_X1_goes rfl rfl rfl (by decide +kernel) ⟨(Nat.le_of_ble_eq_true rfl), (Nat.le_of_ble_eq_true rfl)⟩) hK hP hD hS hA [0, 1, 2, 3, 4, 5, 6] [] rfl rfl (by decide) (by decide) (by decide) 0 rfl rfl rfl hl.1 rfl (Nat.le_of_ble_eq_true rfl) dX1_peek_37 ⟨(Nat.le_of_ble_eq_true rfl), (Nat.le_of_ble_eq_true rfl)⟩ (fun r u H locs hw hP hD hS => ?_)
                obtain ⟨rfl, rfl⟩ := hw
                have hP : va_P D kC (wM k0 k1 k2 k3 k4 k5 k6 cI (nI 1) (nI F) ca ow sl gl mn va ki ra) H := hP
                have hD : va_D A (wM k0 k1 k2 k3 k4 k5 k6 cI (nI 1) (nI F) ca ow sl gl mn va ki ra) := hD
                refine kTop (v' := nI 0) rfl ?_
                refine kEq0 (a := 0) (by omega) (tgt := 62) hx hb dX1_peek_40 (by decide) (fun c8 => ?_) (fun c8 => ?_)
                · skip
                  refine lv_iconst (v := nI 0) hx hb dX1_peek_62 (by decide) ?_
                  exact (kReti hx hb hr hlocks dX1_peek_63 (Nat.le_of_ble_eq_true rfl) (Nat.le_of_ble_eq_true rfl) hK hS hP hD (Or.inr ⟨fun h => by obtain ⟨j, hj, e⟩ := h.2.2; have := (nI_eq hk9 (by omega)).mp e; omega, rfl⟩))
                · skip
                  exact absurd c8 (by decide)
              · skip
                exact absurd c3 (by decide)
            · skip
              have hP : va_P D kC (wM k0 k1 k2 k3 k4 k5 k6 cI th (nI F) ca ow sl gl mn va ki ra) H := hP
              have hD : va_D A (wM k0 k1 k2 k3 k4 k5 k6 cI th (nI F) ca ow sl gl mn va ki ra) := hD
              refine lv_if_lt (tgt := 30) hx hb dX1_peek_23 (by decide) (fun c3 => ?_) (fun c3 => ?_)
              · skip
                exact absurd c3 (nI_pos (by omega))
              · skip
                have hk8 : k9 < (rw_ ow F).count x := by have h1 := cn_mono ow x (show q + 1 ≤ F by omega); rw [cn_succ, if_pos hoq] at h1; omega
                obtain ⟨s9, hs9, rfl⟩ := id hz9
                refine lv_iconst (v := nI 1) hx hb dX1_peek_26 (by decide) ?_
                refine lv_goto (tgt := 31) hx hb dX1_peek_27 (by decide) ?_
                refine lv_istore (lv' := [(4, .int (nI 1)), (0, .ref k0), (1, .int x), (2, .int (nI k9)), (3, .int (nI s9))]) hx hb dX1_peek_31 hl (by decide) rfl (fun ls hl => ?_)
                refine lv_aload_n hx hb dX1_peek_33 rfl (lv_at hl 1 rfl) ?_
                refine lv_iload hx hb dX1_peek_34 (lv_at hl 0 rfl) ?_
                refine lv_iconst (v := nI 1) hx hb dX1_peek_36 (by decide) ?_
                refine cVi (wr := []) (As := [.int (nI 1), .int (nI 1)]) (rest := []) ⟨hx, hb, hml, hown, hts⟩ (pX1_goes l D k0 k1 k2 k3 k4 k5 k6 cI th F ca ow sl gl mn va ki ra 1 1 (by decide) (by decide)) (cwV 2 hts gX1_peek_X1_goes rfl rfl rfl (by decide +kernel) ⟨(Nat.le_of_ble_eq_true rfl), (Nat.le_of_ble_eq_true rfl)⟩) hK hP hD hS hA [0, 1, 2, 3, 4, 5, 6] [] rfl rfl (by decide) (by decide) (by decide) 0 rfl rfl rfl hl.1 rfl (Nat.le_of_ble_eq_true rfl) dX1_peek_37 ⟨(Nat.le_of_ble_eq_true rfl), (Nat.le_of_ble_eq_true rfl)⟩ (fun r u H locs hw hP hD hS => ?_)
                obtain ⟨rfl, rfl⟩ := hw
                have hP : va_P D kC (wM k0 k1 k2 k3 k4 k5 k6 cI (nI 0) (nI F) ca ow sl gl mn va ki ra) H := hP
                have hD : va_D A (wM k0 k1 k2 k3 k4 k5 k6 cI (nI 0) (nI F) ca ow sl gl mn va ki ra) := hD
                refine kTop (v' := nI 1) rfl ?_
                refine kEq0 (a := 1) (by omega) (tgt := 62) hx hb dX1_peek_40 (by decide) (fun c8 => ?_) (fun c8 => ?_)
                · skip
                  exact absurd c8 (by decide)
                · skip
                  refine lv_aload_n hx hb dX1_peek_43 rfl (lv_at hl 1 rfl) ?_
                  refine va_get (D := D) (ci := 1) (v := .ref k2) (C := RX1) (T := TX1) (N := 10) hx hb hts hin hown hK hP 0 rfl rfl 4 (by decide) (hts (.fieldLink RX1 17 "FrameRowModel" "slots" "[I") (by decide +kernel)) (fun _ h9 => h9) rfl dX1_peek_44 ?_
                  refine lv_bipush (v := nI 8) hx hb dX1_peek_47 (by decide) ?_
                  refine lv_aload_n hx hb dX1_peek_49 rfl (lv_at hl 1 rfl) ?_
                  refine lv_iload_n hx hb dX1_peek_50 rfl (lv_at hl 2 rfl) ?_
                  refine lv_iload_n hx hb dX1_peek_51 rfl (lv_at hl 3 rfl) ?_
                  refine cVi (wr := []) (As := [.int x, .int (nI k9)]) (rest := [.int (nI 8), .ref k2]) ⟨hx, hb, hml, hown, hts⟩ (pX1_frame l D k0 k1 k2 k3 k4 k5 k6 cI (nI 0) F ca ow sl gl mn va ki ra hF x k9 hk9) (cwV 2 hts gX1_peek_X1_frame rfl rfl rfl (by decide +kernel) ⟨(Nat.le_of_ble_eq_true rfl), (Nat.le_of_ble_eq_true rfl)⟩) hK hP hD hS hA [0, 1, 2, 3, 4, 5, 6] [] rfl rfl (by decide) (by decide) (by decide) 0 rfl rfl rfl hl.1 rfl (Nat.le_of_ble_eq_true rfl) dX1_peek_52 ⟨(Nat.le_of_ble_eq_true rfl), (Nat.le_of_ble_eq_true rfl)⟩ (fun r u H locs hw hP hD hS => ?_)
                  obtain ⟨rfl, hw⟩ := hw
                  obtain ⟨q2, rfl, hq2, hoq2, hcq2⟩ : ∃ q, r = nI q ∧ q < F ∧ ow q = x ∧ (rw_ ow q).count x = k9 := by rcases hw with ⟨-, h9⟩ | h9; exact absurd h9 (by omega); exact h9
                  have hP : va_P D kC (wM k0 k1 k2 k3 k4 k5 k6 cI (nI 0) (nI F) ca ow sl gl mn va ki ra) H := hP
                  have hD : va_D A (wM k0 k1 k2 k3 k4 k5 k6 cI (nI 0) (nI F) ca ow sl gl mn va ki ra) := hD
                  refine kMul hx hb dX1_peek_55 ?_
                  refine lv_iload_n hx hb dX1_peek_56 rfl (lv_at hl 4 rfl) ?_
                  refine kAdd hx hb dX1_peek_57 ?_
                  refine kLd hx hb hK hP 2 0 rfl rfl (j := (8 * q2) + s9) (by omega) (by decide) dX1_peek_58 ?_
                  refine lv_goto (tgt := 63) hx hb dX1_peek_59 (by decide) ?_
                  exact (kReti hx hb hr hlocks dX1_peek_63 (Nat.le_of_ble_eq_true rfl) (Nat.le_of_ble_eq_true rfl) hK hS hP hD (Or.inl ⟨⟨hx9, ⟨s9, hs9, rfl⟩, ⟨k9, hk8, rfl⟩⟩, rfl, k9, s9, q2, rfl, rfl, hs9, hq2, hoq2, hcq2, rfl⟩))
  · skip
    refine kEq0 (a := 0) (by omega) (tgt := 30) hx hb dX1_peek_4 (by decide) (fun c0 => ?_) (fun c0 => ?_)
    · skip
      refine lv_iconst (v := nI 0) hx hb dX1_peek_30 (by decide) ?_
      refine lv_istore (lv' := [(4, .int (nI 0)), (0, .ref k0), (1, .int x), (2, .int y), (3, .int z)]) hx hb dX1_peek_31 hl (by decide) rfl (fun ls hl => ?_)
      refine lv_aload_n hx hb dX1_peek_33 rfl (lv_at hl 1 rfl) ?_
      refine lv_iload hx hb dX1_peek_34 (lv_at hl 0 rfl) ?_
      refine lv_iconst (v := nI 1) hx hb dX1_peek_36 (by decide) ?_
      refine cVi (wr := []) (As := [.int (nI 0), .int (nI 1)]) (rest := []) ⟨hx, hb, hml, hown, hts⟩ (pX1_goes l D k0 k1 k2 k3 k4 k5 k6 cI th F ca ow sl gl mn va ki ra 0 1 (by decide) (by decide)) (cwV 2 hts gX1_peek_X1_goes rfl rfl rfl (by decide +kernel) ⟨(Nat.le_of_ble_eq_true rfl), (Nat.le_of_ble_eq_true rfl)⟩) hK hP hD hS hA [0, 1, 2, 3, 4, 5, 6] [] rfl rfl (by decide) (by decide) (by decide) 0 rfl rfl rfl hl.1 rfl (Nat.le_of_ble_eq_true rfl) dX1_peek_37 ⟨(Nat.le_of_ble_eq_true rfl), (Nat.le_of_ble_eq_true rfl)⟩ (fun r u H locs hw hP hD hS => ?_)
      obtain ⟨rfl, rfl⟩ := hw
      have hP : va_P D kC (wM k0 k1 k2 k3 k4 k5 k6 cI (nI 1) (nI F) ca ow sl gl mn va ki ra) H := hP
      have hD : va_D A (wM k0 k1 k2 k3 k4 k5 k6 cI (nI 1) (nI F) ca ow sl gl mn va ki ra) := hD
      refine kTop (v' := nI 0) rfl ?_
      refine kEq0 (a := 0) (by omega) (tgt := 62) hx hb dX1_peek_40 (by decide) (fun c8 => ?_) (fun c8 => ?_)
      · skip
        refine lv_iconst (v := nI 0) hx hb dX1_peek_62 (by decide) ?_
        exact (kReti hx hb hr hlocks dX1_peek_63 (Nat.le_of_ble_eq_true rfl) (Nat.le_of_ble_eq_true rfl) hK hS hP hD (Or.inr ⟨fun h => hx9 h.1, rfl⟩))
      · skip
        exact absurd c8 (by decide)
    · skip
      exact absurd c0 (by decide)
