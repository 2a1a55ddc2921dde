section PUREN
theorem tab_start {ki ra va : Nat → Int32} : Tab (fun t => if t < 4099 then nI 0 else ki t) ra (dd (rw_ va 0)) := by
  refine ⟨fun t ht h => absurd (if_pos ht) h, fun t q ht _ h => absurd (if_pos ht) h, fun x hx => absurd hx List.not_mem_nil, ?_, fun x hx => absurd hx List.not_mem_nil⟩
  have : (rw_ (fun t => if t < 4099 then nI 0 else ki t) 4099).count 0 = 4099 := by
    rw [rw_congr (g := fun _ => 0) (fun i hi => (if_pos hi).trans nI_0)]
    unfold rw_
    rw [List.map_const', List.length_range, List.count_replicate_self]
  rw [this]; rfl
end PUREN
set_option maxHeartbeats 4000000 in
set_option maxRecDepth 100000 in
theorem pX1_gather (l : Launch) (D : va_G) (k0 k1 k2 k3 k4 k5 k6 : Nat) (cI : ClassId) (th : Int32) (F : Nat) (ca : Int32) (ow sl gl : Nat → Int32) (mn : Int32) (va ki ra : Nat → Int32) (hF : F ≤ 256) : Mv l yX1_gather wsX1_gather r1 D (tI cI) [.ref k0] (wM k0 k1 k2 k3 k4 k5 k6 cI th (nI F) ca ow sl gl mn va ki ra) (fun u => ∃ va' : Nat → Int32, u = wM k0 k1 k2 k3 k4 k5 k6 cI th (nI F) ca ow sl gl (nI (ps (rowL ow sl gl F)).length) va' ki ra ∧ rw_ va' (ps (rowL ow sl gl F)).length = ps (rowL ow sl gl F)) := by
  refine Mv.of (cc := cX1_gather) (maxL := 4) (by decide +kernel) rfl (Nat.le_of_ble_eq_true rfl) ?_
  rintro p e s m below meth c ls A ⟨hx, hb, hr, hml, hts, hown, hlocks, hnm, hP, hK, hD, hA, hS, hl⟩
  have hown : s.vm.findClass RX1 = some m.cls := hown
  have hl : lv_has ls 4 [(0, .ref k0)] := hl
  have hin : ∀ w ∈ wsX10, w ∈ wsX1_gather := by decide +kernel
  have hP : va_P D kC (wM k0 k1 k2 k3 k4 k5 k6 cI th (nI F) ca ow sl gl mn va ki ra) s.heap := hP
  have hD : va_D A (wM k0 k1 k2 k3 k4 k5 k6 cI th (nI F) ca ow sl gl mn va ki ra) := hD
  refine lv_aload_n hx hb dX1_gather_0 rfl (lv_at hl 0 rfl) ?_
  refine lv_iconst (v := nI 0) hx hb dX1_gather_1 (by decide) ?_
  refine va_put (D := D) (ci := 1) (v := .int (nI 0)) (ty := .int) (C := RX1) (T := TX1) (N := 10) hx hb hts hin tyX1 tyX1_ok nmX1 hown hK hP hD hS 0 rfl rfl 6 (by decide) (hts (.fieldLink RX1 69 "FrameRowModel" "many" "I") (by decide +kernel)) (fun _ h9 => h9) rfl (by decide +kernel) rfl rfl (Nat.le_of_ble_eq_true rfl) dX1_gather_2 (fun H locs hP hD hS => ?_)
  have hP : va_P D kC (wM k0 k1 k2 k3 k4 k5 k6 cI th (nI F) ca ow sl gl (nI 0) va ki ra) H := hP
  have hD : va_D A (wM k0 k1 k2 k3 k4 k5 k6 cI th (nI F) ca ow sl gl (nI 0) va ki ra) := hD
  refine lv_iconst (v := nI 0) hx hb dX1_gather_5 (by decide) ?_
  refine lv_istore_n (lv' := [(1, .int (nI 0)), (0, .ref k0)]) hx hb dX1_gather_6 rfl hl (by decide) rfl (fun ls hl => ?_)
  refine kLoop (Q := fun i => ∀ (va : Nat → Int32) (ls : Array Slot) (H : Heap) (locs : List Loc), rw_ va (ps (ct ow sl F i)).length = ps (ct ow sl F i) → va_P D kC (wM k0 k1 k2 k3 k4 k5 k6 cI th (nI F) ca ow sl gl (nI (ps (ct ow sl F i)).length) va ki ra) H → va_D A (wM k0 k1 k2 k3 k4 k5 k6 cI th (nI F) ca ow sl gl (nI (ps (ct ow sl F i)).length) va ki ra) → va_S A s.heap H locs → lv_has ls 4 [(0, .ref k0), (1, .int (nI i))] → W p l e r1 s m [.ref k0].toArray below meth c H locs 0 0 (MQ below (va_Qv (fun u => ∃ va' : Nat → Int32, u = wM k0 k1 k2 k3 k4 k5 k6 cI th (nI F) ca ow sl gl (nI (ps (rowL ow sl gl F)).length) va' ki ra ∧ rw_ va' (ps (rowL ow sl gl F)).length = ps (rowL ow sl gl F)) (kB D (tI cI) A) A) [.ref k0].toArray s r1.cells r1.slots A) (F0 m 7 ls [])) (4) ?_ (0) (Nat.zero_le _) va ls _ _ rfl hP hD hS (lv_sub hl [1, 0] rfl)
  intro i hi ih va ls H locs hva hP hD hS hl
  refine lv_iload_n hx hb dX1_gather_7 rfl (lv_at hl 1 rfl) ?_
  refine lv_iconst (v := nI 4) hx hb dX1_gather_8 (by decide) ?_
  refine kIge (a := i) (b := 4) (by omega) (by omega) (tgt := 77) hx hb dX1_gather_9 (by decide) (fun c1 => ?_) (fun c1 => ?_)
  · skip
    have hi2 : i = 4 := by omega
    subst hi2
    have hP : va_P D kC (wM k0 k1 k2 k3 k4 k5 k6 cI th (nI F) ca ow sl gl (nI (ps (ct ow sl F 4 ++ rw_ gl 0)).length) va ki ra) H := by rw [rw_zero, List.append_nil]; exact hP
    have hD : va_D A (wM k0 k1 k2 k3 k4 k5 k6 cI th (nI F) ca ow sl gl (nI (ps (ct ow sl F 4 ++ rw_ gl 0)).length) va ki ra) := by rw [rw_zero, List.append_nil]; exact hD
    have hva : rw_ va (ps (ct ow sl F 4 ++ rw_ gl 0)).length = ps (ct ow sl F 4 ++ rw_ gl 0) := by rw [rw_zero, List.append_nil]; exact hva
    refine lv_iconst (v := nI 0) hx hb dX1_gather_77 (by decide) ?_
    refine lv_istore_n (lv' := [(1, .int (nI 0)), (0, .ref k0)]) hx hb dX1_gather_78 rfl hl (by decide) rfl (fun ls hl => ?_)
    refine kLoop (Q := fun j => ∀ (va : Nat → Int32) (ls : Array Slot) (H : Heap) (locs : List Loc), rw_ va (ps (ct ow sl F 4 ++ rw_ gl j)).length = ps (ct ow sl F 4 ++ rw_ gl j) → va_P D kC (wM k0 k1 k2 k3 k4 k5 k6 cI th (nI F) ca ow sl gl (nI (ps (ct ow sl F 4 ++ rw_ gl j)).length) va ki ra) H → va_D A (wM k0 k1 k2 k3 k4 k5 k6 cI th (nI F) ca ow sl gl (nI (ps (ct ow sl F 4 ++ rw_ gl j)).length) va ki ra) → va_S A s.heap H locs → lv_has ls 4 [(0, .ref k0), (1, .int (nI j))] → W p l e r1 s m [.ref k0].toArray below meth c H locs 0 0 (MQ below (va_Qv (fun u => ∃ va' : Nat → Int32, u = wM k0 k1 k2 k3 k4 k5 k6 cI th (nI F) ca ow sl gl (nI (ps (rowL ow sl gl F)).length) va' ki ra ∧ rw_ va' (ps (rowL ow sl gl F)).length = ps (rowL ow sl gl F)) (kB D (tI cI) A) A) [.ref k0].toArray s r1.cells r1.slots A) (F0 m 79 ls [])) (16) ?_ (0) (Nat.zero_le _) va ls _ _ hva hP hD hS (lv_sub hl [1, 0] rfl)
    intro j hj ihg va ls H locs hva hP hD hS hl
    refine lv_iload_n hx hb dX1_gather_79 rfl (lv_at hl 1 rfl) ?_
    refine lv_bipush (v := nI 16) hx hb dX1_gather_80 (by decide) ?_
    refine kIge (a := j) (b := 16) (by omega) (by omega) (tgt := 101) hx hb dX1_gather_82 (by decide) (fun c2 => ?_) (fun c2 => ?_)
    · skip
      have hj2 : j = 16 := by omega
      subst hj2
      exact (kRetv hx hb hr hlocks dX1_gather_101 (Nat.le_of_ble_eq_true rfl) (Nat.le_of_ble_eq_true rfl) hK hS hP hD ⟨va, rfl, hva⟩)
    · skip
      refine lv_aload_n hx hb dX1_gather_85 rfl (lv_at hl 0 rfl) ?_
      refine lv_aload_n hx hb dX1_gather_86 rfl (lv_at hl 0 rfl) ?_
      refine va_get (D := D) (ci := 1) (v := .ref k3) (C := RX1) (T := TX1) (N := 10) hx hb hts hin hown hK hP 0 rfl rfl 5 (by decide) (hts (.fieldLink RX1 20 "FrameRowModel" "globals" "[I") (by decide +kernel)) (fun _ h9 => h9) rfl dX1_gather_87 ?_
      refine lv_iload_n hx hb dX1_gather_90 rfl (lv_at hl 1 rfl) ?_
      refine kLd hx hb hK hP 3 0 rfl rfl (j := j) (by omega) (by decide) dX1_gather_91 ?_
      have hle9 : (ps (ct ow sl F 4 ++ rw_ gl j)).length < 2064 := by have h1 := ps_le (ct ow sl F 4 ++ rw_ gl j); rw [List.length_append, ct_len, rw_len] at h1; have h2 := cs_le ow F; omega
      have hnx : ps (ct ow sl F 4 ++ rw_ gl j) ++ ps [gl j] = ps (ct ow sl F 4 ++ rw_ gl (j + 1)) := by rw [rw_succ, ← List.append_assoc, ps_app (_ ++ _)]
      refine cVv (wr := []) (As := [.int (gl j)]) (rest := []) ⟨hx, hb, hml, hown, hts⟩ (pX1_note l D k0 k1 k2 k3 k4 k5 k6 cI th F ca ow sl gl _ va ki ra (ps (ct ow sl F 4 ++ rw_ gl j)) rfl hva (gl j) (fun _ => hle9)) (cwV 1 hts gX1_gather_X1_note rfl rfl rfl (by decide +kernel) ⟨(Nat.le_of_ble_eq_true rfl), (Nat.le_of_ble_eq_true rfl)⟩) hK hP hD hS hA [0, 1, 2, 3, 4, 5, 6] [] rfl rfl (by decide) (by decide) (by decide) 0 rfl rfl rfl hl.1 rfl (Nat.le_of_ble_eq_true rfl) dX1_gather_92 ⟨(Nat.le_of_ble_eq_true rfl), (Nat.le_of_ble_eq_true rfl)⟩ (fun u H locs hw hP hD hS => ?_)
      obtain ⟨va, rfl, hva⟩ := hw
      rw [hnx] at hP hD hva
      have hP : va_P D kC (wM k0 k1 k2 k3 k4 k5 k6 cI th (nI F) ca ow sl gl (nI (ps (ct ow sl F 4 ++ rw_ gl (j + 1))).length) va ki ra) H := hP
      have hD : va_D A (wM k0 k1 k2 k3 k4 k5 k6 cI th (nI F) ca ow sl gl (nI (ps (ct ow sl F 4 ++ rw_ gl (j + 1))).length) va ki ra) := hD
      refine lv_iinc (v := nI (j + 1)) (lv' := [(1, .int (nI (j + 1))), (0, .ref k0)]) hx hb dX1_gather_95 hl (k := 1) rfl (kInc1 _) (by decide) rfl (fun ls hl => ?_)
      refine lv_goto (tgt := 79) hx hb dX1_gather_98 (by decide) ?_
      exact ihg c2 va ls _ _ hva hP hD hS (lv_sub (l' := [(0, .ref k0), (1, .int (nI (j + 1)))]) hl [1, 0] rfl)
  · skip
    have hP : va_P D kC (wM k0 k1 k2 k3 k4 k5 k6 cI th (nI F) ca ow sl gl (nI (ps (ct ow sl F i ++ bl ow sl (nI i) 0)).length) va ki ra) H := by rw [show bl ow sl (nI i) 0 = [] from rfl, List.append_nil]; exact hP
    have hD : va_D A (wM k0 k1 k2 k3 k4 k5 k6 cI th (nI F) ca ow sl gl (nI (ps (ct ow sl F i ++ bl ow sl (nI i) 0)).length) va ki ra) := by rw [show bl ow sl (nI i) 0 = [] from rfl, List.append_nil]; exact hD
    have hva : rw_ va (ps (ct ow sl F i ++ bl ow sl (nI i) 0)).length = ps (ct ow sl F i ++ bl ow sl (nI i) 0) := by rw [show bl ow sl (nI i) 0 = [] from rfl, List.append_nil]; exact hva
    refine lv_iconst (v := nI 0) hx hb dX1_gather_12 (by decide) ?_
    refine lv_istore_n (lv' := [(2, .int (nI 0)), (0, .ref k0), (1, .int (nI i))]) hx hb dX1_gather_13 rfl hl (by decide) rfl (fun ls hl => ?_)
    refine kLoop (Q := fun j => ∀ (va : Nat → Int32) (ls : Array Slot) (H : Heap) (locs : List Loc), rw_ va (ps (ct ow sl F i ++ bl ow sl (nI i) j)).length = ps (ct ow sl F i ++ bl ow sl (nI i) j) → va_P D kC (wM k0 k1 k2 k3 k4 k5 k6 cI th (nI F) ca ow sl gl (nI (ps (ct ow sl F i ++ bl ow sl (nI i) j)).length) va ki ra) H → va_D A (wM k0 k1 k2 k3 k4 k5 k6 cI th (nI F) ca ow sl gl (nI (ps (ct ow sl F i ++ bl ow sl (nI i) j)).length) va ki ra) → va_S A s.heap H locs → lv_has ls 4 [(0, .ref k0), (1, .int (nI i)), (2, .int (nI j))] → W p l e r1 s m [.ref k0].toArray below meth c H locs 0 0 (MQ below (va_Qv (fun u => ∃ va' : Nat → Int32, u = wM k0 k1 k2 k3 k4 k5 k6 cI th (nI F) ca ow sl gl (nI (ps (rowL ow sl gl F)).length) va' ki ra ∧ rw_ va' (ps (rowL ow sl gl F)).length = ps (rowL ow sl gl F)) (kB D (tI cI) A) A) [.ref k0].toArray s r1.cells r1.slots A) (F0 m 14 ls [])) (F) ?_ (0) (Nat.zero_le _) va ls _ _ hva hP hD hS (lv_sub hl [1, 2, 0] rfl)
    intro j hj ih2 va ls H locs hva hP hD hS hl
    refine lv_iload_n hx hb dX1_gather_14 rfl (lv_at hl 2 rfl) ?_
    refine lv_aload_n hx hb dX1_gather_15 rfl (lv_at hl 0 rfl) ?_
    refine va_get (D := D) (ci := 1) (v := .int (nI F)) (C := RX1) (T := TX1) (N := 10) hx hb hts hin hown hK hP 0 rfl rfl 1 (by decide) (hts (.fieldLink RX1 7 "FrameRowModel" "frames" "I") (by decide +kernel)) (fun _ h9 => h9) rfl dX1_gather_16 ?_
    refine kIge (a := j) (b := F) (by omega) (by omega) (tgt := 71) hx hb dX1_gather_19 (by decide) (fun c2 => ?_) (fun c2 => ?_)
    · skip
      have hj2 : j = F := by omega
      subst hj2
      refine lv_iinc (v := nI (i + 1)) (lv' := [(1, .int (nI (i + 1))), (0, .ref k0), (2, .int (nI j))]) hx hb dX1_gather_71 hl (k := 1) rfl (kInc1 _) (by decide) rfl (fun ls hl => ?_)
      refine lv_goto (tgt := 7) hx hb dX1_gather_74 (by decide) ?_
      exact ih c1 va ls _ _ hva hP hD hS (lv_sub (l' := [(0, .ref k0), (1, .int (nI (i + 1)))]) hl [1, 0] rfl)
    · skip
      have hz0 : (if ow j = nI i then fr8 sl j 0 else []) = ([] : List Int32) := by split <;> rfl
      have hP : va_P D kC (wM k0 k1 k2 k3 k4 k5 k6 cI th (nI F) ca ow sl gl (nI (ps (ct ow sl F i ++ (bl ow sl (nI i) j ++ if ow j = nI i then fr8 sl j 0 else []))).length) va ki ra) H := by rw [hz0, List.append_nil]; exact hP
      have hD : va_D A (wM k0 k1 k2 k3 k4 k5 k6 cI th (nI F) ca ow sl gl (nI (ps (ct ow sl F i ++ (bl ow sl (nI i) j ++ if ow j = nI i then fr8 sl j 0 else []))).length) va ki ra) := by rw [hz0, List.append_nil]; exact hD
      have hva : rw_ va (ps (ct ow sl F i ++ (bl ow sl (nI i) j ++ if ow j = nI i then fr8 sl j 0 else []))).length = ps (ct ow sl F i ++ (bl ow sl (nI i) j ++ if ow j = nI i then fr8 sl j 0 else [])) := by rw [hz0, List.append_nil]; exact hva
      refine lv_iconst (v := nI 0) hx hb dX1_gather_22 (by decide) ?_
      refine lv_istore_n (lv' := [(3, .int (nI 0)), (0, .ref k0), (1, .int (nI i)), (2, .int (nI j))]) hx hb dX1_gather_23 rfl hl (by decide) rfl (fun ls hl => ?_)
      refine kLoop (Q := fun k => ∀ (va : Nat → Int32) (ls : Array Slot) (H : Heap) (locs : List Loc), rw_ va (ps (ct ow sl F i ++ (bl ow sl (nI i) j ++ if ow j = nI i then fr8 sl j k else []))).length = ps (ct ow sl F i ++ (bl ow sl (nI i) j ++ if ow j = nI i then fr8 sl j k else [])) → va_P D kC (wM k0 k1 k2 k3 k4 k5 k6 cI th (nI F) ca ow sl gl (nI (ps (ct ow sl F i ++ (bl ow sl (nI i) j ++ if ow j = nI i then fr8 sl j k else []))).length) va ki ra) H → va_D A (wM k0 k1 k2 k3 k4 k5 k6 cI th (nI F) ca ow sl gl (nI (ps (ct ow sl F i ++ (bl ow sl (nI i) j ++ if ow j = nI i then fr8 sl j k else []))).length) va ki ra) → va_S A s.heap H locs → lv_has ls 4 [(0, .ref k0), (1, .int (nI i)), (2, .int (nI j)), (3, .int (nI k))] → W p l e r1 s m [.ref k0].toArray below meth c H locs 0 0 (MQ below (va_Qv (fun u => ∃ va' : Nat → Int32, u = wM k0 k1 k2 k3 k4 k5 k6 cI th (nI F) ca ow sl gl (nI (ps (rowL ow sl gl F)).length) va' ki ra ∧ rw_ va' (ps (rowL ow sl gl F)).length = ps (rowL ow sl gl F)) (kB D (tI cI) A) A) [.ref k0].toArray s r1.cells r1.slots A) (F0 m 24 ls [])) (8) ?_ (0) (Nat.zero_le _) va ls _ _ hva hP hD hS (lv_sub hl [1, 2, 3, 0] rfl)
      intro k hk ih3 va ls H locs hva hP hD hS hl
      refine lv_iload_n hx hb dX1_gather_24 rfl (lv_at hl 3 rfl) ?_
      refine lv_bipush (v := nI 8) hx hb dX1_gather_25 (by decide) ?_
      refine kIge (a := k) (b := 8) (by omega) (by omega) (tgt := 65) hx hb dX1_gather_27 (by decide) (fun c3 => ?_) (fun c3 => ?_)
      · skip
        have hk2 : k = 8 := by omega
        subst hk2
        refine lv_iinc (v := nI (j + 1)) (lv' := [(2, .int (nI (j + 1))), (0, .ref k0), (1, .int (nI i)), (3, .int (nI 8))]) hx hb dX1_gather_65 hl (k := 2) rfl (kInc1 _) (by decide) rfl (fun ls hl => ?_)
        refine lv_goto (tgt := 14) hx hb dX1_gather_68 (by decide) ?_
        exact ih2 c2 va ls _ _ hva hP hD hS (lv_sub (l' := [(0, .ref k0), (1, .int (nI i)), (2, .int (nI (j + 1)))]) hl [1, 2, 0] rfl)
      · skip
        refine lv_aload_n hx hb dX1_gather_30 rfl (lv_at hl 0 rfl) ?_
        refine lv_aload_n hx hb dX1_gather_31 rfl (lv_at hl 0 rfl) ?_
        refine va_get (D := D) (ci := 1) (v := .ref k1) (C := RX1) (T := TX1) (N := 10) hx hb hts hin hown hK hP 0 rfl rfl 3 (by decide) (hts (.fieldLink RX1 13 "FrameRowModel" "owners" "[I") (by decide +kernel)) (fun _ h9 => h9) rfl dX1_gather_32 ?_
        refine lv_iload_n hx hb dX1_gather_35 rfl (lv_at hl 2 rfl) ?_
        refine kLd hx hb hK hP 1 0 rfl rfl (j := j) (by omega) (by decide) dX1_gather_36 ?_
        refine lv_iload_n hx hb dX1_gather_37 rfl (lv_at hl 1 rfl) ?_
        refine lv_icmp_ne (tgt := 55) hx hb dX1_gather_38 (by decide) (fun c4 => ?_) (fun c4 => ?_)
        · skip
          refine lv_iconst (v := nI 0) hx hb dX1_gather_55 (by decide) ?_
          have hnx : ps (ct ow sl F i ++ (bl ow sl (nI i) j ++ if ow j = nI i then fr8 sl j k else [])) ++ ps [nI 0] = ps (ct ow sl F i ++ (bl ow sl (nI i) j ++ if ow j = nI i then fr8 sl j (k + 1) else [])) := by rw [if_neg c4, if_neg c4, ps_0 (by decide), List.append_nil]
          refine cVv (wr := []) (As := [.int (nI 0)]) (rest := []) ⟨hx, hb, hml, hown, hts⟩ (pX1_note l D k0 k1 k2 k3 k4 k5 k6 cI th F ca ow sl gl _ va ki ra (ps (ct ow sl F i ++ (bl ow sl (nI i) j ++ if ow j = nI i then fr8 sl j k else []))) rfl hva (nI 0) (fun h => absurd h (by decide))) (cwV 1 hts gX1_gather_X1_note rfl rfl rfl (by decide +kernel) ⟨(Nat.le_of_ble_eq_true rfl), (Nat.le_of_ble_eq_true rfl)⟩) hK hP hD hS hA [0, 1, 2, 3, 4, 5, 6] [] rfl rfl (by decide) (by decide) (by decide) 0 rfl rfl rfl hl.1 rfl (Nat.le_of_ble_eq_true rfl) dX1_gather_56 ⟨(Nat.le_of_ble_eq_true rfl), (Nat.le_of_ble_eq_true rfl)⟩ (fun u H locs hw hP hD hS => ?_)
          obtain ⟨va, rfl, hva⟩ := hw
          rw [hnx] at hP hD hva
          have hP : va_P D kC (wM k0 k1 k2 k3 k4 k5 k6 cI th (nI F) ca ow sl gl (nI (ps (ct ow sl F i ++ (bl ow sl (nI i) j ++ if ow j = nI i then fr8 sl j (k + 1) else []))).length) va ki ra) H := hP
          have hD : va_D A (wM k0 k1 k2 k3 k4 k5 k6 cI th (nI F) ca ow sl gl (nI (ps (ct ow sl F i ++ (bl ow sl (nI i) j ++ if ow j = nI i then fr8 sl j (k + 1) else []))).length) va ki ra) := hD
          refine lv_iinc (v := nI (k + 1)) (lv' := [(3, .int (nI (k + 1))), (0, .ref k0), (1, .int (nI i)), (2, .int (nI j))]) hx hb dX1_gather_59 hl (k := 3) rfl (kInc1 _) (by decide) rfl (fun ls hl => ?_)
          refine lv_goto (tgt := 24) hx hb dX1_gather_62 (by decide) ?_
          exact ih3 c3 va ls _ _ hva hP hD hS (lv_sub (l' := [(0, .ref k0), (1, .int (nI i)), (2, .int (nI j)), (3, .int (nI (k + 1)))]) hl [1, 2, 3, 0] rfl)
        · skip
          refine lv_aload_n hx hb dX1_gather_41 rfl (lv_at hl 0 rfl) ?_
          refine va_get (D := D) (ci := 1) (v := .ref k2) (C := RX1) (T := TX1) (N := 10) hx hb hts hin hown hK hP 0 rfl rfl 4 (by decide) (hts (.fieldLink RX1 17 "FrameRowModel" "slots" "[I") (by decide +kernel)) (fun _ h9 => h9) rfl dX1_gather_42 ?_
          refine lv_bipush (v := nI 8) hx hb dX1_gather_45 (by decide) ?_
          refine lv_iload_n hx hb dX1_gather_47 rfl (lv_at hl 2 rfl) ?_
          refine kMul hx hb dX1_gather_48 ?_
          refine lv_iload_n hx hb dX1_gather_49 rfl (lv_at hl 3 rfl) ?_
          refine kAdd hx hb dX1_gather_50 ?_
          refine kLd hx hb hK hP 2 0 rfl rfl (j := (8 * j) + k) (by omega) (by decide) dX1_gather_51 ?_
          refine lv_goto (tgt := 56) hx hb dX1_gather_52 (by decide) ?_
          have hle9 : (ps (ct ow sl F i ++ (bl ow sl (nI i) j ++ if ow j = nI i then fr8 sl j k else []))).length < 2064 := by have h1 := ps_le (ct ow sl F i ++ (bl ow sl (nI i) j ++ if ow j = nI i then fr8 sl j k else [])); rw [if_pos c4] at h1 ⊢; have h2 := gat_lt (sl := sl) c1 c2 c3 c4; omega
          have hnx : ps (ct ow sl F i ++ (bl ow sl (nI i) j ++ if ow j = nI i then fr8 sl j k else [])) ++ ps [sl (8 * j + k)] = ps (ct ow sl F i ++ (bl ow sl (nI i) j ++ if ow j = nI i then fr8 sl j (k + 1) else [])) := by rw [if_pos c4, if_pos c4, fr8_succ, ← ps_app, List.append_assoc, List.append_assoc]
          refine cVv (wr := []) (As := [.int (sl ((8 * j) + k))]) (rest := []) ⟨hx, hb, hml, hown, hts⟩ (pX1_note l D k0 k1 k2 k3 k4 k5 k6 cI th F ca ow sl gl _ va ki ra (ps (ct ow sl F i ++ (bl ow sl (nI i) j ++ if ow j = nI i then fr8 sl j k else []))) rfl hva (sl (8 * j + k)) (fun _ => hle9)) (cwV 1 hts gX1_gather_X1_note rfl rfl rfl (by decide +kernel) ⟨(Nat.le_of_ble_eq_true rfl), (Nat.le_of_ble_eq_true rfl)⟩) hK hP hD hS hA [0, 1, 2, 3, 4, 5, 6] [] rfl rfl (by decide) (by decide) (by decide) 0 rfl rfl rfl hl.1 rfl (Nat.le_of_ble_eq_true rfl) dX1_gather_56 ⟨(Nat.le_of_ble_eq_true rfl), (Nat.le_of_ble_eq_true rfl)⟩ (fun u H locs hw hP hD hS => ?_)
          obtain ⟨va, rfl, hva⟩ := hw
          rw [hnx] at hP hD hva
          have hP : va_P D kC (wM k0 k1 k2 k3 k4 k5 k6 cI th (nI F) ca ow sl gl (nI (ps (ct ow sl F i ++ (bl ow sl (nI i) j ++ if ow j = nI i then fr8 sl j (k + 1) else []))).length) va ki ra) H := hP
          have hD : va_D A (wM k0 k1 k2 k3 k4 k5 k6 cI th (nI F) ca ow sl gl (nI (ps (ct ow sl F i ++ (bl ow sl (nI i) j ++ if ow j = nI i then fr8 sl j (k + 1) else []))).length) va ki ra) := hD
          refine lv_iinc (v := nI (k + 1)) (lv' := [(3, .int (nI (k + 1))), (0, .ref k0), (1, .int (nI i)), (2, .int (nI j))]) hx hb dX1_gather_59 hl (k := 3) rfl (kInc1 _) (by decide) rfl (fun ls hl => ?_)
          refine lv_goto (tgt := 24) hx hb dX1_gather_62 (by decide) ?_
          exact ih3 c3 va ls _ _ hva hP hD hS (lv_sub (l' := [(0, .ref k0), (1, .int (nI i)), (2, .int (nI j)), (3, .int (nI (k + 1)))]) hl [1, 2, 3, 0] rfl)

set_option maxHeartbeats 4000000 in
set_option maxRecDepth 100000 in
theorem pX1_findFirsts (l : Launch) (D : va_G) (k0 k1 k2 k3 k4 k5 k6 : Nat) (cI : ClassId) (th : Int32) (F : Nat) (ca : Int32) (ow sl gl : Nat → Int32) (mn : Int32) (va ki ra : Nat → Int32) (G : List Int32) (hmn : mn = nI G.length) (hG : rw_ va G.length = G) (hpos : ∀ x, x ∈ G → 0 < x) (hGl : G.length ≤ 2064) : Mi l yX1_findFirsts wsX1_findFirsts r1 D (tI cI) [.ref k0] (wM k0 k1 k2 k3 k4 k5 k6 cI th (nI F) ca ow sl gl mn va ki ra) (fun r u => r = nI (dd G).length ∧ ∃ ki' ra' : Nat → Int32, u = wM k0 k1 k2 k3 k4 k5 k6 cI th (nI F) ca ow sl gl mn va ki' ra' ∧ Tab ki' ra' (dd G)) := by
  refine Mi.of (cc := cX1_findFirsts) (maxL := 4) (ty := .int) (by decide +kernel) rfl (Nat.le_of_ble_eq_true rfl) ?_
  rintro p e s m below meth c ls A ⟨hx, hb, hr, hml, hts, hown, hlocks, hnm, hP, hK, hD, hA, hS, hl⟩
  have hown : s.vm.findClass RX1 = some m.cls := hown
  have hl : lv_has ls 4 [(0, .ref k0)] := hl
  have hin : ∀ w ∈ wsX10, w ∈ wsX1_findFirsts := by decide +kernel
  have hP : va_P D kC (wM k0 k1 k2 k3 k4 k5 k6 cI th (nI F) ca ow sl gl mn va ki ra) s.heap := hP
  have hD : va_D A (wM k0 k1 k2 k3 k4 k5 k6 cI th (nI F) ca ow sl gl mn va ki ra) := hD
  subst hmn
  refine lv_iconst (v := nI 0) hx hb dX1_findFirsts_0 (by decide) ?_
  refine lv_istore_n (lv' := [(1, .int (nI 0)), (0, .ref k0)]) hx hb dX1_findFirsts_1 rfl hl (by decide) rfl (fun ls hl => ?_)
  refine lv_iconst (v := nI 0) hx hb dX1_findFirsts_2 (by decide) ?_
  refine lv_istore_n (lv' := [(2, .int (nI 0)), (1, .int (nI 0)), (0, .ref k0)]) hx hb dX1_findFirsts_3 rfl hl (by decide) rfl (fun ls hl => ?_)
  have hP : va_P D kC (wM k0 k1 k2 k3 k4 k5 k6 cI th (nI F) ca ow sl gl (nI G.length) va ((fun t => if t < 0 then nI 0 else ki t)) ra) s.heap := by rw [fl_start]; exact hP
  have hD : va_D A (wM k0 k1 k2 k3 k4 k5 k6 cI th (nI F) ca ow sl gl (nI G.length) va ((fun t => if t < 0 then nI 0 else ki t)) ra) := by rw [fl_start]; exact hD
  refine kLoop (Q := fun i => ∀  (ls : Array Slot) (H : Heap) (locs : List Loc), va_P D kC (wM k0 k1 k2 k3 k4 k5 k6 cI th (nI F) ca ow sl gl (nI G.length) va ((fun t => if t < i then nI 0 else ki t)) ra) H → va_D A (wM k0 k1 k2 k3 k4 k5 k6 cI th (nI F) ca ow sl gl (nI G.length) va ((fun t => if t < i then nI 0 else ki t)) ra) → va_S A s.heap H locs → lv_has ls 4 [(0, .ref k0), (1, .int (nI 0)), (2, .int (nI i))] → W p l e r1 s m [.ref k0].toArray below meth c H locs 0 0 (MQ below (va_Qi (fun r u => r = nI (dd G).length ∧ ∃ ki' ra' : Nat → Int32, u = wM k0 k1 k2 k3 k4 k5 k6 cI th (nI F) ca ow sl gl (nI G.length) va ki' ra' ∧ Tab ki' ra' (dd G)) (kB D (tI cI) A) A) [.ref k0].toArray s r1.cells r1.slots A) (F0 m 4 ls [])) (4099) ?_ (0) (Nat.zero_le _)  ls _ _  hP hD hS (lv_sub hl [2, 1, 0] rfl)
  intro i hi ih  ls H locs  hP hD hS hl
  refine lv_iload_n hx hb dX1_findFirsts_4 rfl (lv_at hl 2 rfl) ?_
  refine lv_sipush (v := nI 4099) hx hb dX1_findFirsts_5 (by decide) ?_
  refine kIge (a := i) (b := 4099) (by omega) (by omega) (tgt := 24) hx hb dX1_findFirsts_8 (by decide) (fun c1 => ?_) (fun c1 => ?_)
  · skip
    have hi2 : i = 4099 := by omega
    subst hi2
    obtain ⟨kz, hkz⟩ : ∃ kz : Nat → Int32, kz = (fun t => if t < 4099 then nI 0 else ki t) := ⟨_, rfl⟩
    rw [← hkz] at hP hD
    have hT : Tab kz ra (dd (rw_ va 0)) := by rw [hkz]; exact tab_start
    clear hkz ih
    refine lv_iconst (v := nI 0) hx hb dX1_findFirsts_24 (by decide) ?_
    refine lv_istore_n (lv' := [(2, .int (nI 0)), (0, .ref k0), (1, .int (nI 0))]) hx hb dX1_findFirsts_25 rfl hl (by decide) rfl (fun ls hl => ?_)
    refine kLoop (Q := fun j => ∀ (kj : Nat → Int32) (rj : Nat → Int32) (ls : Array Slot) (H : Heap) (locs : List Loc), Tab kj rj (dd (rw_ va j)) → va_P D kC (wM k0 k1 k2 k3 k4 k5 k6 cI th (nI F) ca ow sl gl (nI G.length) va kj rj) H → va_D A (wM k0 k1 k2 k3 k4 k5 k6 cI th (nI F) ca ow sl gl (nI G.length) va kj rj) → va_S A s.heap H locs → lv_has ls 4 [(0, .ref k0), (1, .int (nI ((dd (rw_ va j)).length))), (2, .int (nI j))] → W p l e r1 s m [.ref k0].toArray below meth c H locs 0 0 (MQ below (va_Qi (fun r u => r = nI (dd G).length ∧ ∃ ki' ra' : Nat → Int32, u = wM k0 k1 k2 k3 k4 k5 k6 cI th (nI F) ca ow sl gl (nI G.length) va ki' ra' ∧ Tab ki' ra' (dd G)) (kB D (tI cI) A) A) [.ref k0].toArray s r1.cells r1.slots A) (F0 m 26 ls [])) (G.length) ?_ (0) (Nat.zero_le _) kz ra ls _ _ hT hP hD hS (lv_sub hl [1, 2, 0] rfl)
    intro j hj ihj kj rj ls H locs hT hP hD hS hl
    have hdl := dd_len (rw_ va j)
    rw [rw_len] at hdl
    refine lv_iload_n hx hb dX1_findFirsts_26 rfl (lv_at hl 2 rfl) ?_
    refine lv_aload_n hx hb dX1_findFirsts_27 rfl (lv_at hl 0 rfl) ?_
    refine va_get (D := D) (ci := 1) (v := .int (nI (G.length))) (C := RX1) (T := TX1) (N := 10) hx hb hts hin hown hK hP 0 rfl rfl 6 (by decide) (hts (.fieldLink RX1 69 "FrameRowModel" "many" "I") (by decide +kernel)) (fun _ h9 => h9) rfl dX1_findFirsts_28 ?_
    refine kIge (a := j) (b := G.length) (by omega) (by omega) (tgt := 82) hx hb dX1_findFirsts_31 (by decide) (fun c2 => ?_) (fun c2 => ?_)
    · skip
      have hj2 : j = G.length := by omega
      rw [hj2, hG] at hT
      refine lv_iload_n hx hb dX1_findFirsts_82 rfl (lv_at hl 1 rfl) ?_
      exact (kReti hx hb hr hlocks dX1_findFirsts_83 (Nat.le_of_ble_eq_true rfl) (Nat.le_of_ble_eq_true rfl) hK hS hP hD ⟨by rw [hj2, hG], kj, rj, rfl, hT⟩)
    · skip
      have hvp : 0 < va j := hpos _ (by rw [← hG]; exact rw_mem.mpr ⟨j, c2, rfl⟩)
      have hv0 : va j ≠ 0 := fun h => by rw [h] at hvp; exact Int32.lt_irrefl hvp
      obtain ⟨E, hE, hE0⟩ := tab_free hT (by omega)
      refine lv_aload_n hx hb dX1_findFirsts_34 rfl (lv_at hl 0 rfl) ?_
      refine lv_aload_n hx hb dX1_findFirsts_35 rfl (lv_at hl 0 rfl) ?_
      refine va_get (D := D) (ci := 1) (v := .ref k4) (C := RX1) (T := TX1) (N := 10) hx hb hts hin hown hK hP 0 rfl rfl 7 (by decide) (hts (.fieldLink RX1 23 "FrameRowModel" "values" "[I") (by decide +kernel)) (fun _ h9 => h9) rfl dX1_findFirsts_36 ?_
      refine lv_iload_n hx hb dX1_findFirsts_39 rfl (lv_at hl 2 rfl) ?_
      refine kLd hx hb hK hP 4 0 rfl rfl (j := j) (by omega) (by decide) dX1_findFirsts_40 ?_
      refine cVi (wr := []) (As := [.int (va j)]) (rest := []) ⟨hx, hb, hml, hown, hts⟩ (pX1_find l D k0 k1 k2 k3 k4 k5 k6 cI th F ca ow sl gl (nI G.length) va kj rj (va j) hvp E hE hE0) (cwV 1 hts gX1_findFirsts_X1_find rfl rfl rfl (by decide +kernel) ⟨(Nat.le_of_ble_eq_true rfl), (Nat.le_of_ble_eq_true rfl)⟩) hK hP hD hS hA [0, 1, 2, 3, 4, 5, 6] [] rfl rfl (by decide) (by decide) (by decide) 0 rfl rfl rfl hl.1 rfl (Nat.le_of_ble_eq_true rfl) dX1_findFirsts_41 ⟨(Nat.le_of_ble_eq_true rfl), (Nat.le_of_ble_eq_true rfl)⟩ (fun r u H locs hw hP hD hS => ?_)
      obtain ⟨rfl, d, hd, rfl, hf, hpath⟩ := hw
      have hP : va_P D kC (wM k0 k1 k2 k3 k4 k5 k6 cI th (nI F) ca ow sl gl (nI G.length) va kj rj) H := hP
      have hD : va_D A (wM k0 k1 k2 k3 k4 k5 k6 cI th (nI F) ca ow sl gl (nI G.length) va kj rj) := hD
      have hlt := hsh_lt (va j) d
      refine lv_istore_n (lv' := [(3, .int (nI (hsh (va j) d))), (0, .ref k0), (1, .int (nI ((dd (rw_ va j)).length))), (2, .int (nI j))]) hx hb dX1_findFirsts_44 rfl hl (by decide) rfl (fun ls hl => ?_)
      refine lv_aload_n hx hb dX1_findFirsts_45 rfl (lv_at hl 1 rfl) ?_
      refine va_get (D := D) (ci := 1) (v := .ref k5) (C := RX1) (T := TX1) (N := 10) hx hb hts hin hown hK hP 0 rfl rfl 8 (by decide) (hts (.fieldLink RX1 26 "FrameRowModel" "kinds" "[I") (by decide +kernel)) (fun _ h9 => h9) rfl dX1_findFirsts_46 ?_
      refine lv_iload_n hx hb dX1_findFirsts_49 rfl (lv_at hl 0 rfl) ?_
      refine kLd hx hb hK hP 5 0 rfl rfl (j := hsh (va j) d) (by omega) (by decide) dX1_findFirsts_50 ?_
      refine lv_if_ne (tgt := 76) hx hb dX1_findFirsts_51 (by decide) (fun c3 => ?_) (fun c3 => ?_)
      · skip
        have hin9 : va j ∈ dd (rw_ va j) := by rcases hf with h | h; exact absurd h c3; have h9 := hT.1 _ hlt c3; rw [h] at h9; exact h9
        have hsm : dd (rw_ va (j + 1)) = dd (rw_ va j) := by rw [rw_succ, dd_snoc, ddS_in hin9]
        refine lv_iinc (v := nI (j + 1)) (lv' := [(2, .int (nI (j + 1))), (3, .int (nI (hsh (va j) d))), (0, .ref k0), (1, .int (nI ((dd (rw_ va j)).length)))]) hx hb dX1_findFirsts_76 hl (k := 3) rfl (kInc1 _) (by decide) rfl (fun ls hl => ?_)
        refine lv_goto (tgt := 26) hx hb dX1_findFirsts_79 (by decide) ?_
        exact ihj c2 kj rj ls _ _ (by rw [hsm]; exact hT) hP hD hS (by have h := (lv_sub (l' := [(0, .ref k0), (1, .int (nI ((dd (rw_ va j)).length))), (2, .int (nI (j + 1)))]) hl [2, 3, 0] rfl); rw [hsm]; exact h)
      · skip
        have hni : va j ∉ dd (rw_ va j) := fun h => by have h9 := (tab_in hT hv0 h hf hpath).1; rw [c3] at h9; exact hv0 h9.symm
        have hsm : dd (rw_ va (j + 1)) = dd (rw_ va j) ++ [va j] := by rw [rw_succ, dd_snoc, ddS_new hni]
        refine lv_iinc (v := nI ((dd (rw_ va j)).length + 1)) (lv' := [(1, .int (nI ((dd (rw_ va j)).length + 1))), (3, .int (nI (hsh (va j) d))), (0, .ref k0), (2, .int (nI j))]) hx hb dX1_findFirsts_54 hl (k := 2) rfl (kInc1 _) (by decide) rfl (fun ls hl => ?_)
        refine lv_aload_n hx hb dX1_findFirsts_57 rfl (lv_at hl 2 rfl) ?_
        refine va_get (D := D) (ci := 1) (v := .ref k5) (C := RX1) (T := TX1) (N := 10) hx hb hts hin hown hK hP 0 rfl rfl 8 (by decide) (hts (.fieldLink RX1 26 "FrameRowModel" "kinds" "[I") (by decide +kernel)) (fun _ h9 => h9) rfl dX1_findFirsts_58 ?_
        refine lv_iload_n hx hb dX1_findFirsts_61 rfl (lv_at hl 1 rfl) ?_
        refine lv_aload_n hx hb dX1_findFirsts_62 rfl (lv_at hl 2 rfl) ?_
        refine va_get (D := D) (ci := 1) (v := .ref k4) (C := RX1) (T := TX1) (N := 10) hx hb hts hin hown hK hP 0 rfl rfl 7 (by decide) (hts (.fieldLink RX1 23 "FrameRowModel" "values" "[I") (by decide +kernel)) (fun _ h9 => h9) rfl dX1_findFirsts_63 ?_
        refine lv_iload_n hx hb dX1_findFirsts_66 rfl (lv_at hl 3 rfl) ?_
        refine kLd hx hb hK hP 4 0 rfl rfl (j := j) (by omega) (by decide) dX1_findFirsts_67 ?_
        refine kSt hx hb hK hP hD hS 5 0 rfl rfl (j := hsh (va j) d) (by omega) (by decide) dX1_findFirsts_68 (fun H locs hP hD hS => ?_)
        have hP : va_P D kC (wM k0 k1 k2 k3 k4 k5 k6 cI th (nI F) ca ow sl gl (nI G.length) va (upd kj (hsh (va j) d) (va j)) rj) H := hP
        have hD : va_D A (wM k0 k1 k2 k3 k4 k5 k6 cI th (nI F) ca ow sl gl (nI G.length) va (upd kj (hsh (va j) d) (va j)) rj) := hD
        refine lv_aload_n hx hb dX1_findFirsts_69 rfl (lv_at hl 2 rfl) ?_
        refine va_get (D := D) (ci := 1) (v := .ref k6) (C := RX1) (T := TX1) (N := 10) hx hb hts hin hown hK hP 0 rfl rfl 9 (by decide) (hts (.fieldLink RX1 29 "FrameRowModel" "ranks" "[I") (by decide +kernel)) (fun _ h9 => h9) rfl dX1_findFirsts_70 ?_
        refine lv_iload_n hx hb dX1_findFirsts_73 rfl (lv_at hl 1 rfl) ?_
        refine lv_iload_n hx hb dX1_findFirsts_74 rfl (lv_at hl 0 rfl) ?_
        refine kSt hx hb hK hP hD hS 6 0 rfl rfl (j := hsh (va j) d) (by omega) (by decide) dX1_findFirsts_75 (fun H locs hP hD hS => ?_)
        have hP : va_P D kC (wM k0 k1 k2 k3 k4 k5 k6 cI th (nI F) ca ow sl gl (nI G.length) va (upd kj (hsh (va j) d) (va j)) (upd rj (hsh (va j) d) (nI ((dd (rw_ va j)).length + 1)))) H := hP
        have hD : va_D A (wM k0 k1 k2 k3 k4 k5 k6 cI th (nI F) ca ow sl gl (nI G.length) va (upd kj (hsh (va j) d) (va j)) (upd rj (hsh (va j) d) (nI ((dd (rw_ va j)).length + 1)))) := hD
        refine lv_iinc (v := nI (j + 1)) (lv' := [(2, .int (nI (j + 1))), (1, .int (nI ((dd (rw_ va j)).length + 1))), (3, .int (nI (hsh (va j) d))), (0, .ref k0)]) hx hb dX1_findFirsts_76 hl (k := 3) rfl (kInc1 _) (by decide) rfl (fun ls hl => ?_)
        refine lv_goto (tgt := 26) hx hb dX1_findFirsts_79 (by decide) ?_
        exact ihj c2 _ _ ls _ _ (by rw [hsm]; exact tab_put hT hv0 hni c3 hpath) hP hD hS (by have h := (lv_sub (l' := [(0, .ref k0), (1, .int (nI ((dd (rw_ va j)).length + 1))), (2, .int (nI (j + 1)))]) hl [3, 1, 0] rfl); rw [hsm, List.length_append]; exact h)
  · skip
    refine lv_aload_n hx hb dX1_findFirsts_11 rfl (lv_at hl 0 rfl) ?_
    refine va_get (D := D) (ci := 1) (v := .ref k5) (C := RX1) (T := TX1) (N := 10) hx hb hts hin hown hK hP 0 rfl rfl 8 (by decide) (hts (.fieldLink RX1 26 "FrameRowModel" "kinds" "[I") (by decide +kernel)) (fun _ h9 => h9) rfl dX1_findFirsts_12 ?_
    refine lv_iload_n hx hb dX1_findFirsts_15 rfl (lv_at hl 2 rfl) ?_
    refine lv_iconst (v := nI 0) hx hb dX1_findFirsts_16 (by decide) ?_
    refine kSt hx hb hK hP hD hS 5 0 rfl rfl (j := i) (by omega) (by decide) dX1_findFirsts_17 (fun H locs hP hD hS => ?_)
    have hP : va_P D kC (wM k0 k1 k2 k3 k4 k5 k6 cI th (nI F) ca ow sl gl (nI G.length) va (upd ((fun t => if t < i then nI 0 else ki t)) i (nI 0)) ra) H := hP
    have hD : va_D A (wM k0 k1 k2 k3 k4 k5 k6 cI th (nI F) ca ow sl gl (nI G.length) va (upd ((fun t => if t < i then nI 0 else ki t)) i (nI 0)) ra) := hD
    rw [fl_put] at hP hD
    refine lv_iinc (v := nI (i + 1)) (lv' := [(2, .int (nI (i + 1))), (0, .ref k0), (1, .int (nI 0))]) hx hb dX1_findFirsts_18 hl (k := 2) rfl (kInc1 _) (by decide) rfl (fun ls hl => ?_)
    refine lv_goto (tgt := 4) hx hb dX1_findFirsts_21 (by decide) ?_
    exact ih c1  ls _ _  hP hD hS (lv_sub (l' := [(0, .ref k0), (1, .int (nI 0)), (2, .int (nI (i + 1)))]) hl [1, 2, 0] rfl)

set_option maxHeartbeats 4000000 in
set_option maxRecDepth 100000 in
theorem pX1_rank (l : Launch) (D : va_G) (k0 k1 k2 k3 k4 k5 k6 : Nat) (cI : ClassId) (th : Int32) (F : Nat) (ca : Int32) (ow sl gl : Nat → Int32) (mn : Int32) (va ki ra : Nat → Int32) (Dd : List Int32) (hT : Tab ki ra Dd) (hDl : Dd.length < 4099) (v : Int32) (hv : 0 < v) (hm : v ∈ Dd) : Mi l yX1_rank wsX1_rank r1 D (tI cI) [.ref k0, .int v] (wM k0 k1 k2 k3 k4 k5 k6 cI th (nI F) ca ow sl gl mn va ki ra) (fun r u => u = wM k0 k1 k2 k3 k4 k5 k6 cI th (nI F) ca ow sl gl mn va ki ra ∧ r = nI (Dd.idxOf v + 1)) := by
  refine Mi.of (cc := cX1_rank) (maxL := 2) (ty := .int) (by decide +kernel) rfl (Nat.le_of_ble_eq_true rfl) ?_
  rintro p e s m below meth c ls A ⟨hx, hb, hr, hml, hts, hown, hlocks, hnm, hP, hK, hD, hA, hS, hl⟩
  have hown : s.vm.findClass RX1 = some m.cls := hown
  have hl : lv_has ls 2 [(0, .ref k0), (1, .int v)] := hl
  have hin : ∀ w ∈ wsX10, w ∈ wsX1_rank := by decide +kernel
  have hP : va_P D kC (wM k0 k1 k2 k3 k4 k5 k6 cI th (nI F) ca ow sl gl mn va ki ra) s.heap := hP
  have hD : va_D A (wM k0 k1 k2 k3 k4 k5 k6 cI th (nI F) ca ow sl gl mn va ki ra) := hD
  obtain ⟨E, hE, hE0⟩ := tab_free hT hDl
  have hv0 : v ≠ 0 := fun h => by rw [h] at hv; exact Int32.lt_irrefl hv
  refine lv_aload_n hx hb dX1_rank_0 rfl (lv_at hl 0 rfl) ?_
  refine va_get (D := D) (ci := 1) (v := .ref k6) (C := RX1) (T := TX1) (N := 10) hx hb hts hin hown hK hP 0 rfl rfl 9 (by decide) (hts (.fieldLink RX1 29 "FrameRowModel" "ranks" "[I") (by decide +kernel)) (fun _ h9 => h9) rfl dX1_rank_1 ?_
  refine lv_aload_n hx hb dX1_rank_4 rfl (lv_at hl 0 rfl) ?_
  refine lv_iload_n hx hb dX1_rank_5 rfl (lv_at hl 1 rfl) ?_
  refine cVi (wr := []) (As := [.int v]) (rest := [.ref k6]) ⟨hx, hb, hml, hown, hts⟩ (pX1_find l D k0 k1 k2 k3 k4 k5 k6 cI th F ca ow sl gl mn va ki ra v hv E hE hE0) (cwV 1 hts gX1_rank_X1_find rfl rfl rfl (by decide +kernel) ⟨(Nat.le_of_ble_eq_true rfl), (Nat.le_of_ble_eq_true rfl)⟩) hK hP hD hS hA [0, 1, 2, 3, 4, 5, 6] [] rfl rfl (by decide) (by decide) (by decide) 0 rfl rfl rfl hl.1 rfl (Nat.le_of_ble_eq_true rfl) dX1_rank_6 ⟨(Nat.le_of_ble_eq_true rfl), (Nat.le_of_ble_eq_true rfl)⟩ (fun r u H locs hw hP hD hS => ?_)
  obtain ⟨rfl, d, hd, rfl, hf, hpath⟩ := hw
  have hP : va_P D kC (wM k0 k1 k2 k3 k4 k5 k6 cI th (nI F) ca ow sl gl mn va ki ra) H := hP
  have hD : va_D A (wM k0 k1 k2 k3 k4 k5 k6 cI th (nI F) ca ow sl gl mn va ki ra) := hD
  have hlt := hsh_lt v d
  refine kLd hx hb hK hP 6 0 rfl rfl (j := hsh v d) (by omega) (by decide) dX1_rank_9 ?_
  exact (kReti hx hb hr hlocks dX1_rank_10 (Nat.le_of_ble_eq_true rfl) (Nat.le_of_ble_eq_true rfl) hK hS hP hD ⟨rfl, (tab_in hT hv0 hm hf hpath).2⟩)
