set_option maxHeartbeats 4000000 in
set_option maxRecDepth 100000 in
theorem law_holds {p : Program} {l : Launch} {e : Env} {s : State} {m : MethodId} {below : List Frame} {meth : Method} {c : Code} {D : va_G} {b Ls : Nat} {xs : Nat → Int32} (hL : Ls ≤ 2048) (C0 : lw_At p s m meth c b Ls xs) (htr : l.stackTraces = false) {cI cL : ClassId} (hK : va_K D kC (tIL cI cL) s) (hZ : kZ (fun q : Nat => s.heap.size ≤ q) s s.heap) {h0 h1 h2 k0 k1 k2 k3 k4 k5 k6 o : Nat} {f g : Nat → Int32} {L : Nat} {ca : Int32} {ow sl gl : Nat → Int32} {F : Nat} {th mn : Int32} {va ki ra : Nat → Int32} {v : Nat → Int64} {j : Nat} (hj : 4 * j + 4 ≤ Ls) (hRel : Rel f g L ow sl gl F) {H : Heap} {locs : List Loc} {ls : Array Slot} (hP : va_P D kC (wL h0 h1 h2 k0 k1 k2 k3 k4 k5 k6 o cI cL f g L ca ca ow sl gl F th mn va ki ra v) H) (hD : va_D (fun q : Nat => s.heap.size ≤ q) (wL h0 h1 h2 k0 k1 k2 k3 k4 k5 k6 o cI cL f g L ca ca ow sl gl F th mn va ki ra v)) (hS : va_S (fun q : Nat => s.heap.size ≤ q) s.heap H locs) (hl : lv_has ls 7 [(0, .ref b), (1, .ref h0), (2, .ref k0), (3, .ref o), (4, .int (nI (4 * j)))]) {cs ss : Nat} (hcs : cs + 4 ≤ 601024) (hss : ss + 24 ≤ 7293033)
    (kk : ∀ (f g : Nat → Int32) (L : Nat) (ca : Int32) (ow sl gl : Nat → Int32) (F : Nat) (th mn : Int32) (va ki ra : Nat → Int32) (v : Nat → Int64) (H : Heap) (locs : List Loc) (ls : Array Slot), Rel f g L ow sl gl F → va_P D kC (wL h0 h1 h2 k0 k1 k2 k3 k4 k5 k6 o cI cL f g L ca ca ow sl gl F th mn va ki ra v) H → va_D (fun q : Nat => s.heap.size ≤ q) (wL h0 h1 h2 k0 k1 k2 k3 k4 k5 k6 o cI cL f g L ca ca ow sl gl F th mn va ki ra v) → va_S (fun q : Nat => s.heap.size ≤ q) s.heap H locs → lv_has ls 7 [(0, .ref b), (1, .ref h0), (2, .ref k0), (3, .ref o), (4, .int (nI (4 * j)))] → W p l e room_1 s m #[Value.ref b] below meth c H locs (cs + 4) (ss + 24) (lw_Z below #[Value.ref b] s) (F0 m 765 ls [])) : W p l e room_1 s m #[Value.ref b] below meth c H locs cs ss (lw_Z below #[Value.ref b] s) (F0 m 516 ls []) := by
  obtain ⟨hx, hb0, hr, hml, hown0, hts0, hX, hbl, hlocks, hgv⟩ := C0
  have hb : c.code = cL_law := hb0
  have hown : s.vm.findClass RL = some m.cls := hown0
  have hts : ∀ w ∈ wsL_law, w.before #[Value.ref b] s = true := fun w h => hts0 w (wsL_law_in w h)
  have hA : ∀ q : Nat, s.heap.size ≤ q → (fun q : Nat => s.heap.size ≤ q) q := fun _ h => h
  have hbA : ¬ (fun q : Nat => s.heap.size ≤ q) b := Nat.not_le.mpr hbl
  have hKI : va_K D kC (tI cI) s := hK.sub [0] rfl
  have hF := hRel.hF
  have hL2 := hRel.hL2
  obtain ⟨x1, hx1⟩ : ∃ z, z = xs (4 * j + 1) := ⟨_, rfl⟩
  refine lv_aload_n hx hb dL_law_516 rfl (lv_at hl 1 rfl) ?_
  refine lv_aload_n hx hb dL_law_517 rfl (lv_at hl 0 rfl) ?_
  refine lv_iload hx hb dL_law_518 (lv_at hl 4 rfl) ?_
  refine lv_iconst (v := nI 1) hx hb dL_law_520 (by decide) ?_
  refine kAdd hx hb dL_law_521 ?_
  refine va_sld hx hb hX hbl hbA hS (vp_in_nI (n := 4 * j + 1) (by omega) (by omega)) dL_law_522 ?_
  refine kTop (v' := x1) (by rw [nI_clamp (by omega)]; exact hx1.symm) ?_
  refine lv_aload_n hx hb dL_law_523 rfl (lv_at hl 3 rfl) ?_
  refine tSi (wr := (wM k0 k1 k2 k3 k4 k5 k6 cI th (nI F) ca ow sl gl mn va ki ra)) (As := [.ref h0, .int x1, .ref o]) (rest := []) ⟨hx, hb, hml, hown, hts⟩ (pL_holds l htr D h0 h1 h2 o cI cL f g L ca v hL2 x1) (vx_cwSW 3 hts gL_law_L_holds rfl rfl rfl (by decide +kernel) ⟨(Nat.le_of_ble_eq_true rfl), (Nat.le_of_ble_eq_true rfl)⟩) hK hP hD hS hA hZ [0, 1, 2, 10] [3, 4, 5, 6, 7, 8, 9] rfl rfl (by decide) (by decide) (by decide) rfl hl.1 rfl (Nat.le_of_ble_eq_true rfl) dL_law_524 ⟨hcs, hss⟩ (fun r u H locs hw hP hD hS => ?_)
  skip
  rcases hw with ⟨r9, u9, hp, rfl, rfl⟩ | ⟨u9, hp, rfl, rfl⟩
  · skip
    obtain ⟨rfl, hz, rfl⟩ := hp
    have hP := hP.sub (ws' := wL h0 h1 h2 k0 k1 k2 k3 k4 k5 k6 o cI cL f g L ca ca ow sl gl F th mn va ki ra (vp_updL v 0 (nI ((rw_ f L).count x1)).toInt64)) [8, 9, 10, 0, 1, 2, 3, 4, 5, 6, 7] rfl
    have hD := hD.sub (ws' := wL h0 h1 h2 k0 k1 k2 k3 k4 k5 k6 o cI cL f g L ca ca ow sl gl F th mn va ki ra (vp_updL v 0 (nI ((rw_ f L).count x1)).toInt64)) [8, 9, 10, 0, 1, 2, 3, 4, 5, 6, 7] (by decide) rfl
    refine lv_istore (lv' := [(5, .int (nI 0)), (0, .ref b), (1, .ref h0), (2, .ref k0), (3, .ref o), (4, .int (nI (4 * j)))]) hx hb dL_law_527 hl (by decide) rfl (fun ls hl => ?_)
    refine lv_aload_n hx hb dL_law_529 rfl (lv_at hl 3 rfl) ?_
    refine lv_aload_n hx hb dL_law_530 rfl (lv_at hl 1 rfl) ?_
    refine lv_iload hx hb dL_law_531 (lv_at hl 5 rfl) ?_
    refine lv_iconst (v := nI 1) hx hb dL_law_533 (by decide) ?_
    refine kAdd hx hb dL_law_534 ?_
    refine va_sld hx hb hX hbl hbA hS (vp_in_nI (n := 4 * j + 1) (by omega) (by omega)) dL_law_535 ?_
    refine kTop (v' := x1) (by rw [nI_clamp (by omega)]; exact hx1.symm) ?_
    refine cVi (wr := (wX h0 h1 h2 cI f g (nI L) ca ++ [(o, .inl (cL, 1, .inr (.inl (vp_updL v 0 (nI ((rw_ f L).count x1)).toInt64))))])) (As := [.int x1]) (rest := []) ⟨hx, hb, hml, hown, hts⟩ (pX1_holds l D k0 k1 k2 k3 k4 k5 k6 cI th F ca ow sl gl mn va ki ra hF x1) (cwV 1 hts gL_law_X1_holds rfl rfl rfl (by decide +kernel) ⟨(Nat.le_of_ble_eq_true rfl), (Nat.le_of_ble_eq_true rfl)⟩) hKI hP hD hS hA [3, 4, 5, 6, 7, 8, 9] [0, 1, 2, 10] rfl rfl (by decide) (by decide) (by decide) 0 rfl rfl rfl hl.1 rfl (Nat.le_of_ble_eq_true rfl) dL_law_536 ⟨hcs, hss⟩ (fun rb u H locs hw hP hD hS => ?_)
    skip
    obtain ⟨mn', va', ki', ra', ⟨-, rfl, rfl⟩ | ⟨h9, -⟩⟩ := hw
    · skip
      have hP := hP.sub (ws' := wL h0 h1 h2 k0 k1 k2 k3 k4 k5 k6 o cI cL f g L ca ca ow sl gl F (nI 0) mn' va' ki' ra' (vp_updL v 0 (nI ((rw_ f L).count x1)).toInt64)) [0, 1, 2, 4, 5, 6, 7, 8, 9, 10, 3] rfl
      have hD := hD.sub (ws' := wL h0 h1 h2 k0 k1 k2 k3 k4 k5 k6 o cI cL f g L ca ca ow sl gl F (nI 0) mn' va' ki' ra' (vp_updL v 0 (nI ((rw_ f L).count x1)).toInt64)) [0, 1, 2, 4, 5, 6, 7, 8, 9, 10, 3] (by decide) rfl
      refine lv_istore (lv' := [(6, .int (nI (if x1 = 0 then 8 * F + 16 - (ps (rowL ow sl gl F)).length else (ps (rowL ow sl gl F)).count x1))), (5, .int (nI 0)), (0, .ref b), (1, .ref h0), (2, .ref k0), (3, .ref o), (4, .int (nI (4 * j)))]) hx hb dL_law_539 hl (by decide) rfl (fun ls hl => ?_)
      refine lv_aload_n hx hb dL_law_541 rfl (lv_at hl 4 rfl) ?_
      refine cVi (wr := (wX h0 h1 h2 cI f g (nI L) ca ++ [(o, .inl (cL, 1, .inr (.inl (vp_updL v 0 (nI ((rw_ f L).count x1)).toInt64))))])) (As := []) (rest := []) ⟨hx, hb, hml, hown, hts⟩ (pX1_thrown l D k0 k1 k2 k3 k4 k5 k6 cI (nI 0) F ca ow sl gl mn' va' ki' ra') (cwV 0 hts gL_law_X1_thrown rfl rfl rfl (by decide +kernel) ⟨(Nat.le_of_ble_eq_true rfl), (Nat.le_of_ble_eq_true rfl)⟩) hKI hP hD hS hA [3, 4, 5, 6, 7, 8, 9] [0, 1, 2, 10] rfl rfl (by decide) (by decide) (by decide) 0 rfl rfl rfl hl.1 rfl (Nat.le_of_ble_eq_true rfl) dL_law_542 ⟨hcs, hss⟩ (fun r u H locs hw hP hD hS => ?_)
      obtain ⟨rfl, rfl⟩ := hw
      have hP := hP.sub (ws' := wL h0 h1 h2 k0 k1 k2 k3 k4 k5 k6 o cI cL f g L ca ca ow sl gl F (nI 0) mn' va' ki' ra' (vp_updL v 0 (nI ((rw_ f L).count x1)).toInt64)) [0, 1, 2, 4, 5, 6, 7, 8, 9, 10, 3] rfl
      have hD := hD.sub (ws' := wL h0 h1 h2 k0 k1 k2 k3 k4 k5 k6 o cI cL f g L ca ca ow sl gl F (nI 0) mn' va' ki' ra' (vp_updL v 0 (nI ((rw_ f L).count x1)).toInt64)) [0, 1, 2, 4, 5, 6, 7, 8, 9, 10, 3] (by decide) rfl
      refine lv_iload hx hb dL_law_545 (lv_at hl 1 rfl) ?_
      refine lv_icmp_eq (tgt := 552) hx hb dL_law_547 (by decide) (fun c7 => ?_) (fun c7 => ?_)
      · skip
        refine lv_iload hx hb dL_law_552 (lv_at hl 1 rfl) ?_
        refine kNe0 (a := 0) (by omega) (tgt := 569) hx hb dL_law_554 (by decide) (fun c8 => ?_) (fun c8 => ?_)
        · skip
          exact absurd c8 (by decide)
        · skip
          refine lv_aload_n hx hb dL_law_557 rfl (lv_at hl 5 rfl) ?_
          refine lv_iconst (v := nI 0) hx hb dL_law_558 (by decide) ?_
          refine va_lald hx hb hK hP 10 1 rfl rfl (vp_in_nI (n := 0) (by decide) (by decide)) dL_law_559 ?_
          refine lv_iload hx hb dL_law_560 (lv_at hl 0 rfl) ?_
          refine lv_i2l hx hb dL_law_562 rfl ?_
          refine W.lcmp hx hb dL_law_563 ?_
          refine kTop (v' := nI 0) (lg_eq (pk_uLs.trans (congrArg Int32.toInt64 hRel.holds))) ?_
          refine kEq0 (a := 0) (by omega) (tgt := 569) hx hb dL_law_564 (by decide) (fun c9 => ?_) (fun c9 => ?_)
          · skip
            refine lv_goto (tgt := 765) hx hb dL_law_569 (by decide) ?_
            exact kk f g L ca ow sl gl F (nI 0) mn' va' ki' ra' (vp_updL v 0 (nI ((rw_ f L).count x1)).toInt64) _ _ _ hRel hP hD hS (lv_sub (l' := [(0, .ref b), (1, .ref h0), (2, .ref k0), (3, .ref o), (4, .int (nI (4 * j)))]) hl [2, 3, 4, 5, 6] rfl)
          · skip
            exact absurd c9 (by decide)
      · skip
        exact absurd rfl c7
    · skip
      exact absurd hz h9
  · skip
    obtain ⟨rfl, -, hp⟩ := hp
    have hP := hP.sub (ws' := wL h0 h1 h2 k0 k1 k2 k3 k4 k5 k6 o cI cL f g L ca ca ow sl gl F th mn va ki ra v) [8, 9, 10, 0, 1, 2, 3, 4, 5, 6, 7] rfl
    have hD := hD.sub (ws' := wL h0 h1 h2 k0 k1 k2 k3 k4 k5 k6 o cI cL f g L ca ca ow sl gl F th mn va ki ra v) [8, 9, 10, 0, 1, 2, 3, 4, 5, 6, 7] (by decide) rfl
    refine lv_istore (lv' := [(5, .int (nI 1)), (0, .ref b), (1, .ref h0), (2, .ref k0), (3, .ref o), (4, .int (nI (4 * j)))]) hx hb dL_law_527 hl (by decide) rfl (fun ls hl => ?_)
    refine lv_aload_n hx hb dL_law_529 rfl (lv_at hl 3 rfl) ?_
    refine lv_aload_n hx hb dL_law_530 rfl (lv_at hl 1 rfl) ?_
    refine lv_iload hx hb dL_law_531 (lv_at hl 5 rfl) ?_
    refine lv_iconst (v := nI 1) hx hb dL_law_533 (by decide) ?_
    refine kAdd hx hb dL_law_534 ?_
    refine va_sld hx hb hX hbl hbA hS (vp_in_nI (n := 4 * j + 1) (by omega) (by omega)) dL_law_535 ?_
    refine kTop (v' := x1) (by rw [nI_clamp (by omega)]; exact hx1.symm) ?_
    refine cVi (wr := (wX h0 h1 h2 cI f g (nI L) ca ++ [(o, .inl (cL, 1, .inr (.inl v)))])) (As := [.int x1]) (rest := []) ⟨hx, hb, hml, hown, hts⟩ (pX1_holds l D k0 k1 k2 k3 k4 k5 k6 cI th F ca ow sl gl mn va ki ra hF x1) (cwV 1 hts gL_law_X1_holds rfl rfl rfl (by decide +kernel) ⟨(Nat.le_of_ble_eq_true rfl), (Nat.le_of_ble_eq_true rfl)⟩) hKI hP hD hS hA [3, 4, 5, 6, 7, 8, 9] [0, 1, 2, 10] rfl rfl (by decide) (by decide) (by decide) 0 rfl rfl rfl hl.1 rfl (Nat.le_of_ble_eq_true rfl) dL_law_536 ⟨hcs, hss⟩ (fun rb u H locs hw hP hD hS => ?_)
    skip
    obtain ⟨mn', va', ki', ra', ⟨h9, -⟩ | ⟨-, rfl⟩⟩ := hw
    · skip
      exact absurd h9 hp
    · skip
      have hP := hP.sub (ws' := wL h0 h1 h2 k0 k1 k2 k3 k4 k5 k6 o cI cL f g L ca ca ow sl gl F (nI 1) mn' va' ki' ra' v) [0, 1, 2, 4, 5, 6, 7, 8, 9, 10, 3] rfl
      have hD := hD.sub (ws' := wL h0 h1 h2 k0 k1 k2 k3 k4 k5 k6 o cI cL f g L ca ca ow sl gl F (nI 1) mn' va' ki' ra' v) [0, 1, 2, 4, 5, 6, 7, 8, 9, 10, 3] (by decide) rfl
      refine lv_istore (lv' := [(6, .int rb), (5, .int (nI 1)), (0, .ref b), (1, .ref h0), (2, .ref k0), (3, .ref o), (4, .int (nI (4 * j)))]) hx hb dL_law_539 hl (by decide) rfl (fun ls hl => ?_)
      refine lv_aload_n hx hb dL_law_541 rfl (lv_at hl 4 rfl) ?_
      refine cVi (wr := (wX h0 h1 h2 cI f g (nI L) ca ++ [(o, .inl (cL, 1, .inr (.inl v)))])) (As := []) (rest := []) ⟨hx, hb, hml, hown, hts⟩ (pX1_thrown l D k0 k1 k2 k3 k4 k5 k6 cI (nI 1) F ca ow sl gl mn' va' ki' ra') (cwV 0 hts gL_law_X1_thrown rfl rfl rfl (by decide +kernel) ⟨(Nat.le_of_ble_eq_true rfl), (Nat.le_of_ble_eq_true rfl)⟩) hKI hP hD hS hA [3, 4, 5, 6, 7, 8, 9] [0, 1, 2, 10] rfl rfl (by decide) (by decide) (by decide) 0 rfl rfl rfl hl.1 rfl (Nat.le_of_ble_eq_true rfl) dL_law_542 ⟨hcs, hss⟩ (fun r u H locs hw hP hD hS => ?_)
      obtain ⟨rfl, rfl⟩ := hw
      have hP := hP.sub (ws' := wL h0 h1 h2 k0 k1 k2 k3 k4 k5 k6 o cI cL f g L ca ca ow sl gl F (nI 1) mn' va' ki' ra' v) [0, 1, 2, 4, 5, 6, 7, 8, 9, 10, 3] rfl
      have hD := hD.sub (ws' := wL h0 h1 h2 k0 k1 k2 k3 k4 k5 k6 o cI cL f g L ca ca ow sl gl F (nI 1) mn' va' ki' ra' v) [0, 1, 2, 4, 5, 6, 7, 8, 9, 10, 3] (by decide) rfl
      refine lv_iload hx hb dL_law_545 (lv_at hl 1 rfl) ?_
      refine lv_icmp_eq (tgt := 552) hx hb dL_law_547 (by decide) (fun c7 => ?_) (fun c7 => ?_)
      · skip
        refine lv_iload hx hb dL_law_552 (lv_at hl 1 rfl) ?_
        refine kNe0 (a := 1) (by omega) (tgt := 569) hx hb dL_law_554 (by decide) (fun c8 => ?_) (fun c8 => ?_)
        · skip
          refine lv_goto (tgt := 765) hx hb dL_law_569 (by decide) ?_
          exact kk f g L ca ow sl gl F (nI 1) mn' va' ki' ra' v _ _ _ hRel hP hD hS (lv_sub (l' := [(0, .ref b), (1, .ref h0), (2, .ref k0), (3, .ref o), (4, .int (nI (4 * j)))]) hl [2, 3, 4, 5, 6] rfl)
        · skip
          exact absurd c8 (by decide)
      · skip
        exact absurd rfl c7

set_option maxHeartbeats 4000000 in
set_option maxRecDepth 100000 in
theorem law_root {p : Program} {l : Launch} {e : Env} {s : State} {m : MethodId} {below : List Frame} {meth : Method} {c : Code} {D : va_G} {b Ls : Nat} {xs : Nat → Int32} (hL : Ls ≤ 2048) (C0 : lw_At p s m meth c b Ls xs) (htr : l.stackTraces = false) {cI cL : ClassId} (hK : va_K D kC (tIL cI cL) s) (hZ : kZ (fun q : Nat => s.heap.size ≤ q) s s.heap) {h0 h1 h2 k0 k1 k2 k3 k4 k5 k6 o : Nat} {f g : Nat → Int32} {L : Nat} {ca : Int32} {ow sl gl : Nat → Int32} {F : Nat} {th mn : Int32} {va ki ra : Nat → Int32} {v : Nat → Int64} {j : Nat} (hj : 4 * j + 4 ≤ Ls) (hRel : Rel f g L ow sl gl F) {H : Heap} {locs : List Loc} {ls : Array Slot} (hP : va_P D kC (wL h0 h1 h2 k0 k1 k2 k3 k4 k5 k6 o cI cL f g L ca ca ow sl gl F th mn va ki ra v) H) (hD : va_D (fun q : Nat => s.heap.size ≤ q) (wL h0 h1 h2 k0 k1 k2 k3 k4 k5 k6 o cI cL f g L ca ca ow sl gl F th mn va ki ra v)) (hS : va_S (fun q : Nat => s.heap.size ≤ q) s.heap H locs) (hl : lv_has ls 7 [(0, .ref b), (1, .ref h0), (2, .ref k0), (3, .ref o), (4, .int (nI (4 * j)))]) {cs ss : Nat} (hcs : cs + 4 ≤ 601024) (hss : ss + 24 ≤ 7293033)
    (kk : ∀ (f g : Nat → Int32) (L : Nat) (ca : Int32) (ow sl gl : Nat → Int32) (F : Nat) (th mn : Int32) (va ki ra : Nat → Int32) (v : Nat → Int64) (H : Heap) (locs : List Loc) (ls : Array Slot), Rel f g L ow sl gl F → va_P D kC (wL h0 h1 h2 k0 k1 k2 k3 k4 k5 k6 o cI cL f g L ca ca ow sl gl F th mn va ki ra v) H → va_D (fun q : Nat => s.heap.size ≤ q) (wL h0 h1 h2 k0 k1 k2 k3 k4 k5 k6 o cI cL f g L ca ca ow sl gl F th mn va ki ra v) → va_S (fun q : Nat => s.heap.size ≤ q) s.heap H locs → lv_has ls 7 [(0, .ref b), (1, .ref h0), (2, .ref k0), (3, .ref o), (4, .int (nI (4 * j)))] → W p l e room_1 s m #[Value.ref b] below meth c H locs (cs + 4) (ss + 24) (lw_Z below #[Value.ref b] s) (F0 m 765 ls [])) : W p l e room_1 s m #[Value.ref b] below meth c H locs cs ss (lw_Z below #[Value.ref b] s) (F0 m 572 ls []) := by
  obtain ⟨hx, hb0, hr, hml, hown0, hts0, hX, hbl, hlocks, hgv⟩ := C0
  have hb : c.code = cL_law := hb0
  have hown : s.vm.findClass RL = some m.cls := hown0
  have hts : ∀ w ∈ wsL_law, w.before #[Value.ref b] s = true := fun w h => hts0 w (wsL_law_in w h)
  have hA : ∀ q : Nat, s.heap.size ≤ q → (fun q : Nat => s.heap.size ≤ q) q := fun _ h => h
  have hbA : ¬ (fun q : Nat => s.heap.size ≤ q) b := Nat.not_le.mpr hbl
  have hKI : va_K D kC (tI cI) s := hK.sub [0] rfl
  have hF := hRel.hF
  have hL2 := hRel.hL2
  obtain ⟨x1, hx1⟩ : ∃ z, z = xs (4 * j + 1) := ⟨_, rfl⟩
  refine lv_aload_n hx hb dL_law_572 rfl (lv_at hl 1 rfl) ?_
  refine lv_aload_n hx hb dL_law_573 rfl (lv_at hl 0 rfl) ?_
  refine lv_iload hx hb dL_law_574 (lv_at hl 4 rfl) ?_
  refine lv_iconst (v := nI 1) hx hb dL_law_576 (by decide) ?_
  refine kAdd hx hb dL_law_577 ?_
  refine va_sld hx hb hX hbl hbA hS (vp_in_nI (n := 4 * j + 1) (by omega) (by omega)) dL_law_578 ?_
  refine kTop (v' := x1) (by rw [nI_clamp (by omega)]; exact hx1.symm) ?_
  refine lv_aload_n hx hb dL_law_579 rfl (lv_at hl 3 rfl) ?_
  refine tSi (wr := (wM k0 k1 k2 k3 k4 k5 k6 cI th (nI F) ca ow sl gl mn va ki ra)) (As := [.ref h0, .int x1, .ref o]) (rest := []) ⟨hx, hb, hml, hown, hts⟩ (pL_root l htr D h0 h1 h2 o cI cL f g L ca v hL2 x1) (vx_cwSW 3 hts gL_law_L_root rfl rfl rfl (by decide +kernel) ⟨(Nat.le_of_ble_eq_true rfl), (Nat.le_of_ble_eq_true rfl)⟩) hK hP hD hS hA hZ [0, 1, 2, 10] [3, 4, 5, 6, 7, 8, 9] rfl rfl (by decide) (by decide) (by decide) rfl hl.1 rfl (Nat.le_of_ble_eq_true rfl) dL_law_580 ⟨hcs, hss⟩ (fun r u H locs hw hP hD hS => ?_)
  skip
  rcases hw with ⟨r9, u9, hp, rfl, rfl⟩ | ⟨u9, hp, rfl, rfl⟩
  · skip
    obtain ⟨rfl, k, hk, rfl, rfl⟩ := hp
    have hP := hP.sub (ws' := wL h0 h1 h2 k0 k1 k2 k3 k4 k5 k6 o cI cL f g L ca ca ow sl gl F th mn va ki ra (vp_updL v 0 ((nz (rw_ f L)).getD k 0).toInt64)) [8, 9, 10, 0, 1, 2, 3, 4, 5, 6, 7] rfl
    have hD := hD.sub (ws' := wL h0 h1 h2 k0 k1 k2 k3 k4 k5 k6 o cI cL f g L ca ca ow sl gl F th mn va ki ra (vp_updL v 0 ((nz (rw_ f L)).getD k 0).toInt64)) [8, 9, 10, 0, 1, 2, 3, 4, 5, 6, 7] (by decide) rfl
    refine lv_istore (lv' := [(5, .int (nI 0)), (0, .ref b), (1, .ref h0), (2, .ref k0), (3, .ref o), (4, .int (nI (4 * j)))]) hx hb dL_law_583 hl (by decide) rfl (fun ls hl => ?_)
    refine lv_aload_n hx hb dL_law_585 rfl (lv_at hl 3 rfl) ?_
    refine lv_aload_n hx hb dL_law_586 rfl (lv_at hl 1 rfl) ?_
    refine lv_iload hx hb dL_law_587 (lv_at hl 5 rfl) ?_
    refine lv_iconst (v := nI 1) hx hb dL_law_589 (by decide) ?_
    refine kAdd hx hb dL_law_590 ?_
    refine va_sld hx hb hX hbl hbA hS (vp_in_nI (n := 4 * j + 1) (by omega) (by omega)) dL_law_591 ?_
    refine kTop (v' := nI k) (by rw [nI_clamp (by omega)]; exact hx1.symm) ?_
    refine cVi (wr := (wX h0 h1 h2 cI f g (nI L) ca ++ [(o, .inl (cL, 1, .inr (.inl (vp_updL v 0 ((nz (rw_ f L)).getD k 0).toInt64))))])) (As := [.int (nI k)]) (rest := []) ⟨hx, hb, hml, hown, hts⟩ (pX1_root l D k0 k1 k2 k3 k4 k5 k6 cI th F ca ow sl gl mn va ki ra hF (nI k)) (cwV 1 hts gL_law_X1_root rfl rfl rfl (by decide +kernel) ⟨(Nat.le_of_ble_eq_true rfl), (Nat.le_of_ble_eq_true rfl)⟩) hKI hP hD hS hA [3, 4, 5, 6, 7, 8, 9] [0, 1, 2, 10] rfl rfl (by decide) (by decide) (by decide) 0 rfl rfl rfl hl.1 rfl (Nat.le_of_ble_eq_true rfl) dL_law_592 ⟨hcs, hss⟩ (fun rb u H locs hw hP hD hS => ?_)
    skip
    obtain ⟨mn', va', ki', ra', ⟨-, rfl, k8, hk8, e8, rfl⟩ | ⟨h9, -⟩⟩ := hw
    · skip
      have ek : k = k8 := (nI_eq (by omega) (by omega)).mp e8
      subst ek
      have hP := hP.sub (ws' := wL h0 h1 h2 k0 k1 k2 k3 k4 k5 k6 o cI cL f g L ca ca ow sl gl F (nI 0) mn' va' ki' ra' (vp_updL v 0 ((nz (rw_ f L)).getD k 0).toInt64)) [0, 1, 2, 4, 5, 6, 7, 8, 9, 10, 3] rfl
      have hD := hD.sub (ws' := wL h0 h1 h2 k0 k1 k2 k3 k4 k5 k6 o cI cL f g L ca ca ow sl gl F (nI 0) mn' va' ki' ra' (vp_updL v 0 ((nz (rw_ f L)).getD k 0).toInt64)) [0, 1, 2, 4, 5, 6, 7, 8, 9, 10, 3] (by decide) rfl
      refine lv_istore (lv' := [(6, .int ((ps (rowL ow sl gl F)).getD k 0)), (5, .int (nI 0)), (0, .ref b), (1, .ref h0), (2, .ref k0), (3, .ref o), (4, .int (nI (4 * j)))]) hx hb dL_law_595 hl (by decide) rfl (fun ls hl => ?_)
      refine lv_aload_n hx hb dL_law_597 rfl (lv_at hl 4 rfl) ?_
      refine cVi (wr := (wX h0 h1 h2 cI f g (nI L) ca ++ [(o, .inl (cL, 1, .inr (.inl (vp_updL v 0 ((nz (rw_ f L)).getD k 0).toInt64))))])) (As := []) (rest := []) ⟨hx, hb, hml, hown, hts⟩ (pX1_thrown l D k0 k1 k2 k3 k4 k5 k6 cI (nI 0) F ca ow sl gl mn' va' ki' ra') (cwV 0 hts gL_law_X1_thrown rfl rfl rfl (by decide +kernel) ⟨(Nat.le_of_ble_eq_true rfl), (Nat.le_of_ble_eq_true rfl)⟩) hKI hP hD hS hA [3, 4, 5, 6, 7, 8, 9] [0, 1, 2, 10] rfl rfl (by decide) (by decide) (by decide) 0 rfl rfl rfl hl.1 rfl (Nat.le_of_ble_eq_true rfl) dL_law_598 ⟨hcs, hss⟩ (fun r u H locs hw hP hD hS => ?_)
      obtain ⟨rfl, rfl⟩ := hw
      have hP := hP.sub (ws' := wL h0 h1 h2 k0 k1 k2 k3 k4 k5 k6 o cI cL f g L ca ca ow sl gl F (nI 0) mn' va' ki' ra' (vp_updL v 0 ((nz (rw_ f L)).getD k 0).toInt64)) [0, 1, 2, 4, 5, 6, 7, 8, 9, 10, 3] rfl
      have hD := hD.sub (ws' := wL h0 h1 h2 k0 k1 k2 k3 k4 k5 k6 o cI cL f g L ca ca ow sl gl F (nI 0) mn' va' ki' ra' (vp_updL v 0 ((nz (rw_ f L)).getD k 0).toInt64)) [0, 1, 2, 4, 5, 6, 7, 8, 9, 10, 3] (by decide) rfl
      refine lv_iload hx hb dL_law_601 (lv_at hl 1 rfl) ?_
      refine lv_icmp_eq (tgt := 608) hx hb dL_law_603 (by decide) (fun c7 => ?_) (fun c7 => ?_)
      · skip
        refine lv_iload hx hb dL_law_608 (lv_at hl 1 rfl) ?_
        refine kNe0 (a := 0) (by omega) (tgt := 625) hx hb dL_law_610 (by decide) (fun c8 => ?_) (fun c8 => ?_)
        · skip
          exact absurd c8 (by decide)
        · skip
          refine lv_aload_n hx hb dL_law_613 rfl (lv_at hl 5 rfl) ?_
          refine lv_iconst (v := nI 0) hx hb dL_law_614 (by decide) ?_
          refine va_lald hx hb hK hP 10 1 rfl rfl (vp_in_nI (n := 0) (by decide) (by decide)) dL_law_615 ?_
          refine lv_iload hx hb dL_law_616 (lv_at hl 0 rfl) ?_
          refine lv_i2l hx hb dL_law_618 rfl ?_
          refine W.lcmp hx hb dL_law_619 ?_
          refine kTop (v' := nI 0) (lg_eq (pk_uLs.trans (congrArg Int32.toInt64 (by rw [hRel.eps])))) ?_
          refine kEq0 (a := 0) (by omega) (tgt := 625) hx hb dL_law_620 (by decide) (fun c9 => ?_) (fun c9 => ?_)
          · skip
            refine lv_goto (tgt := 765) hx hb dL_law_625 (by decide) ?_
            exact kk f g L ca ow sl gl F (nI 0) mn' va' ki' ra' (vp_updL v 0 ((nz (rw_ f L)).getD k 0).toInt64) _ _ _ hRel hP hD hS (lv_sub (l' := [(0, .ref b), (1, .ref h0), (2, .ref k0), (3, .ref o), (4, .int (nI (4 * j)))]) hl [2, 3, 4, 5, 6] rfl)
          · skip
            exact absurd c9 (by decide)
      · skip
        exact absurd rfl c7
    · skip
      exact absurd h9 (nI_pos hk)
  · skip
    obtain ⟨rfl, -, hp⟩ := hp
    have hP := hP.sub (ws' := wL h0 h1 h2 k0 k1 k2 k3 k4 k5 k6 o cI cL f g L ca ca ow sl gl F th mn va ki ra v) [8, 9, 10, 0, 1, 2, 3, 4, 5, 6, 7] rfl
    have hD := hD.sub (ws' := wL h0 h1 h2 k0 k1 k2 k3 k4 k5 k6 o cI cL f g L ca ca ow sl gl F th mn va ki ra v) [8, 9, 10, 0, 1, 2, 3, 4, 5, 6, 7] (by decide) rfl
    refine lv_istore (lv' := [(5, .int (nI 1)), (0, .ref b), (1, .ref h0), (2, .ref k0), (3, .ref o), (4, .int (nI (4 * j)))]) hx hb dL_law_583 hl (by decide) rfl (fun ls hl => ?_)
    refine lv_aload_n hx hb dL_law_585 rfl (lv_at hl 3 rfl) ?_
    refine lv_aload_n hx hb dL_law_586 rfl (lv_at hl 1 rfl) ?_
    refine lv_iload hx hb dL_law_587 (lv_at hl 5 rfl) ?_
    refine lv_iconst (v := nI 1) hx hb dL_law_589 (by decide) ?_
    refine kAdd hx hb dL_law_590 ?_
    refine va_sld hx hb hX hbl hbA hS (vp_in_nI (n := 4 * j + 1) (by omega) (by omega)) dL_law_591 ?_
    refine kTop (v' := x1) (by rw [nI_clamp (by omega)]; exact hx1.symm) ?_
    refine cVi (wr := (wX h0 h1 h2 cI f g (nI L) ca ++ [(o, .inl (cL, 1, .inr (.inl v)))])) (As := [.int x1]) (rest := []) ⟨hx, hb, hml, hown, hts⟩ (pX1_root l D k0 k1 k2 k3 k4 k5 k6 cI th F ca ow sl gl mn va ki ra hF x1) (cwV 1 hts gL_law_X1_root rfl rfl rfl (by decide +kernel) ⟨(Nat.le_of_ble_eq_true rfl), (Nat.le_of_ble_eq_true rfl)⟩) hKI hP hD hS hA [3, 4, 5, 6, 7, 8, 9] [0, 1, 2, 10] rfl rfl (by decide) (by decide) (by decide) 0 rfl rfl rfl hl.1 rfl (Nat.le_of_ble_eq_true rfl) dL_law_592 ⟨hcs, hss⟩ (fun rb u H locs hw hP hD hS => ?_)
    skip
    obtain ⟨mn', va', ki', ra', ⟨h9, -⟩ | ⟨-, rfl⟩⟩ := hw
    · skip
      exact absurd hp h9
    · skip
      have hP := hP.sub (ws' := wL h0 h1 h2 k0 k1 k2 k3 k4 k5 k6 o cI cL f g L ca ca ow sl gl F (nI 1) mn' va' ki' ra' v) [0, 1, 2, 4, 5, 6, 7, 8, 9, 10, 3] rfl
      have hD := hD.sub (ws' := wL h0 h1 h2 k0 k1 k2 k3 k4 k5 k6 o cI cL f g L ca ca ow sl gl F (nI 1) mn' va' ki' ra' v) [0, 1, 2, 4, 5, 6, 7, 8, 9, 10, 3] (by decide) rfl
      refine lv_istore (lv' := [(6, .int rb), (5, .int (nI 1)), (0, .ref b), (1, .ref h0), (2, .ref k0), (3, .ref o), (4, .int (nI (4 * j)))]) hx hb dL_law_595 hl (by decide) rfl (fun ls hl => ?_)
      refine lv_aload_n hx hb dL_law_597 rfl (lv_at hl 4 rfl) ?_
      refine cVi (wr := (wX h0 h1 h2 cI f g (nI L) ca ++ [(o, .inl (cL, 1, .inr (.inl v)))])) (As := []) (rest := []) ⟨hx, hb, hml, hown, hts⟩ (pX1_thrown l D k0 k1 k2 k3 k4 k5 k6 cI (nI 1) F ca ow sl gl mn' va' ki' ra') (cwV 0 hts gL_law_X1_thrown rfl rfl rfl (by decide +kernel) ⟨(Nat.le_of_ble_eq_true rfl), (Nat.le_of_ble_eq_true rfl)⟩) hKI hP hD hS hA [3, 4, 5, 6, 7, 8, 9] [0, 1, 2, 10] rfl rfl (by decide) (by decide) (by decide) 0 rfl rfl rfl hl.1 rfl (Nat.le_of_ble_eq_true rfl) dL_law_598 ⟨hcs, hss⟩ (fun r u H locs hw hP hD hS => ?_)
      obtain ⟨rfl, rfl⟩ := hw
      have hP := hP.sub (ws' := wL h0 h1 h2 k0 k1 k2 k3 k4 k5 k6 o cI cL f g L ca ca ow sl gl F (nI 1) mn' va' ki' ra' v) [0, 1, 2, 4, 5, 6, 7, 8, 9, 10, 3] rfl
      have hD := hD.sub (ws' := wL h0 h1 h2 k0 k1 k2 k3 k4 k5 k6 o cI cL f g L ca ca ow sl gl F (nI 1) mn' va' ki' ra' v) [0, 1, 2, 4, 5, 6, 7, 8, 9, 10, 3] (by decide) rfl
      refine lv_iload hx hb dL_law_601 (lv_at hl 1 rfl) ?_
      refine lv_icmp_eq (tgt := 608) hx hb dL_law_603 (by decide) (fun c7 => ?_) (fun c7 => ?_)
      · skip
        refine lv_iload hx hb dL_law_608 (lv_at hl 1 rfl) ?_
        refine kNe0 (a := 1) (by omega) (tgt := 625) hx hb dL_law_610 (by decide) (fun c8 => ?_) (fun c8 => ?_)
        · skip
          refine lv_goto (tgt := 765) hx hb dL_law_625 (by decide) ?_
          exact kk f g L ca ow sl gl F (nI 1) mn' va' ki' ra' v _ _ _ hRel hP hD hS (lv_sub (l' := [(0, .ref b), (1, .ref h0), (2, .ref k0), (3, .ref o), (4, .int (nI (4 * j)))]) hl [2, 3, 4, 5, 6] rfl)
        · skip
          exact absurd c8 (by decide)
      · skip
        exact absurd rfl c7

set_option maxHeartbeats 4000000 in
set_option maxRecDepth 100000 in
theorem law_turn {p : Program} {l : Launch} {e : Env} {s : State} {m : MethodId} {below : List Frame} {meth : Method} {c : Code} {D : va_G} {b Ls : Nat} {xs : Nat → Int32} (hL : Ls ≤ 2048) (C0 : lw_At p s m meth c b Ls xs) (htr : l.stackTraces = false) {cI cL : ClassId} (hK : va_K D kC (tIL cI cL) s) (hZ : kZ (fun q : Nat => s.heap.size ≤ q) s s.heap) {h0 h1 h2 k0 k1 k2 k3 k4 k5 k6 o : Nat} {f g : Nat → Int32} {L : Nat} {ca : Int32} {ow sl gl : Nat → Int32} {F : Nat} {th mn : Int32} {va ki ra : Nat → Int32} {v : Nat → Int64} {j : Nat} (hj : 4 * j + 4 ≤ Ls) (hRel : Rel f g L ow sl gl F) {H : Heap} {locs : List Loc} {ls : Array Slot} (hP : va_P D kC (wL h0 h1 h2 k0 k1 k2 k3 k4 k5 k6 o cI cL f g L ca ca ow sl gl F th mn va ki ra v) H) (hD : va_D (fun q : Nat => s.heap.size ≤ q) (wL h0 h1 h2 k0 k1 k2 k3 k4 k5 k6 o cI cL f g L ca ca ow sl gl F th mn va ki ra v)) (hS : va_S (fun q : Nat => s.heap.size ≤ q) s.heap H locs) (hl : lv_has ls 7 [(0, .ref b), (1, .ref h0), (2, .ref k0), (3, .ref o), (4, .int (nI (4 * j)))]) {cs ss : Nat} (hcs : cs + 4 ≤ 601024) (hss : ss + 24 ≤ 7293033)
    (kk : ∀ (f g : Nat → Int32) (L : Nat) (ca : Int32) (ow sl gl : Nat → Int32) (F : Nat) (th mn : Int32) (va ki ra : Nat → Int32) (v : Nat → Int64) (H : Heap) (locs : List Loc) (ls : Array Slot), Rel f g L ow sl gl F → va_P D kC (wL h0 h1 h2 k0 k1 k2 k3 k4 k5 k6 o cI cL f g L ca ca ow sl gl F th mn va ki ra v) H → va_D (fun q : Nat => s.heap.size ≤ q) (wL h0 h1 h2 k0 k1 k2 k3 k4 k5 k6 o cI cL f g L ca ca ow sl gl F th mn va ki ra v) → va_S (fun q : Nat => s.heap.size ≤ q) s.heap H locs → lv_has ls 7 [(0, .ref b), (1, .ref h0), (2, .ref k0), (3, .ref o), (4, .int (nI (4 * j)))] → W p l e room_1 s m #[Value.ref b] below meth c H locs (cs + 4) (ss + 24) (lw_Z below #[Value.ref b] s) (F0 m 765 ls [])) : W p l e room_1 s m #[Value.ref b] below meth c H locs cs ss (lw_Z below #[Value.ref b] s) (F0 m 628 ls []) := by
  obtain ⟨hx, hb0, hr, hml, hown0, hts0, hX, hbl, hlocks, hgv⟩ := C0
  have hb : c.code = cL_law := hb0
  have hown : s.vm.findClass RL = some m.cls := hown0
  have hts : ∀ w ∈ wsL_law, w.before #[Value.ref b] s = true := fun w h => hts0 w (wsL_law_in w h)
  have hA : ∀ q : Nat, s.heap.size ≤ q → (fun q : Nat => s.heap.size ≤ q) q := fun _ h => h
  have hbA : ¬ (fun q : Nat => s.heap.size ≤ q) b := Nat.not_le.mpr hbl
  have hKI : va_K D kC (tI cI) s := hK.sub [0] rfl
  have hF := hRel.hF
  have hL2 := hRel.hL2
  obtain ⟨x1, hx1⟩ : ∃ z, z = xs (4 * j + 1) := ⟨_, rfl⟩
  obtain ⟨x2, hx2⟩ : ∃ z, z = xs (4 * j + 2) := ⟨_, rfl⟩
  refine lv_aload_n hx hb dL_law_628 rfl (lv_at hl 1 rfl) ?_
  refine lv_aload_n hx hb dL_law_629 rfl (lv_at hl 0 rfl) ?_
  refine lv_iload hx hb dL_law_630 (lv_at hl 4 rfl) ?_
  refine lv_iconst (v := nI 1) hx hb dL_law_632 (by decide) ?_
  refine kAdd hx hb dL_law_633 ?_
  refine va_sld hx hb hX hbl hbA hS (vp_in_nI (n := 4 * j + 1) (by omega) (by omega)) dL_law_634 ?_
  refine kTop (v' := x1) (by rw [nI_clamp (by omega)]; exact hx1.symm) ?_
  refine lv_aload_n hx hb dL_law_635 rfl (lv_at hl 0 rfl) ?_
  refine lv_iload hx hb dL_law_636 (lv_at hl 4 rfl) ?_
  refine lv_iconst (v := nI 2) hx hb dL_law_638 (by decide) ?_
  refine kAdd hx hb dL_law_639 ?_
  refine va_sld hx hb hX hbl hbA hS (vp_in_nI (n := 4 * j + 2) (by omega) (by omega)) dL_law_640 ?_
  refine kTop (v' := x2) (by rw [nI_clamp (by omega)]; exact hx2.symm) ?_
  refine lv_aload_n hx hb dL_law_641 rfl (lv_at hl 3 rfl) ?_
  refine tSi (wr := (wM k0 k1 k2 k3 k4 k5 k6 cI th (nI F) ca ow sl gl mn va ki ra)) (As := [.ref h0, .int x1, .int x2, .ref o]) (rest := []) ⟨hx, hb, hml, hown, hts⟩ (pL_turn l htr D h0 h1 h2 o cI cL f g L ca v hL2 x1 x2) (vx_cwSW 4 hts gL_law_L_turn rfl rfl rfl (by decide +kernel) ⟨(Nat.le_of_ble_eq_true rfl), (Nat.le_of_ble_eq_true rfl)⟩) hK hP hD hS hA hZ [0, 1, 2, 10] [3, 4, 5, 6, 7, 8, 9] rfl rfl (by decide) (by decide) (by decide) rfl hl.1 rfl (Nat.le_of_ble_eq_true rfl) dL_law_642 ⟨hcs, hss⟩ (fun r u H locs hw hP hD hS => ?_)
  skip
  rcases hw with ⟨r9, u9, hp, rfl, rfl⟩ | ⟨u9, hp, rfl, rfl⟩
  · skip
    obtain ⟨hn0, hz, hz2, rfl, rfl⟩ := hp
    have hgood : 0 < x1 ∧ inR x1 1000001 ∧ inR x2 1000001 := ⟨inR_pos (by decide) hz hn0, hz, hz2⟩
    have hP := hP.sub (ws' := wL h0 h1 h2 k0 k1 k2 k3 k4 k5 k6 o cI cL (fun t => if 0 ≤ t ∧ t < L ∧ f t = x1 then x2 else f t) g L ca ca ow sl gl F th mn va ki ra (vp_updL v 0 (nI ((rw_ f L).count x1)).toInt64)) [8, 9, 10, 0, 1, 2, 3, 4, 5, 6, 7] rfl
    have hD := hD.sub (ws' := wL h0 h1 h2 k0 k1 k2 k3 k4 k5 k6 o cI cL (fun t => if 0 ≤ t ∧ t < L ∧ f t = x1 then x2 else f t) g L ca ca ow sl gl F th mn va ki ra (vp_updL v 0 (nI ((rw_ f L).count x1)).toInt64)) [8, 9, 10, 0, 1, 2, 3, 4, 5, 6, 7] (by decide) rfl
    refine lv_istore (lv' := [(5, .int (nI 0)), (0, .ref b), (1, .ref h0), (2, .ref k0), (3, .ref o), (4, .int (nI (4 * j)))]) hx hb dL_law_645 hl (by decide) rfl (fun ls hl => ?_)
    refine lv_aload_n hx hb dL_law_647 rfl (lv_at hl 3 rfl) ?_
    refine lv_aload_n hx hb dL_law_648 rfl (lv_at hl 1 rfl) ?_
    refine lv_iload hx hb dL_law_649 (lv_at hl 5 rfl) ?_
    refine lv_iconst (v := nI 1) hx hb dL_law_651 (by decide) ?_
    refine kAdd hx hb dL_law_652 ?_
    refine va_sld hx hb hX hbl hbA hS (vp_in_nI (n := 4 * j + 1) (by omega) (by omega)) dL_law_653 ?_
    refine kTop (v' := x1) (by rw [nI_clamp (by omega)]; exact hx1.symm) ?_
    refine lv_aload_n hx hb dL_law_654 rfl (lv_at hl 1 rfl) ?_
    refine lv_iload hx hb dL_law_655 (lv_at hl 5 rfl) ?_
    refine lv_iconst (v := nI 2) hx hb dL_law_657 (by decide) ?_
    refine kAdd hx hb dL_law_658 ?_
    refine va_sld hx hb hX hbl hbA hS (vp_in_nI (n := 4 * j + 2) (by omega) (by omega)) dL_law_659 ?_
    refine kTop (v' := x2) (by rw [nI_clamp (by omega)]; exact hx2.symm) ?_
    refine cVi (wr := (wX h0 h1 h2 cI (fun t => if 0 ≤ t ∧ t < L ∧ f t = x1 then x2 else f t) g (nI L) ca ++ [(o, .inl (cL, 1, .inr (.inl (vp_updL v 0 (nI ((rw_ f L).count x1)).toInt64))))])) (As := [.int x1, .int x2]) (rest := []) ⟨hx, hb, hml, hown, hts⟩ (pX1_turn l D k0 k1 k2 k3 k4 k5 k6 cI th F ca ow sl gl mn va ki ra hF x1 x2) (cwV 2 hts gL_law_X1_turn rfl rfl rfl (by decide +kernel) ⟨(Nat.le_of_ble_eq_true rfl), (Nat.le_of_ble_eq_true rfl)⟩) hKI hP hD hS hA [3, 4, 5, 6, 7, 8, 9] [0, 1, 2, 10] rfl rfl (by decide) (by decide) (by decide) 0 rfl rfl rfl hl.1 rfl (Nat.le_of_ble_eq_true rfl) dL_law_660 ⟨hcs, hss⟩ (fun rb u H locs hw hP hD hS => ?_)
    skip
    rcases hw with ⟨-, rfl, rfl⟩ | ⟨h9, -⟩
    · skip
      have hP := hP.sub (ws' := wL h0 h1 h2 k0 k1 k2 k3 k4 k5 k6 o cI cL (fun t => if 0 ≤ t ∧ t < L ∧ f t = x1 then x2 else f t) g L ca ca ow (fun t => if 0 ≤ t ∧ t < 8 * F ∧ sl t = x1 then x2 else sl t) (fun t => if 0 ≤ t ∧ t < 16 ∧ gl t = x1 then x2 else gl t) F (nI 0) mn va ki ra (vp_updL v 0 (nI ((rw_ f L).count x1)).toInt64)) [0, 1, 2, 4, 5, 6, 7, 8, 9, 10, 3] rfl
      have hD := hD.sub (ws' := wL h0 h1 h2 k0 k1 k2 k3 k4 k5 k6 o cI cL (fun t => if 0 ≤ t ∧ t < L ∧ f t = x1 then x2 else f t) g L ca ca ow (fun t => if 0 ≤ t ∧ t < 8 * F ∧ sl t = x1 then x2 else sl t) (fun t => if 0 ≤ t ∧ t < 16 ∧ gl t = x1 then x2 else gl t) F (nI 0) mn va ki ra (vp_updL v 0 (nI ((rw_ f L).count x1)).toInt64)) [0, 1, 2, 4, 5, 6, 7, 8, 9, 10, 3] (by decide) rfl
      refine lv_istore (lv' := [(6, .int (nI ((rw_ sl (8 * F)).count x1 + (rw_ gl 16).count x1))), (5, .int (nI 0)), (0, .ref b), (1, .ref h0), (2, .ref k0), (3, .ref o), (4, .int (nI (4 * j)))]) hx hb dL_law_663 hl (by decide) rfl (fun ls hl => ?_)
      refine lv_aload_n hx hb dL_law_665 rfl (lv_at hl 4 rfl) ?_
      refine cVi (wr := (wX h0 h1 h2 cI (fun t => if 0 ≤ t ∧ t < L ∧ f t = x1 then x2 else f t) g (nI L) ca ++ [(o, .inl (cL, 1, .inr (.inl (vp_updL v 0 (nI ((rw_ f L).count x1)).toInt64))))])) (As := []) (rest := []) ⟨hx, hb, hml, hown, hts⟩ (pX1_thrown l D k0 k1 k2 k3 k4 k5 k6 cI (nI 0) F ca ow (fun t => if 0 ≤ t ∧ t < 8 * F ∧ sl t = x1 then x2 else sl t) (fun t => if 0 ≤ t ∧ t < 16 ∧ gl t = x1 then x2 else gl t) mn va ki ra) (cwV 0 hts gL_law_X1_thrown rfl rfl rfl (by decide +kernel) ⟨(Nat.le_of_ble_eq_true rfl), (Nat.le_of_ble_eq_true rfl)⟩) hKI hP hD hS hA [3, 4, 5, 6, 7, 8, 9] [0, 1, 2, 10] rfl rfl (by decide) (by decide) (by decide) 0 rfl rfl rfl hl.1 rfl (Nat.le_of_ble_eq_true rfl) dL_law_666 ⟨hcs, hss⟩ (fun r u H locs hw hP hD hS => ?_)
      obtain ⟨rfl, rfl⟩ := hw
      have hP := hP.sub (ws' := wL h0 h1 h2 k0 k1 k2 k3 k4 k5 k6 o cI cL (fun t => if 0 ≤ t ∧ t < L ∧ f t = x1 then x2 else f t) g L ca ca ow (fun t => if 0 ≤ t ∧ t < 8 * F ∧ sl t = x1 then x2 else sl t) (fun t => if 0 ≤ t ∧ t < 16 ∧ gl t = x1 then x2 else gl t) F (nI 0) mn va ki ra (vp_updL v 0 (nI ((rw_ f L).count x1)).toInt64)) [0, 1, 2, 4, 5, 6, 7, 8, 9, 10, 3] rfl
      have hD := hD.sub (ws' := wL h0 h1 h2 k0 k1 k2 k3 k4 k5 k6 o cI cL (fun t => if 0 ≤ t ∧ t < L ∧ f t = x1 then x2 else f t) g L ca ca ow (fun t => if 0 ≤ t ∧ t < 8 * F ∧ sl t = x1 then x2 else sl t) (fun t => if 0 ≤ t ∧ t < 16 ∧ gl t = x1 then x2 else gl t) F (nI 0) mn va ki ra (vp_updL v 0 (nI ((rw_ f L).count x1)).toInt64)) [0, 1, 2, 4, 5, 6, 7, 8, 9, 10, 3] (by decide) rfl
      refine lv_iload hx hb dL_law_669 (lv_at hl 1 rfl) ?_
      refine lv_icmp_eq (tgt := 676) hx hb dL_law_671 (by decide) (fun c7 => ?_) (fun c7 => ?_)
      · skip
        refine lv_iload hx hb dL_law_676 (lv_at hl 1 rfl) ?_
        refine kNe0 (a := 0) (by omega) (tgt := 693) hx hb dL_law_678 (by decide) (fun c8 => ?_) (fun c8 => ?_)
        · skip
          exact absurd c8 (by decide)
        · skip
          refine lv_aload_n hx hb dL_law_681 rfl (lv_at hl 5 rfl) ?_
          refine lv_iconst (v := nI 0) hx hb dL_law_682 (by decide) ?_
          refine va_lald hx hb hK hP 10 1 rfl rfl (vp_in_nI (n := 0) (by decide) (by decide)) dL_law_683 ?_
          refine lv_iload hx hb dL_law_684 (lv_at hl 0 rfl) ?_
          refine lv_i2l hx hb dL_law_686 rfl ?_
          refine W.lcmp hx hb dL_law_687 ?_
          refine kTop (v' := nI 0) (lg_eq (pk_uLs.trans (congrArg Int32.toInt64 hRel.turnc))) ?_
          refine kEq0 (a := 0) (by omega) (tgt := 693) hx hb dL_law_688 (by decide) (fun c9 => ?_) (fun c9 => ?_)
          · skip
            refine lv_goto (tgt := 765) hx hb dL_law_693 (by decide) ?_
            exact kk (fun t => if 0 ≤ t ∧ t < L ∧ f t = x1 then x2 else f t) g L ca ow (fun t => if 0 ≤ t ∧ t < 8 * F ∧ sl t = x1 then x2 else sl t) (fun t => if 0 ≤ t ∧ t < 16 ∧ gl t = x1 then x2 else gl t) F (nI 0) mn va ki ra (vp_updL v 0 (nI ((rw_ f L).count x1)).toInt64) _ _ _ (hRel.turn hz2) hP hD hS (lv_sub (l' := [(0, .ref b), (1, .ref h0), (2, .ref k0), (3, .ref o), (4, .int (nI (4 * j)))]) hl [2, 3, 4, 5, 6] rfl)
          · skip
            exact absurd c9 (by decide)
      · skip
        exact absurd rfl c7
    · skip
      exact absurd hgood h9
  · skip
    obtain ⟨rfl, -, hp⟩ := hp
    have hp : ¬ (0 < x1 ∧ inR x1 1000001 ∧ inR x2 1000001) := fun h => hp.elim (fun q => by rw [q] at h; exact Int32.lt_irrefl h.1) (fun q => q.elim (fun q => q h.2.1) (fun q => q h.2.2))
    have hP := hP.sub (ws' := wL h0 h1 h2 k0 k1 k2 k3 k4 k5 k6 o cI cL f g L ca ca ow sl gl F th mn va ki ra v) [8, 9, 10, 0, 1, 2, 3, 4, 5, 6, 7] rfl
    have hD := hD.sub (ws' := wL h0 h1 h2 k0 k1 k2 k3 k4 k5 k6 o cI cL f g L ca ca ow sl gl F th mn va ki ra v) [8, 9, 10, 0, 1, 2, 3, 4, 5, 6, 7] (by decide) rfl
    refine lv_istore (lv' := [(5, .int (nI 1)), (0, .ref b), (1, .ref h0), (2, .ref k0), (3, .ref o), (4, .int (nI (4 * j)))]) hx hb dL_law_645 hl (by decide) rfl (fun ls hl => ?_)
    refine lv_aload_n hx hb dL_law_647 rfl (lv_at hl 3 rfl) ?_
    refine lv_aload_n hx hb dL_law_648 rfl (lv_at hl 1 rfl) ?_
    refine lv_iload hx hb dL_law_649 (lv_at hl 5 rfl) ?_
    refine lv_iconst (v := nI 1) hx hb dL_law_651 (by decide) ?_
    refine kAdd hx hb dL_law_652 ?_
    refine va_sld hx hb hX hbl hbA hS (vp_in_nI (n := 4 * j + 1) (by omega) (by omega)) dL_law_653 ?_
    refine kTop (v' := x1) (by rw [nI_clamp (by omega)]; exact hx1.symm) ?_
    refine lv_aload_n hx hb dL_law_654 rfl (lv_at hl 1 rfl) ?_
    refine lv_iload hx hb dL_law_655 (lv_at hl 5 rfl) ?_
    refine lv_iconst (v := nI 2) hx hb dL_law_657 (by decide) ?_
    refine kAdd hx hb dL_law_658 ?_
    refine va_sld hx hb hX hbl hbA hS (vp_in_nI (n := 4 * j + 2) (by omega) (by omega)) dL_law_659 ?_
    refine kTop (v' := x2) (by rw [nI_clamp (by omega)]; exact hx2.symm) ?_
    refine cVi (wr := (wX h0 h1 h2 cI f g (nI L) ca ++ [(o, .inl (cL, 1, .inr (.inl v)))])) (As := [.int x1, .int x2]) (rest := []) ⟨hx, hb, hml, hown, hts⟩ (pX1_turn l D k0 k1 k2 k3 k4 k5 k6 cI th F ca ow sl gl mn va ki ra hF x1 x2) (cwV 2 hts gL_law_X1_turn rfl rfl rfl (by decide +kernel) ⟨(Nat.le_of_ble_eq_true rfl), (Nat.le_of_ble_eq_true rfl)⟩) hKI hP hD hS hA [3, 4, 5, 6, 7, 8, 9] [0, 1, 2, 10] rfl rfl (by decide) (by decide) (by decide) 0 rfl rfl rfl hl.1 rfl (Nat.le_of_ble_eq_true rfl) dL_law_660 ⟨hcs, hss⟩ (fun rb u H locs hw hP hD hS => ?_)
    skip
    rcases hw with ⟨h9, -⟩ | ⟨-, rfl⟩
    · skip
      exact absurd h9 hp
    · skip
      have hP := hP.sub (ws' := wL h0 h1 h2 k0 k1 k2 k3 k4 k5 k6 o cI cL f g L ca ca ow sl gl F (nI 1) mn va ki ra v) [0, 1, 2, 4, 5, 6, 7, 8, 9, 10, 3] rfl
      have hD := hD.sub (ws' := wL h0 h1 h2 k0 k1 k2 k3 k4 k5 k6 o cI cL f g L ca ca ow sl gl F (nI 1) mn va ki ra v) [0, 1, 2, 4, 5, 6, 7, 8, 9, 10, 3] (by decide) rfl
      refine lv_istore (lv' := [(6, .int rb), (5, .int (nI 1)), (0, .ref b), (1, .ref h0), (2, .ref k0), (3, .ref o), (4, .int (nI (4 * j)))]) hx hb dL_law_663 hl (by decide) rfl (fun ls hl => ?_)
      refine lv_aload_n hx hb dL_law_665 rfl (lv_at hl 4 rfl) ?_
      refine cVi (wr := (wX h0 h1 h2 cI f g (nI L) ca ++ [(o, .inl (cL, 1, .inr (.inl v)))])) (As := []) (rest := []) ⟨hx, hb, hml, hown, hts⟩ (pX1_thrown l D k0 k1 k2 k3 k4 k5 k6 cI (nI 1) F ca ow sl gl mn va ki ra) (cwV 0 hts gL_law_X1_thrown rfl rfl rfl (by decide +kernel) ⟨(Nat.le_of_ble_eq_true rfl), (Nat.le_of_ble_eq_true rfl)⟩) hKI hP hD hS hA [3, 4, 5, 6, 7, 8, 9] [0, 1, 2, 10] rfl rfl (by decide) (by decide) (by decide) 0 rfl rfl rfl hl.1 rfl (Nat.le_of_ble_eq_true rfl) dL_law_666 ⟨hcs, hss⟩ (fun r u H locs hw hP hD hS => ?_)
      obtain ⟨rfl, rfl⟩ := hw
      have hP := hP.sub (ws' := wL h0 h1 h2 k0 k1 k2 k3 k4 k5 k6 o cI cL f g L ca ca ow sl gl F (nI 1) mn va ki ra v) [0, 1, 2, 4, 5, 6, 7, 8, 9, 10, 3] rfl
      have hD := hD.sub (ws' := wL h0 h1 h2 k0 k1 k2 k3 k4 k5 k6 o cI cL f g L ca ca ow sl gl F (nI 1) mn va ki ra v) [0, 1, 2, 4, 5, 6, 7, 8, 9, 10, 3] (by decide) rfl
      refine lv_iload hx hb dL_law_669 (lv_at hl 1 rfl) ?_
      refine lv_icmp_eq (tgt := 676) hx hb dL_law_671 (by decide) (fun c7 => ?_) (fun c7 => ?_)
      · skip
        refine lv_iload hx hb dL_law_676 (lv_at hl 1 rfl) ?_
        refine kNe0 (a := 1) (by omega) (tgt := 693) hx hb dL_law_678 (by decide) (fun c8 => ?_) (fun c8 => ?_)
        · skip
          refine lv_goto (tgt := 765) hx hb dL_law_693 (by decide) ?_
          exact kk f g L ca ow sl gl F (nI 1) mn va ki ra v _ _ _ hRel hP hD hS (lv_sub (l' := [(0, .ref b), (1, .ref h0), (2, .ref k0), (3, .ref o), (4, .int (nI (4 * j)))]) hl [2, 3, 4, 5, 6] rfl)
        · skip
          exact absurd c8 (by decide)
      · skip
        exact absurd rfl c7

set_option maxHeartbeats 4000000 in
set_option maxRecDepth 100000 in
theorem law_count {p : Program} {l : Launch} {e : Env} {s : State} {m : MethodId} {below : List Frame} {meth : Method} {c : Code} {D : va_G} {b Ls : Nat} {xs : Nat → Int32} (hL : Ls ≤ 2048) (C0 : lw_At p s m meth c b Ls xs) (htr : l.stackTraces = false) {cI cL : ClassId} (hK : va_K D kC (tIL cI cL) s) (hZ : kZ (fun q : Nat => s.heap.size ≤ q) s s.heap) {h0 h1 h2 k0 k1 k2 k3 k4 k5 k6 o : Nat} {f g : Nat → Int32} {L : Nat} {ca : Int32} {ow sl gl : Nat → Int32} {F : Nat} {th mn : Int32} {va ki ra : Nat → Int32} {v : Nat → Int64} {j : Nat} (hj : 4 * j + 4 ≤ Ls) (hRel : Rel f g L ow sl gl F) {H : Heap} {locs : List Loc} {ls : Array Slot} (hP : va_P D kC (wL h0 h1 h2 k0 k1 k2 k3 k4 k5 k6 o cI cL f g L ca ca ow sl gl F th mn va ki ra v) H) (hD : va_D (fun q : Nat => s.heap.size ≤ q) (wL h0 h1 h2 k0 k1 k2 k3 k4 k5 k6 o cI cL f g L ca ca ow sl gl F th mn va ki ra v)) (hS : va_S (fun q : Nat => s.heap.size ≤ q) s.heap H locs) (hl : lv_has ls 7 [(0, .ref b), (1, .ref h0), (2, .ref k0), (3, .ref o), (4, .int (nI (4 * j)))]) {cs ss : Nat} (hcs : cs + 4 ≤ 601024) (hss : ss + 24 ≤ 7293033)
    (kk : ∀ (f g : Nat → Int32) (L : Nat) (ca : Int32) (ow sl gl : Nat → Int32) (F : Nat) (th mn : Int32) (va ki ra : Nat → Int32) (v : Nat → Int64) (H : Heap) (locs : List Loc) (ls : Array Slot), Rel f g L ow sl gl F → va_P D kC (wL h0 h1 h2 k0 k1 k2 k3 k4 k5 k6 o cI cL f g L ca ca ow sl gl F th mn va ki ra v) H → va_D (fun q : Nat => s.heap.size ≤ q) (wL h0 h1 h2 k0 k1 k2 k3 k4 k5 k6 o cI cL f g L ca ca ow sl gl F th mn va ki ra v) → va_S (fun q : Nat => s.heap.size ≤ q) s.heap H locs → lv_has ls 7 [(0, .ref b), (1, .ref h0), (2, .ref k0), (3, .ref o), (4, .int (nI (4 * j)))] → W p l e room_1 s m #[Value.ref b] below meth c H locs (cs + 4) (ss + 24) (lw_Z below #[Value.ref b] s) (F0 m 765 ls [])) : W p l e room_1 s m #[Value.ref b] below meth c H locs cs ss (lw_Z below #[Value.ref b] s) (F0 m 709 ls []) := by
  obtain ⟨hx, hb0, hr, hml, hown0, hts0, hX, hbl, hlocks, hgv⟩ := C0
  have hb : c.code = cL_law := hb0
  have hown : s.vm.findClass RL = some m.cls := hown0
  have hts : ∀ w ∈ wsL_law, w.before #[Value.ref b] s = true := fun w h => hts0 w (wsL_law_in w h)
  have hA : ∀ q : Nat, s.heap.size ≤ q → (fun q : Nat => s.heap.size ≤ q) q := fun _ h => h
  have hbA : ¬ (fun q : Nat => s.heap.size ≤ q) b := Nat.not_le.mpr hbl
  have hKI : va_K D kC (tI cI) s := hK.sub [0] rfl
  have hF := hRel.hF
  have hL2 := hRel.hL2
  obtain ⟨x1, hx1⟩ : ∃ z, z = xs (4 * j + 1) := ⟨_, rfl⟩
  refine lv_aload_n hx hb dL_law_709 rfl (lv_at hl 1 rfl) ?_
  refine lv_aload_n hx hb dL_law_710 rfl (lv_at hl 0 rfl) ?_
  refine lv_iload hx hb dL_law_711 (lv_at hl 4 rfl) ?_
  refine lv_iconst (v := nI 1) hx hb dL_law_713 (by decide) ?_
  refine kAdd hx hb dL_law_714 ?_
  refine va_sld hx hb hX hbl hbA hS (vp_in_nI (n := 4 * j + 1) (by omega) (by omega)) dL_law_715 ?_
  refine kTop (v' := x1) (by rw [nI_clamp (by omega)]; exact hx1.symm) ?_
  refine lv_aload_n hx hb dL_law_716 rfl (lv_at hl 3 rfl) ?_
  refine tSi (wr := (wM k0 k1 k2 k3 k4 k5 k6 cI th (nI F) ca ow sl gl mn va ki ra)) (As := [.ref h0, .int x1, .ref o]) (rest := []) ⟨hx, hb, hml, hown, hts⟩ (pL_count l htr D h0 h1 h2 o cI cL f g L ca v (cnts ow F) hRel.1 hRel.2.1 x1) (vx_cwSW 3 hts gL_law_L_count rfl rfl rfl (by decide +kernel) ⟨(Nat.le_of_ble_eq_true rfl), (Nat.le_of_ble_eq_true rfl)⟩) hK hP hD hS hA hZ [0, 1, 2, 10] [3, 4, 5, 6, 7, 8, 9] rfl rfl (by decide) (by decide) (by decide) rfl hl.1 rfl (Nat.le_of_ble_eq_true rfl) dL_law_717 ⟨hcs, hss⟩ (fun r u H locs hw hP hD hS => ?_)
  skip
  rcases hw with ⟨r9, u9, hp, rfl, rfl⟩ | ⟨u9, hp, rfl, rfl⟩
  · skip
    obtain ⟨rfl, hp⟩ := hp
    have hP := hP.sub (ws' := wL h0 h1 h2 k0 k1 k2 k3 k4 k5 k6 o cI cL f g L ca ca ow sl gl F th mn va ki ra (vp_updL v 0 r9.toInt64)) [8, 9, 10, 0, 1, 2, 3, 4, 5, 6, 7] rfl
    have hD := hD.sub (ws' := wL h0 h1 h2 k0 k1 k2 k3 k4 k5 k6 o cI cL f g L ca ca ow sl gl F th mn va ki ra (vp_updL v 0 r9.toInt64)) [8, 9, 10, 0, 1, 2, 3, 4, 5, 6, 7] (by decide) rfl
    refine lv_istore (lv' := [(5, .int (nI 0)), (0, .ref b), (1, .ref h0), (2, .ref k0), (3, .ref o), (4, .int (nI (4 * j)))]) hx hb dL_law_720 hl (by decide) rfl (fun ls hl => ?_)
    refine lv_aload_n hx hb dL_law_722 rfl (lv_at hl 3 rfl) ?_
    refine lv_aload_n hx hb dL_law_723 rfl (lv_at hl 1 rfl) ?_
    refine lv_iload hx hb dL_law_724 (lv_at hl 5 rfl) ?_
    refine lv_iconst (v := nI 1) hx hb dL_law_726 (by decide) ?_
    refine kAdd hx hb dL_law_727 ?_
    refine va_sld hx hb hX hbl hbA hS (vp_in_nI (n := 4 * j + 1) (by omega) (by omega)) dL_law_728 ?_
    refine kTop (v' := x1) (by rw [nI_clamp (by omega)]; exact hx1.symm) ?_
    refine cVi (wr := (wX h0 h1 h2 cI f g (nI L) ca ++ [(o, .inl (cL, 1, .inr (.inl (vp_updL v 0 r9.toInt64))))])) (As := [.int x1]) (rest := []) ⟨hx, hb, hml, hown, hts⟩ (pX1_count l D k0 k1 k2 k3 k4 k5 k6 cI th F ca ow sl gl mn va ki ra hF x1) (cwV 1 hts gL_law_X1_count rfl rfl rfl (by decide +kernel) ⟨(Nat.le_of_ble_eq_true rfl), (Nat.le_of_ble_eq_true rfl)⟩) hKI hP hD hS hA [3, 4, 5, 6, 7, 8, 9] [0, 1, 2, 10] rfl rfl (by decide) (by decide) (by decide) 0 rfl rfl rfl hl.1 rfl (Nat.le_of_ble_eq_true rfl) dL_law_729 ⟨hcs, hss⟩ (fun rb u H locs hw hP hD hS => ?_)
    skip
    obtain ⟨mn', va', ki', ra', ⟨rfl, hq⟩ | ⟨h9, -⟩⟩ := hw
    · skip
      have hP := hP.sub (ws' := wL h0 h1 h2 k0 k1 k2 k3 k4 k5 k6 o cI cL f g L ca ca ow sl gl F (nI 0) mn' va' ki' ra' (vp_updL v 0 r9.toInt64)) [0, 1, 2, 4, 5, 6, 7, 8, 9, 10, 3] rfl
      have hD := hD.sub (ws' := wL h0 h1 h2 k0 k1 k2 k3 k4 k5 k6 o cI cL f g L ca ca ow sl gl F (nI 0) mn' va' ki' ra' (vp_updL v 0 r9.toInt64)) [0, 1, 2, 4, 5, 6, 7, 8, 9, 10, 3] (by decide) rfl
      refine lv_istore (lv' := [(6, .int rb), (5, .int (nI 0)), (0, .ref b), (1, .ref h0), (2, .ref k0), (3, .ref o), (4, .int (nI (4 * j)))]) hx hb dL_law_732 hl (by decide) rfl (fun ls hl => ?_)
      refine lv_aload_n hx hb dL_law_734 rfl (lv_at hl 4 rfl) ?_
      refine cVi (wr := (wX h0 h1 h2 cI f g (nI L) ca ++ [(o, .inl (cL, 1, .inr (.inl (vp_updL v 0 r9.toInt64))))])) (As := []) (rest := []) ⟨hx, hb, hml, hown, hts⟩ (pX1_thrown l D k0 k1 k2 k3 k4 k5 k6 cI (nI 0) F ca ow sl gl mn' va' ki' ra') (cwV 0 hts gL_law_X1_thrown rfl rfl rfl (by decide +kernel) ⟨(Nat.le_of_ble_eq_true rfl), (Nat.le_of_ble_eq_true rfl)⟩) hKI hP hD hS hA [3, 4, 5, 6, 7, 8, 9] [0, 1, 2, 10] rfl rfl (by decide) (by decide) (by decide) 0 rfl rfl rfl hl.1 rfl (Nat.le_of_ble_eq_true rfl) dL_law_735 ⟨hcs, hss⟩ (fun r u H locs hw hP hD hS => ?_)
      obtain ⟨rfl, rfl⟩ := hw
      have hP := hP.sub (ws' := wL h0 h1 h2 k0 k1 k2 k3 k4 k5 k6 o cI cL f g L ca ca ow sl gl F (nI 0) mn' va' ki' ra' (vp_updL v 0 r9.toInt64)) [0, 1, 2, 4, 5, 6, 7, 8, 9, 10, 3] rfl
      have hD := hD.sub (ws' := wL h0 h1 h2 k0 k1 k2 k3 k4 k5 k6 o cI cL f g L ca ca ow sl gl F (nI 0) mn' va' ki' ra' (vp_updL v 0 r9.toInt64)) [0, 1, 2, 4, 5, 6, 7, 8, 9, 10, 3] (by decide) rfl
      refine lv_iload hx hb dL_law_738 (lv_at hl 1 rfl) ?_
      refine lv_icmp_eq (tgt := 745) hx hb dL_law_740 (by decide) (fun c7 => ?_) (fun c7 => ?_)
      · skip
        refine lv_iload hx hb dL_law_745 (lv_at hl 1 rfl) ?_
        refine kNe0 (a := 0) (by omega) (tgt := 762) hx hb dL_law_747 (by decide) (fun c8 => ?_) (fun c8 => ?_)
        · skip
          exact absurd c8 (by decide)
        · skip
          refine lv_aload_n hx hb dL_law_750 rfl (lv_at hl 5 rfl) ?_
          refine lv_iconst (v := nI 0) hx hb dL_law_751 (by decide) ?_
          refine va_lald hx hb hK hP 10 1 rfl rfl (vp_in_nI (n := 0) (by decide) (by decide)) dL_law_752 ?_
          refine lv_iload hx hb dL_law_753 (lv_at hl 0 rfl) ?_
          refine lv_i2l hx hb dL_law_755 rfl ?_
          refine W.lcmp hx hb dL_law_756 ?_
          refine kTop (v' := nI 0) (lg_eq (pk_uLs.trans (congrArg Int32.toInt64 (hRel.count hp hq)))) ?_
          refine kEq0 (a := 0) (by omega) (tgt := 762) hx hb dL_law_757 (by decide) (fun c9 => ?_) (fun c9 => ?_)
          · skip
            refine lv_goto (tgt := 765) hx hb dL_law_762 (by decide) ?_
            exact kk f g L ca ow sl gl F (nI 0) mn' va' ki' ra' (vp_updL v 0 r9.toInt64) _ _ _ hRel hP hD hS (lv_sub (l' := [(0, .ref b), (1, .ref h0), (2, .ref k0), (3, .ref o), (4, .int (nI (4 * j)))]) hl [2, 3, 4, 5, 6] rfl)
          · skip
            exact absurd c9 (by decide)
      · skip
        exact absurd rfl c7
    · skip
      exact absurd (cnt_in hp) h9
  · skip
    obtain ⟨rfl, -, hp⟩ := hp
    have hP := hP.sub (ws' := wL h0 h1 h2 k0 k1 k2 k3 k4 k5 k6 o cI cL f g L ca ca ow sl gl F th mn va ki ra v) [8, 9, 10, 0, 1, 2, 3, 4, 5, 6, 7] rfl
    have hD := hD.sub (ws' := wL h0 h1 h2 k0 k1 k2 k3 k4 k5 k6 o cI cL f g L ca ca ow sl gl F th mn va ki ra v) [8, 9, 10, 0, 1, 2, 3, 4, 5, 6, 7] (by decide) rfl
    refine lv_istore (lv' := [(5, .int (nI 1)), (0, .ref b), (1, .ref h0), (2, .ref k0), (3, .ref o), (4, .int (nI (4 * j)))]) hx hb dL_law_720 hl (by decide) rfl (fun ls hl => ?_)
    refine lv_aload_n hx hb dL_law_722 rfl (lv_at hl 3 rfl) ?_
    refine lv_aload_n hx hb dL_law_723 rfl (lv_at hl 1 rfl) ?_
    refine lv_iload hx hb dL_law_724 (lv_at hl 5 rfl) ?_
    refine lv_iconst (v := nI 1) hx hb dL_law_726 (by decide) ?_
    refine kAdd hx hb dL_law_727 ?_
    refine va_sld hx hb hX hbl hbA hS (vp_in_nI (n := 4 * j + 1) (by omega) (by omega)) dL_law_728 ?_
    refine kTop (v' := x1) (by rw [nI_clamp (by omega)]; exact hx1.symm) ?_
    refine cVi (wr := (wX h0 h1 h2 cI f g (nI L) ca ++ [(o, .inl (cL, 1, .inr (.inl v)))])) (As := [.int x1]) (rest := []) ⟨hx, hb, hml, hown, hts⟩ (pX1_count l D k0 k1 k2 k3 k4 k5 k6 cI th F ca ow sl gl mn va ki ra hF x1) (cwV 1 hts gL_law_X1_count rfl rfl rfl (by decide +kernel) ⟨(Nat.le_of_ble_eq_true rfl), (Nat.le_of_ble_eq_true rfl)⟩) hKI hP hD hS hA [3, 4, 5, 6, 7, 8, 9] [0, 1, 2, 10] rfl rfl (by decide) (by decide) (by decide) 0 rfl rfl rfl hl.1 rfl (Nat.le_of_ble_eq_true rfl) dL_law_729 ⟨hcs, hss⟩ (fun rb u H locs hw hP hD hS => ?_)
    skip
    obtain ⟨mn', va', ki', ra', ⟨rfl, hq⟩ | ⟨-, rfl⟩⟩ := hw
    · skip
      exact absurd (cnt_in hq) hp
    · skip
      have hP := hP.sub (ws' := wL h0 h1 h2 k0 k1 k2 k3 k4 k5 k6 o cI cL f g L ca ca ow sl gl F (nI 1) mn' va' ki' ra' v) [0, 1, 2, 4, 5, 6, 7, 8, 9, 10, 3] rfl
      have hD := hD.sub (ws' := wL h0 h1 h2 k0 k1 k2 k3 k4 k5 k6 o cI cL f g L ca ca ow sl gl F (nI 1) mn' va' ki' ra' v) [0, 1, 2, 4, 5, 6, 7, 8, 9, 10, 3] (by decide) rfl
      refine lv_istore (lv' := [(6, .int rb), (5, .int (nI 1)), (0, .ref b), (1, .ref h0), (2, .ref k0), (3, .ref o), (4, .int (nI (4 * j)))]) hx hb dL_law_732 hl (by decide) rfl (fun ls hl => ?_)
      refine lv_aload_n hx hb dL_law_734 rfl (lv_at hl 4 rfl) ?_
      refine cVi (wr := (wX h0 h1 h2 cI f g (nI L) ca ++ [(o, .inl (cL, 1, .inr (.inl v)))])) (As := []) (rest := []) ⟨hx, hb, hml, hown, hts⟩ (pX1_thrown l D k0 k1 k2 k3 k4 k5 k6 cI (nI 1) F ca ow sl gl mn' va' ki' ra') (cwV 0 hts gL_law_X1_thrown rfl rfl rfl (by decide +kernel) ⟨(Nat.le_of_ble_eq_true rfl), (Nat.le_of_ble_eq_true rfl)⟩) hKI hP hD hS hA [3, 4, 5, 6, 7, 8, 9] [0, 1, 2, 10] rfl rfl (by decide) (by decide) (by decide) 0 rfl rfl rfl hl.1 rfl (Nat.le_of_ble_eq_true rfl) dL_law_735 ⟨hcs, hss⟩ (fun r u H locs hw hP hD hS => ?_)
      obtain ⟨rfl, rfl⟩ := hw
      have hP := hP.sub (ws' := wL h0 h1 h2 k0 k1 k2 k3 k4 k5 k6 o cI cL f g L ca ca ow sl gl F (nI 1) mn' va' ki' ra' v) [0, 1, 2, 4, 5, 6, 7, 8, 9, 10, 3] rfl
      have hD := hD.sub (ws' := wL h0 h1 h2 k0 k1 k2 k3 k4 k5 k6 o cI cL f g L ca ca ow sl gl F (nI 1) mn' va' ki' ra' v) [0, 1, 2, 4, 5, 6, 7, 8, 9, 10, 3] (by decide) rfl
      refine lv_iload hx hb dL_law_738 (lv_at hl 1 rfl) ?_
      refine lv_icmp_eq (tgt := 745) hx hb dL_law_740 (by decide) (fun c7 => ?_) (fun c7 => ?_)
      · skip
        refine lv_iload hx hb dL_law_745 (lv_at hl 1 rfl) ?_
        refine kNe0 (a := 1) (by omega) (tgt := 762) hx hb dL_law_747 (by decide) (fun c8 => ?_) (fun c8 => ?_)
        · skip
          refine lv_goto (tgt := 765) hx hb dL_law_762 (by decide) ?_
          exact kk f g L ca ow sl gl F (nI 1) mn' va' ki' ra' v _ _ _ hRel hP hD hS (lv_sub (l' := [(0, .ref b), (1, .ref h0), (2, .ref k0), (3, .ref o), (4, .int (nI (4 * j)))]) hl [2, 3, 4, 5, 6] rfl)
        · skip
          exact absurd c8 (by decide)
      · skip
        exact absurd rfl c7

set_option maxHeartbeats 4000000 in
set_option maxRecDepth 100000 in
theorem law_renew {p : Program} {l : Launch} {e : Env} {s : State} {m : MethodId} {below : List Frame} {meth : Method} {c : Code} {D : va_G} {b Ls : Nat} {xs : Nat → Int32} (hL : Ls ≤ 2048) (C0 : lw_At p s m meth c b Ls xs) (htr : l.stackTraces = false) {cI cL : ClassId} (hK : va_K D kC (tIL cI cL) s) (hZ : kZ (fun q : Nat => s.heap.size ≤ q) s s.heap) {h0 h1 h2 k0 k1 k2 k3 k4 k5 k6 o : Nat} {f g : Nat → Int32} {L : Nat} {ca : Int32} {ow sl gl : Nat → Int32} {F : Nat} {th mn : Int32} {va ki ra : Nat → Int32} {v : Nat → Int64} {j : Nat} (hj : 4 * j + 4 ≤ Ls) (hRel : Rel f g L ow sl gl F) {H : Heap} {locs : List Loc} {ls : Array Slot} (hP : va_P D kC (wL h0 h1 h2 k0 k1 k2 k3 k4 k5 k6 o cI cL f g L ca ca ow sl gl F th mn va ki ra v) H) (hD : va_D (fun q : Nat => s.heap.size ≤ q) (wL h0 h1 h2 k0 k1 k2 k3 k4 k5 k6 o cI cL f g L ca ca ow sl gl F th mn va ki ra v)) (hS : va_S (fun q : Nat => s.heap.size ≤ q) s.heap H locs) (hl : lv_has ls 7 [(0, .ref b), (1, .ref h0), (2, .ref k0), (3, .ref o), (4, .int (nI (4 * j)))]) {cs ss : Nat} (hcs : cs + 4 ≤ 601024) (hss : ss + 24 ≤ 7293033)
    (kk : ∀ (f g : Nat → Int32) (L : Nat) (ca : Int32) (ow sl gl : Nat → Int32) (F : Nat) (th mn : Int32) (va ki ra : Nat → Int32) (v : Nat → Int64) (H : Heap) (locs : List Loc) (ls : Array Slot), Rel f g L ow sl gl F → va_P D kC (wL h0 h1 h2 k0 k1 k2 k3 k4 k5 k6 o cI cL f g L ca ca ow sl gl F th mn va ki ra v) H → va_D (fun q : Nat => s.heap.size ≤ q) (wL h0 h1 h2 k0 k1 k2 k3 k4 k5 k6 o cI cL f g L ca ca ow sl gl F th mn va ki ra v) → va_S (fun q : Nat => s.heap.size ≤ q) s.heap H locs → lv_has ls 7 [(0, .ref b), (1, .ref h0), (2, .ref k0), (3, .ref o), (4, .int (nI (4 * j)))] → W p l e room_1 s m #[Value.ref b] below meth c H locs (cs + 4) (ss + 24) (lw_Z below #[Value.ref b] s) (F0 m 765 ls [])) : W p l e room_1 s m #[Value.ref b] below meth c H locs cs ss (lw_Z below #[Value.ref b] s) (F0 m 696 ls []) := by
  obtain ⟨hx, hb0, hr, hml, hown0, hts0, hX, hbl, hlocks, hgv⟩ := C0
  have hb : c.code = cL_law := hb0
  have hown : s.vm.findClass RL = some m.cls := hown0
  have hts : ∀ w ∈ wsL_law, w.before #[Value.ref b] s = true := fun w h => hts0 w (wsL_law_in w h)
  have hA : ∀ q : Nat, s.heap.size ≤ q → (fun q : Nat => s.heap.size ≤ q) q := fun _ h => h
  have hbA : ¬ (fun q : Nat => s.heap.size ≤ q) b := Nat.not_le.mpr hbl
  have hKI : va_K D kC (tI cI) s := hK.sub [0] rfl
  have hF := hRel.hF
  have hL2 := hRel.hL2
  refine lv_aload_n hx hb dL_law_696 rfl (lv_at hl 1 rfl) ?_
  refine cVi (wr := (wM k0 k1 k2 k3 k4 k5 k6 cI th (nI F) ca ow sl gl mn va ki ra ++ [(o, .inl (cL, 1, .inr (.inl v)))])) (As := []) (rest := []) ⟨hx, hb, hml, hown, hts⟩ (pX0_renew l D h0 h1 h2 cI f g L ca hL2 (fun t ht => hRel.pos ht)) (cwV 0 hts gL_law_X0_renew rfl rfl rfl (by decide +kernel) ⟨(Nat.le_of_ble_eq_true rfl), (Nat.le_of_ble_eq_true rfl)⟩) hKI hP hD hS hA [0, 1, 2] [3, 4, 5, 6, 7, 8, 9, 10] rfl rfl (by decide) (by decide) (by decide) 0 rfl rfl rfl hl.1 rfl (Nat.le_of_ble_eq_true rfl) dL_law_697 ⟨(Nat.le_trans (Nat.le_add_right cs 4) hcs), (Nat.le_trans (Nat.le_add_right ss 24) hss)⟩ (fun r u H locs hw hP hD hS => ?_)
  obtain ⟨rfl, f', rfl, hf'⟩ := hw
  have hP := hP.sub (ws' := wL h0 h1 h2 k0 k1 k2 k3 k4 k5 k6 o cI cL f' g L ca ca ow sl gl F th mn va ki ra v) [8, 9, 10, 0, 1, 2, 3, 4, 5, 6, 7] rfl
  have hD := hD.sub (ws' := wL h0 h1 h2 k0 k1 k2 k3 k4 k5 k6 o cI cL f' g L ca ca ow sl gl F th mn va ki ra v) [8, 9, 10, 0, 1, 2, 3, 4, 5, 6, 7] (by decide) rfl
  refine lv_aload_n hx hb dL_law_700 rfl (lv_at hl 2 rfl) ?_
  refine cVi (wr := (wX h0 h1 h2 cI f' g (nI L) ca ++ [(o, .inl (cL, 1, .inr (.inl v)))])) (As := []) (rest := [.int (nI ((dd (nz (rw_ f L))).length))]) ⟨hx, hb, hml, hown, hts⟩ (pX1_renew l D k0 k1 k2 k3 k4 k5 k6 cI th F ca ow sl gl mn va ki ra hF hRel.2.2.1 (fun t ht => hRel.2.2.2.2 _ (row_sl hRel.2.2.1 ht)) (fun t ht => hRel.2.2.2.2 _ (row_gl ht))) (cwV 0 hts gL_law_X1_renew rfl rfl rfl (by decide +kernel) ⟨(Nat.le_of_ble_eq_true rfl), (Nat.le_of_ble_eq_true rfl)⟩) hKI hP hD hS hA [3, 4, 5, 6, 7, 8, 9] [0, 1, 2, 10] rfl rfl (by decide) (by decide) (by decide) 0 rfl rfl rfl hl.1 rfl (Nat.le_of_ble_eq_true rfl) dL_law_701 ⟨(Nat.le_trans (Nat.le_add_right cs 4) hcs), (Nat.le_trans (Nat.le_add_right ss 24) hss)⟩ (fun rb u H locs hw hP hD hS => ?_)
  obtain ⟨rfl, mn', va', ki', ra', rfl⟩ := hw
  have hP := hP.sub (ws' := wL h0 h1 h2 k0 k1 k2 k3 k4 k5 k6 o cI cL f' g L ca ca ow (fun t => if t < 8 * F then rk (dd (ps (rowL ow sl gl F))) (sl t) else sl t) (fun t => if t < 16 then rk (dd (ps (rowL ow sl gl F))) (gl t) else gl t) F (nI 0) mn' va' ki' ra' v) [0, 1, 2, 4, 5, 6, 7, 8, 9, 10, 3] rfl
  have hD := hD.sub (ws' := wL h0 h1 h2 k0 k1 k2 k3 k4 k5 k6 o cI cL f' g L ca ca ow (fun t => if t < 8 * F then rk (dd (ps (rowL ow sl gl F))) (sl t) else sl t) (fun t => if t < 16 then rk (dd (ps (rowL ow sl gl F))) (gl t) else gl t) F (nI 0) mn' va' ki' ra' v) [0, 1, 2, 4, 5, 6, 7, 8, 9, 10, 3] (by decide) rfl
  refine lv_icmp_eq (tgt := 765) hx hb dL_law_704 (by decide) (fun c7 => ?_) (fun c7 => ?_)
  · skip
    refine W.widen (k := cs + 4) (n := ss + 24) (by show cs + 0 + 0 ≤ cs + 4; omega) (by show ss + 0 + 0 ≤ ss + 24; omega) ?_
    exact kk f' g L ca ow (fun t => if t < 8 * F then rk (dd (ps (rowL ow sl gl F))) (sl t) else sl t) (fun t => if t < 16 then rk (dd (ps (rowL ow sl gl F))) (gl t) else gl t) F (nI 0) mn' va' ki' ra' v _ _ _ (hRel.renew hf') hP hD hS (lv_sub (l' := [(0, .ref b), (1, .ref h0), (2, .ref k0), (3, .ref o), (4, .int (nI (4 * j)))]) hl [0, 1, 2, 3, 4] rfl)
  · skip
    exact absurd (by rw [hRel.eps]) c7
