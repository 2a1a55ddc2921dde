set_option maxHeartbeats 4000000 in
set_option maxRecDepth 100000 in
theorem law_call {p : Program} {l : Launch} {e : Env} {s : State} {m : MethodId} {below : List Frame} {meth : Method} {c : Code} {D : va_G} {b Ls : Nat} {xs : Nat → Int32} (hL : Ls ≤ 2048) (C0 : lw_At p s m meth c b Ls xs) (htr : l.stackTraces = false) {cI cL : ClassId} (hK : va_K D kC (tIL cI cL) s) (hZ : kZ (fun q : Nat => s.heap.size ≤ q) s s.heap) {h0 h1 h2 k0 k1 k2 k3 k4 k5 k6 o : Nat} {f g : Nat → Int32} {L : Nat} {ca : Int32} {ow sl gl : Nat → Int32} {F : Nat} {th mn : Int32} {va ki ra : Nat → Int32} {v : Nat → Int64} {j : Nat} (hj : 4 * j + 4 ≤ Ls) (hRel : Rel f g L ow sl gl F) {H : Heap} {locs : List Loc} {ls : Array Slot} (hP : va_P D kC (wL h0 h1 h2 k0 k1 k2 k3 k4 k5 k6 o cI cL f g L ca ca ow sl gl F th mn va ki ra v) H) (hD : va_D (fun q : Nat => s.heap.size ≤ q) (wL h0 h1 h2 k0 k1 k2 k3 k4 k5 k6 o cI cL f g L ca ca ow sl gl F th mn va ki ra v)) (hS : va_S (fun q : Nat => s.heap.size ≤ q) s.heap H locs) (hl : lv_has ls 7 [(0, .ref b), (1, .ref h0), (2, .ref k0), (3, .ref o), (4, .int (nI (4 * j)))]) {cs ss : Nat} (hcs : cs + 4 ≤ 601024) (hss : ss + 24 ≤ 7293033)
    (kk : ∀ (f g : Nat → Int32) (L : Nat) (ca : Int32) (ow sl gl : Nat → Int32) (F : Nat) (th mn : Int32) (va ki ra : Nat → Int32) (v : Nat → Int64) (H : Heap) (locs : List Loc) (ls : Array Slot), Rel f g L ow sl gl F → va_P D kC (wL h0 h1 h2 k0 k1 k2 k3 k4 k5 k6 o cI cL f g L ca ca ow sl gl F th mn va ki ra v) H → va_D (fun q : Nat => s.heap.size ≤ q) (wL h0 h1 h2 k0 k1 k2 k3 k4 k5 k6 o cI cL f g L ca ca ow sl gl F th mn va ki ra v) → va_S (fun q : Nat => s.heap.size ≤ q) s.heap H locs → lv_has ls 7 [(0, .ref b), (1, .ref h0), (2, .ref k0), (3, .ref o), (4, .int (nI (4 * j)))] → W p l e room_1 s m #[Value.ref b] below meth c H locs (cs + 4) (ss + 24) (lw_Z below #[Value.ref b] s) (F0 m 765 ls [])) : W p l e room_1 s m #[Value.ref b] below meth c H locs cs ss (lw_Z below #[Value.ref b] s) (F0 m 96 ls []) := by
  obtain ⟨hx, hb0, hr, hml, hown0, hts0, hX, hbl, hlocks, hgv⟩ := C0
  have hb : c.code = cL_law := hb0
  have hown : s.vm.findClass RL = some m.cls := hown0
  have hts : ∀ w ∈ wsL_law, w.before #[Value.ref b] s = true := fun w h => hts0 w (wsL_law_in w h)
  have hA : ∀ q : Nat, s.heap.size ≤ q → (fun q : Nat => s.heap.size ≤ q) q := fun _ h => h
  have hbA : ¬ (fun q : Nat => s.heap.size ≤ q) b := Nat.not_le.mpr hbl
  have hKI : va_K D kC (tI cI) s := hK.sub [0] rfl
  have hF := hRel.hF
  have hL2 := hRel.hL2
  obtain ⟨x1, hx1⟩ : ∃ z, z = xs (4 * j + 1) := ⟨_, rfl⟩
  refine lv_aload_n hx hb dL_law_96 rfl (lv_at hl 1 rfl) ?_
  refine lv_aload_n hx hb dL_law_97 rfl (lv_at hl 0 rfl) ?_
  refine lv_iload hx hb dL_law_98 (lv_at hl 4 rfl) ?_
  refine lv_iconst (v := nI 1) hx hb dL_law_100 (by decide) ?_
  refine kAdd hx hb dL_law_101 ?_
  refine va_sld hx hb hX hbl hbA hS (vp_in_nI (n := 4 * j + 1) (by omega) (by omega)) dL_law_102 ?_
  refine kTop (v' := x1) (by rw [nI_clamp (by omega)]; exact hx1.symm) ?_
  refine lv_aload_n hx hb dL_law_103 rfl (lv_at hl 3 rfl) ?_
  refine tSi (wr := (wM k0 k1 k2 k3 k4 k5 k6 cI th (nI F) ca ow sl gl mn va ki ra)) (As := [.ref h0, .int x1, .ref o]) (rest := []) ⟨hx, hb, hml, hown, hts⟩ (pL_call l htr D h0 h1 h2 o cI cL f g L ca v (cnts ow F) hRel.1 hRel.2.1 x1) (vx_cwSW 3 hts gL_law_L_call rfl rfl rfl (by decide +kernel) ⟨(Nat.le_of_ble_eq_true rfl), (Nat.le_of_ble_eq_true rfl)⟩) hK hP hD hS hA hZ [0, 1, 2, 10] [3, 4, 5, 6, 7, 8, 9] rfl rfl (by decide) (by decide) (by decide) rfl hl.1 rfl (Nat.le_of_ble_eq_true rfl) dL_law_104 ⟨hcs, hss⟩ (fun r u H locs hw hP hD hS => ?_)
  skip
  rcases hw with ⟨r9, u9, hp, rfl, rfl⟩ | ⟨u9, hp, rfl, rfl⟩ | ⟨u9, hp, rfl, rfl⟩
  · skip
    obtain ⟨mu, hmu, rfl, hlt, rfl, f', rfl, hf'⟩ := hp
    have hP := hP.sub (ws' := wL h0 h1 h2 k0 k1 k2 k3 k4 k5 k6 o cI cL f' (upd g mu (nI (cnts ow F mu + 1))) (L + 8) (ca + nI 1) ca ow sl gl F th mn va ki ra (vp_updL v 0 (nI (cnts ow F mu + 1)).toInt64)) [8, 9, 10, 0, 1, 2, 3, 4, 5, 6, 7] rfl
    have hD := hD.sub (ws' := wL h0 h1 h2 k0 k1 k2 k3 k4 k5 k6 o cI cL f' (upd g mu (nI (cnts ow F mu + 1))) (L + 8) (ca + nI 1) ca ow sl gl F th mn va ki ra (vp_updL v 0 (nI (cnts ow F mu + 1)).toInt64)) [8, 9, 10, 0, 1, 2, 3, 4, 5, 6, 7] (by decide) rfl
    refine lv_istore (lv' := [(5, .int (nI 0)), (0, .ref b), (1, .ref h0), (2, .ref k0), (3, .ref o), (4, .int (nI (4 * j)))]) hx hb dL_law_107 hl (by decide) rfl (fun ls hl => ?_)
    refine lv_aload_n hx hb dL_law_109 rfl (lv_at hl 3 rfl) ?_
    refine lv_aload_n hx hb dL_law_110 rfl (lv_at hl 1 rfl) ?_
    refine lv_iload hx hb dL_law_111 (lv_at hl 5 rfl) ?_
    refine lv_iconst (v := nI 1) hx hb dL_law_113 (by decide) ?_
    refine kAdd hx hb dL_law_114 ?_
    refine va_sld hx hb hX hbl hbA hS (vp_in_nI (n := 4 * j + 1) (by omega) (by omega)) dL_law_115 ?_
    refine kTop (v' := nI mu) (by rw [nI_clamp (by omega)]; exact hx1.symm) ?_
    refine cVi (wr := (wX h0 h1 h2 cI f' (upd g mu (nI (cnts ow F mu + 1))) (nI (L + 8)) (ca + nI 1) ++ [(o, .inl (cL, 1, .inr (.inl (vp_updL v 0 (nI (cnts ow F mu + 1)).toInt64))))])) (As := [.int (nI mu)]) (rest := []) ⟨hx, hb, hml, hown, hts⟩ (pX1_call l D k0 k1 k2 k3 k4 k5 k6 cI th F ca ow sl gl mn va ki ra hF (nI mu) (fun h1 h2 => hRel.hF1 h1 h2)) (cwV 1 hts gL_law_X1_call rfl rfl rfl (by decide +kernel) ⟨(Nat.le_of_ble_eq_true rfl), (Nat.le_of_ble_eq_true rfl)⟩) hKI hP hD hS hA [3, 4, 5, 6, 7, 8, 9] [0, 1, 2, 10] rfl rfl (by decide) (by decide) (by decide) 0 rfl rfl rfl hl.1 rfl (Nat.le_of_ble_eq_true rfl) dL_law_116 ⟨hcs, hss⟩ (fun rb u H locs hw hP hD hS => ?_)
    skip
    rcases hw with ⟨-, -, rfl, rfl⟩ | ⟨h9, -⟩ | ⟨-, h9, -⟩
    · skip
      have hP := hP.sub (ws' := wL h0 h1 h2 k0 k1 k2 k3 k4 k5 k6 o cI cL f' (upd g mu (nI (cnts ow F mu + 1))) (L + 8) (ca + nI 1) (ca + nI 1) (upd ow F (nI mu)) (fun t => if 8 * F ≤ t ∧ t < 8 * F + 8 then nI 0 else sl t) gl (F + 1) (nI 0) mn va ki ra (vp_updL v 0 (nI (cnts ow F mu + 1)).toInt64)) [0, 1, 2, 4, 5, 6, 7, 8, 9, 10, 3] rfl
      have hD := hD.sub (ws' := wL h0 h1 h2 k0 k1 k2 k3 k4 k5 k6 o cI cL f' (upd g mu (nI (cnts ow F mu + 1))) (L + 8) (ca + nI 1) (ca + nI 1) (upd ow F (nI mu)) (fun t => if 8 * F ≤ t ∧ t < 8 * F + 8 then nI 0 else sl t) gl (F + 1) (nI 0) mn va ki ra (vp_updL v 0 (nI (cnts ow F mu + 1)).toInt64)) [0, 1, 2, 4, 5, 6, 7, 8, 9, 10, 3] (by decide) rfl
      refine lv_istore (lv' := [(6, .int (nI ((rw_ ow F).count (nI mu) + 1))), (5, .int (nI 0)), (0, .ref b), (1, .ref h0), (2, .ref k0), (3, .ref o), (4, .int (nI (4 * j)))]) hx hb dL_law_119 hl (by decide) rfl (fun ls hl => ?_)
      refine lv_aload_n hx hb dL_law_121 rfl (lv_at hl 4 rfl) ?_
      refine cVi (wr := (wX h0 h1 h2 cI f' (upd g mu (nI (cnts ow F mu + 1))) (nI (L + 8)) (ca + nI 1) ++ [(o, .inl (cL, 1, .inr (.inl (vp_updL v 0 (nI (cnts ow F mu + 1)).toInt64))))])) (As := []) (rest := []) ⟨hx, hb, hml, hown, hts⟩ (pX1_thrown l D k0 k1 k2 k3 k4 k5 k6 cI (nI 0) (F + 1) (ca + nI 1) (upd ow F (nI mu)) (fun t => if 8 * F ≤ t ∧ t < 8 * F + 8 then nI 0 else sl t) gl mn va ki ra) (cwV 0 hts gL_law_X1_thrown rfl rfl rfl (by decide +kernel) ⟨(Nat.le_of_ble_eq_true rfl), (Nat.le_of_ble_eq_true rfl)⟩) hKI hP hD hS hA [3, 4, 5, 6, 7, 8, 9] [0, 1, 2, 10] rfl rfl (by decide) (by decide) (by decide) 0 rfl rfl rfl hl.1 rfl (Nat.le_of_ble_eq_true rfl) dL_law_122 ⟨hcs, hss⟩ (fun r u H locs hw hP hD hS => ?_)
      obtain ⟨rfl, rfl⟩ := hw
      have hP := hP.sub (ws' := wL h0 h1 h2 k0 k1 k2 k3 k4 k5 k6 o cI cL f' (upd g mu (nI (cnts ow F mu + 1))) (L + 8) (ca + nI 1) (ca + nI 1) (upd ow F (nI mu)) (fun t => if 8 * F ≤ t ∧ t < 8 * F + 8 then nI 0 else sl t) gl (F + 1) (nI 0) mn va ki ra (vp_updL v 0 (nI (cnts ow F mu + 1)).toInt64)) [0, 1, 2, 4, 5, 6, 7, 8, 9, 10, 3] rfl
      have hD := hD.sub (ws' := wL h0 h1 h2 k0 k1 k2 k3 k4 k5 k6 o cI cL f' (upd g mu (nI (cnts ow F mu + 1))) (L + 8) (ca + nI 1) (ca + nI 1) (upd ow F (nI mu)) (fun t => if 8 * F ≤ t ∧ t < 8 * F + 8 then nI 0 else sl t) gl (F + 1) (nI 0) mn va ki ra (vp_updL v 0 (nI (cnts ow F mu + 1)).toInt64)) [0, 1, 2, 4, 5, 6, 7, 8, 9, 10, 3] (by decide) rfl
      refine lv_iload hx hb dL_law_125 (lv_at hl 1 rfl) ?_
      refine lv_icmp_eq (tgt := 132) hx hb dL_law_127 (by decide) (fun c7 => ?_) (fun c7 => ?_)
      · skip
        refine lv_iload hx hb dL_law_132 (lv_at hl 1 rfl) ?_
        refine kNe0 (a := 0) (by omega) (tgt := 149) hx hb dL_law_134 (by decide) (fun c8 => ?_) (fun c8 => ?_)
        · skip
          exact absurd c8 (by decide)
        · skip
          refine lv_aload_n hx hb dL_law_137 rfl (lv_at hl 5 rfl) ?_
          refine lv_iconst (v := nI 0) hx hb dL_law_138 (by decide) ?_
          refine va_lald hx hb hK hP 10 1 rfl rfl (vp_in_nI (n := 0) (by decide) (by decide)) dL_law_139 ?_
          refine lv_iload hx hb dL_law_140 (lv_at hl 0 rfl) ?_
          refine lv_i2l hx hb dL_law_142 rfl ?_
          refine W.lcmp hx hb dL_law_143 ?_
          refine kTop (v' := nI 0) (lg_eq (pk_uLs.trans (congrArg Int32.toInt64 rfl))) ?_
          refine kEq0 (a := 0) (by omega) (tgt := 149) hx hb dL_law_144 (by decide) (fun c9 => ?_) (fun c9 => ?_)
          · skip
            refine lv_goto (tgt := 765) hx hb dL_law_149 (by decide) ?_
            exact kk f' (upd g mu (nI (cnts ow F mu + 1))) (L + 8) (ca + nI 1) (upd ow F (nI mu)) (fun t => if 8 * F ≤ t ∧ t < 8 * F + 8 then nI 0 else sl t) gl (F + 1) (nI 0) mn va ki ra (vp_updL v 0 (nI (cnts ow F mu + 1)).toInt64) _ _ _ (hRel.call hmu hlt hf') hP hD hS (lv_sub (l' := [(0, .ref b), (1, .ref h0), (2, .ref k0), (3, .ref o), (4, .int (nI (4 * j)))]) hl [2, 3, 4, 5, 6] rfl)
          · skip
            exact absurd c9 (by decide)
      · skip
        exact absurd rfl c7
    · skip
      exact absurd ⟨mu, hmu, rfl⟩ h9
    · skip
      exact absurd hlt (Nat.not_lt.mpr h9)
  · skip
    obtain ⟨rfl, ⟨-, hp⟩ | ⟨h9, -⟩⟩ := hp
    · skip
      have hP := hP.sub (ws' := wL h0 h1 h2 k0 k1 k2 k3 k4 k5 k6 o cI cL f g L ca ca ow sl gl F th mn va ki ra v) [8, 9, 10, 0, 1, 2, 3, 4, 5, 6, 7] rfl
      have hD := hD.sub (ws' := wL h0 h1 h2 k0 k1 k2 k3 k4 k5 k6 o cI cL f g L ca ca ow sl gl F th mn va ki ra v) [8, 9, 10, 0, 1, 2, 3, 4, 5, 6, 7] (by decide) rfl
      refine lv_istore (lv' := [(5, .int (nI 1)), (0, .ref b), (1, .ref h0), (2, .ref k0), (3, .ref o), (4, .int (nI (4 * j)))]) hx hb dL_law_107 hl (by decide) rfl (fun ls hl => ?_)
      refine lv_aload_n hx hb dL_law_109 rfl (lv_at hl 3 rfl) ?_
      refine lv_aload_n hx hb dL_law_110 rfl (lv_at hl 1 rfl) ?_
      refine lv_iload hx hb dL_law_111 (lv_at hl 5 rfl) ?_
      refine lv_iconst (v := nI 1) hx hb dL_law_113 (by decide) ?_
      refine kAdd hx hb dL_law_114 ?_
      refine va_sld hx hb hX hbl hbA hS (vp_in_nI (n := 4 * j + 1) (by omega) (by omega)) dL_law_115 ?_
      refine kTop (v' := x1) (by rw [nI_clamp (by omega)]; exact hx1.symm) ?_
      refine cVi (wr := (wX h0 h1 h2 cI f g (nI L) ca ++ [(o, .inl (cL, 1, .inr (.inl v)))])) (As := [.int x1]) (rest := []) ⟨hx, hb, hml, hown, hts⟩ (pX1_call l D k0 k1 k2 k3 k4 k5 k6 cI th F ca ow sl gl mn va ki ra hF x1 (fun h1 h2 => hRel.hF1 h1 h2)) (cwV 1 hts gL_law_X1_call rfl rfl rfl (by decide +kernel) ⟨(Nat.le_of_ble_eq_true rfl), (Nat.le_of_ble_eq_true rfl)⟩) hKI hP hD hS hA [3, 4, 5, 6, 7, 8, 9] [0, 1, 2, 10] rfl rfl (by decide) (by decide) (by decide) 0 rfl rfl rfl hl.1 rfl (Nat.le_of_ble_eq_true rfl) dL_law_116 ⟨hcs, hss⟩ (fun rb u H locs hw hP hD hS => ?_)
      skip
      rcases hw with ⟨h9, -, -, -⟩ | ⟨-, rfl⟩ | ⟨h9, -, -⟩
      · skip
        exact absurd h9 hp
      · skip
        have hP := hP.sub (ws' := wL h0 h1 h2 k0 k1 k2 k3 k4 k5 k6 o cI cL f g L ca ca ow sl gl F (nI 1) mn va ki ra v) [0, 1, 2, 4, 5, 6, 7, 8, 9, 10, 3] rfl
        have hD := hD.sub (ws' := wL h0 h1 h2 k0 k1 k2 k3 k4 k5 k6 o cI cL f g L ca ca ow sl gl F (nI 1) mn va ki ra v) [0, 1, 2, 4, 5, 6, 7, 8, 9, 10, 3] (by decide) rfl
        refine lv_istore (lv' := [(6, .int rb), (5, .int (nI 1)), (0, .ref b), (1, .ref h0), (2, .ref k0), (3, .ref o), (4, .int (nI (4 * j)))]) hx hb dL_law_119 hl (by decide) rfl (fun ls hl => ?_)
        refine lv_aload_n hx hb dL_law_121 rfl (lv_at hl 4 rfl) ?_
        refine cVi (wr := (wX h0 h1 h2 cI f g (nI L) ca ++ [(o, .inl (cL, 1, .inr (.inl v)))])) (As := []) (rest := []) ⟨hx, hb, hml, hown, hts⟩ (pX1_thrown l D k0 k1 k2 k3 k4 k5 k6 cI (nI 1) F ca ow sl gl mn va ki ra) (cwV 0 hts gL_law_X1_thrown rfl rfl rfl (by decide +kernel) ⟨(Nat.le_of_ble_eq_true rfl), (Nat.le_of_ble_eq_true rfl)⟩) hKI hP hD hS hA [3, 4, 5, 6, 7, 8, 9] [0, 1, 2, 10] rfl rfl (by decide) (by decide) (by decide) 0 rfl rfl rfl hl.1 rfl (Nat.le_of_ble_eq_true rfl) dL_law_122 ⟨hcs, hss⟩ (fun r u H locs hw hP hD hS => ?_)
        obtain ⟨rfl, rfl⟩ := hw
        have hP := hP.sub (ws' := wL h0 h1 h2 k0 k1 k2 k3 k4 k5 k6 o cI cL f g L ca ca ow sl gl F (nI 1) mn va ki ra v) [0, 1, 2, 4, 5, 6, 7, 8, 9, 10, 3] rfl
        have hD := hD.sub (ws' := wL h0 h1 h2 k0 k1 k2 k3 k4 k5 k6 o cI cL f g L ca ca ow sl gl F (nI 1) mn va ki ra v) [0, 1, 2, 4, 5, 6, 7, 8, 9, 10, 3] (by decide) rfl
        refine lv_iload hx hb dL_law_125 (lv_at hl 1 rfl) ?_
        refine lv_icmp_eq (tgt := 132) hx hb dL_law_127 (by decide) (fun c7 => ?_) (fun c7 => ?_)
        · skip
          refine lv_iload hx hb dL_law_132 (lv_at hl 1 rfl) ?_
          refine kNe0 (a := 1) (by omega) (tgt := 149) hx hb dL_law_134 (by decide) (fun c8 => ?_) (fun c8 => ?_)
          · skip
            refine lv_goto (tgt := 765) hx hb dL_law_149 (by decide) ?_
            exact kk f g L ca ow sl gl F (nI 1) mn va ki ra v _ _ _ hRel hP hD hS (lv_sub (l' := [(0, .ref b), (1, .ref h0), (2, .ref k0), (3, .ref o), (4, .int (nI (4 * j)))]) hl [2, 3, 4, 5, 6] rfl)
          · skip
            exact absurd c8 (by decide)
        · skip
          exact absurd rfl c7
      · skip
        exact absurd h9 hp
    · skip
      exact absurd h9 (by decide)
  · skip
    obtain ⟨rfl, ⟨h9, -⟩ | ⟨-, mu, hmu, rfl, h64⟩⟩ := hp
    · skip
      exact absurd h9 (by decide)
    · skip
      have hP := hP.sub (ws' := wL h0 h1 h2 k0 k1 k2 k3 k4 k5 k6 o cI cL f g L ca ca ow sl gl F th mn va ki ra v) [8, 9, 10, 0, 1, 2, 3, 4, 5, 6, 7] rfl
      have hD := hD.sub (ws' := wL h0 h1 h2 k0 k1 k2 k3 k4 k5 k6 o cI cL f g L ca ca ow sl gl F th mn va ki ra v) [8, 9, 10, 0, 1, 2, 3, 4, 5, 6, 7] (by decide) rfl
      refine lv_istore (lv' := [(5, .int (nI 2)), (0, .ref b), (1, .ref h0), (2, .ref k0), (3, .ref o), (4, .int (nI (4 * j)))]) hx hb dL_law_107 hl (by decide) rfl (fun ls hl => ?_)
      refine lv_aload_n hx hb dL_law_109 rfl (lv_at hl 3 rfl) ?_
      refine lv_aload_n hx hb dL_law_110 rfl (lv_at hl 1 rfl) ?_
      refine lv_iload hx hb dL_law_111 (lv_at hl 5 rfl) ?_
      refine lv_iconst (v := nI 1) hx hb dL_law_113 (by decide) ?_
      refine kAdd hx hb dL_law_114 ?_
      refine va_sld hx hb hX hbl hbA hS (vp_in_nI (n := 4 * j + 1) (by omega) (by omega)) dL_law_115 ?_
      refine kTop (v' := nI mu) (by rw [nI_clamp (by omega)]; exact hx1.symm) ?_
      refine cVi (wr := (wX h0 h1 h2 cI f g (nI L) ca ++ [(o, .inl (cL, 1, .inr (.inl v)))])) (As := [.int (nI mu)]) (rest := []) ⟨hx, hb, hml, hown, hts⟩ (pX1_call l D k0 k1 k2 k3 k4 k5 k6 cI th F ca ow sl gl mn va ki ra hF (nI mu) (fun h1 h2 => hRel.hF1 h1 h2)) (cwV 1 hts gL_law_X1_call rfl rfl rfl (by decide +kernel) ⟨(Nat.le_of_ble_eq_true rfl), (Nat.le_of_ble_eq_true rfl)⟩) hKI hP hD hS hA [3, 4, 5, 6, 7, 8, 9] [0, 1, 2, 10] rfl rfl (by decide) (by decide) (by decide) 0 rfl rfl rfl hl.1 rfl (Nat.le_of_ble_eq_true rfl) dL_law_116 ⟨hcs, hss⟩ (fun rb u H locs hw hP hD hS => ?_)
      skip
      rcases hw with ⟨-, h9, -, -⟩ | ⟨h9, -⟩ | ⟨-, -, rfl⟩
      · skip
        exact absurd h64 (Nat.ne_of_lt h9)
      · skip
        exact absurd ⟨mu, hmu, rfl⟩ h9
      · skip
        have hP := hP.sub (ws' := wL h0 h1 h2 k0 k1 k2 k3 k4 k5 k6 o cI cL f g L ca ca ow sl gl F (nI 2) mn va ki ra v) [0, 1, 2, 4, 5, 6, 7, 8, 9, 10, 3] rfl
        have hD := hD.sub (ws' := wL h0 h1 h2 k0 k1 k2 k3 k4 k5 k6 o cI cL f g L ca ca ow sl gl F (nI 2) mn va ki ra v) [0, 1, 2, 4, 5, 6, 7, 8, 9, 10, 3] (by decide) rfl
        refine lv_istore (lv' := [(6, .int rb), (5, .int (nI 2)), (0, .ref b), (1, .ref h0), (2, .ref k0), (3, .ref o), (4, .int (nI (4 * j)))]) hx hb dL_law_119 hl (by decide) rfl (fun ls hl => ?_)
        refine lv_aload_n hx hb dL_law_121 rfl (lv_at hl 4 rfl) ?_
        refine cVi (wr := (wX h0 h1 h2 cI f g (nI L) ca ++ [(o, .inl (cL, 1, .inr (.inl v)))])) (As := []) (rest := []) ⟨hx, hb, hml, hown, hts⟩ (pX1_thrown l D k0 k1 k2 k3 k4 k5 k6 cI (nI 2) F ca ow sl gl mn va ki ra) (cwV 0 hts gL_law_X1_thrown rfl rfl rfl (by decide +kernel) ⟨(Nat.le_of_ble_eq_true rfl), (Nat.le_of_ble_eq_true rfl)⟩) hKI hP hD hS hA [3, 4, 5, 6, 7, 8, 9] [0, 1, 2, 10] rfl rfl (by decide) (by decide) (by decide) 0 rfl rfl rfl hl.1 rfl (Nat.le_of_ble_eq_true rfl) dL_law_122 ⟨hcs, hss⟩ (fun r u H locs hw hP hD hS => ?_)
        obtain ⟨rfl, rfl⟩ := hw
        have hP := hP.sub (ws' := wL h0 h1 h2 k0 k1 k2 k3 k4 k5 k6 o cI cL f g L ca ca ow sl gl F (nI 2) mn va ki ra v) [0, 1, 2, 4, 5, 6, 7, 8, 9, 10, 3] rfl
        have hD := hD.sub (ws' := wL h0 h1 h2 k0 k1 k2 k3 k4 k5 k6 o cI cL f g L ca ca ow sl gl F (nI 2) mn va ki ra v) [0, 1, 2, 4, 5, 6, 7, 8, 9, 10, 3] (by decide) rfl
        refine lv_iload hx hb dL_law_125 (lv_at hl 1 rfl) ?_
        refine lv_icmp_eq (tgt := 132) hx hb dL_law_127 (by decide) (fun c7 => ?_) (fun c7 => ?_)
        · skip
          refine lv_iload hx hb dL_law_132 (lv_at hl 1 rfl) ?_
          refine kNe0 (a := 2) (by omega) (tgt := 149) hx hb dL_law_134 (by decide) (fun c8 => ?_) (fun c8 => ?_)
          · skip
            refine lv_goto (tgt := 765) hx hb dL_law_149 (by decide) ?_
            exact kk f g L ca ow sl gl F (nI 2) mn va ki ra v _ _ _ hRel hP hD hS (lv_sub (l' := [(0, .ref b), (1, .ref h0), (2, .ref k0), (3, .ref o), (4, .int (nI (4 * j)))]) hl [2, 3, 4, 5, 6] rfl)
          · skip
            exact absurd c8 (by decide)
        · skip
          exact absurd rfl c7

set_option maxHeartbeats 4000000 in
set_option maxRecDepth 100000 in
theorem law_leave {p : Program} {l : Launch} {e : Env} {s : State} {m : MethodId} {below : List Frame} {meth : Method} {c : Code} {D : va_G} {b Ls : Nat} {xs : Nat → Int32} (hL : Ls ≤ 2048) (C0 : lw_At p s m meth c b Ls xs) (htr : l.stackTraces = false) {cI cL : ClassId} (hK : va_K D kC (tIL cI cL) s) (hZ : kZ (fun q : Nat => s.heap.size ≤ q) s s.heap) {h0 h1 h2 k0 k1 k2 k3 k4 k5 k6 o : Nat} {f g : Nat → Int32} {L : Nat} {ca : Int32} {ow sl gl : Nat → Int32} {F : Nat} {th mn : Int32} {va ki ra : Nat → Int32} {v : Nat → Int64} {j : Nat} (hj : 4 * j + 4 ≤ Ls) (hRel : Rel f g L ow sl gl F) {H : Heap} {locs : List Loc} {ls : Array Slot} (hP : va_P D kC (wL h0 h1 h2 k0 k1 k2 k3 k4 k5 k6 o cI cL f g L ca ca ow sl gl F th mn va ki ra v) H) (hD : va_D (fun q : Nat => s.heap.size ≤ q) (wL h0 h1 h2 k0 k1 k2 k3 k4 k5 k6 o cI cL f g L ca ca ow sl gl F th mn va ki ra v)) (hS : va_S (fun q : Nat => s.heap.size ≤ q) s.heap H locs) (hl : lv_has ls 7 [(0, .ref b), (1, .ref h0), (2, .ref k0), (3, .ref o), (4, .int (nI (4 * j)))]) {cs ss : Nat} (hcs : cs + 4 ≤ 601024) (hss : ss + 24 ≤ 7293033)
    (kk : ∀ (f g : Nat → Int32) (L : Nat) (ca : Int32) (ow sl gl : Nat → Int32) (F : Nat) (th mn : Int32) (va ki ra : Nat → Int32) (v : Nat → Int64) (H : Heap) (locs : List Loc) (ls : Array Slot), Rel f g L ow sl gl F → va_P D kC (wL h0 h1 h2 k0 k1 k2 k3 k4 k5 k6 o cI cL f g L ca ca ow sl gl F th mn va ki ra v) H → va_D (fun q : Nat => s.heap.size ≤ q) (wL h0 h1 h2 k0 k1 k2 k3 k4 k5 k6 o cI cL f g L ca ca ow sl gl F th mn va ki ra v) → va_S (fun q : Nat => s.heap.size ≤ q) s.heap H locs → lv_has ls 7 [(0, .ref b), (1, .ref h0), (2, .ref k0), (3, .ref o), (4, .int (nI (4 * j)))] → W p l e room_1 s m #[Value.ref b] below meth c H locs (cs + 4) (ss + 24) (lw_Z below #[Value.ref b] s) (F0 m 765 ls [])) : W p l e room_1 s m #[Value.ref b] below meth c H locs cs ss (lw_Z below #[Value.ref b] s) (F0 m 152 ls []) := by
  obtain ⟨hx, hb0, hr, hml, hown0, hts0, hX, hbl, hlocks, hgv⟩ := C0
  have hb : c.code = cL_law := hb0
  have hown : s.vm.findClass RL = some m.cls := hown0
  have hts : ∀ w ∈ wsL_law, w.before #[Value.ref b] s = true := fun w h => hts0 w (wsL_law_in w h)
  have hA : ∀ q : Nat, s.heap.size ≤ q → (fun q : Nat => s.heap.size ≤ q) q := fun _ h => h
  have hbA : ¬ (fun q : Nat => s.heap.size ≤ q) b := Nat.not_le.mpr hbl
  have hKI : va_K D kC (tI cI) s := hK.sub [0] rfl
  have hF := hRel.hF
  have hL2 := hRel.hL2
  obtain ⟨x1, hx1⟩ : ∃ z, z = xs (4 * j + 1) := ⟨_, rfl⟩
  obtain ⟨x2, hx2⟩ : ∃ z, z = xs (4 * j + 2) := ⟨_, rfl⟩
  refine lv_aload_n hx hb dL_law_152 rfl (lv_at hl 1 rfl) ?_
  refine lv_aload_n hx hb dL_law_153 rfl (lv_at hl 0 rfl) ?_
  refine lv_iload hx hb dL_law_154 (lv_at hl 4 rfl) ?_
  refine lv_iconst (v := nI 1) hx hb dL_law_156 (by decide) ?_
  refine kAdd hx hb dL_law_157 ?_
  refine va_sld hx hb hX hbl hbA hS (vp_in_nI (n := 4 * j + 1) (by omega) (by omega)) dL_law_158 ?_
  refine kTop (v' := x1) (by rw [nI_clamp (by omega)]; exact hx1.symm) ?_
  refine lv_aload_n hx hb dL_law_159 rfl (lv_at hl 0 rfl) ?_
  refine lv_iload hx hb dL_law_160 (lv_at hl 4 rfl) ?_
  refine lv_iconst (v := nI 2) hx hb dL_law_162 (by decide) ?_
  refine kAdd hx hb dL_law_163 ?_
  refine va_sld hx hb hX hbl hbA hS (vp_in_nI (n := 4 * j + 2) (by omega) (by omega)) dL_law_164 ?_
  refine kTop (v' := x2) (by rw [nI_clamp (by omega)]; exact hx2.symm) ?_
  refine lv_aload_n hx hb dL_law_165 rfl (lv_at hl 3 rfl) ?_
  refine tSi (wr := (wM k0 k1 k2 k3 k4 k5 k6 cI th (nI F) ca ow sl gl mn va ki ra)) (As := [.ref h0, .int x1, .int x2, .ref o]) (rest := []) ⟨hx, hb, hml, hown, hts⟩ (pL_leave l htr D h0 h1 h2 o cI cL f g L ca v (cnts ow F) hRel.1 hRel.2.1 x1 x2) (vx_cwSW 4 hts gL_law_L_leave rfl rfl rfl (by decide +kernel) ⟨(Nat.le_of_ble_eq_true rfl), (Nat.le_of_ble_eq_true rfl)⟩) hK hP hD hS hA hZ [0, 1, 2, 10] [3, 4, 5, 6, 7, 8, 9] rfl rfl (by decide) (by decide) (by decide) rfl hl.1 rfl (Nat.le_of_ble_eq_true rfl) dL_law_166 ⟨hcs, hss⟩ (fun r u H locs hw hP hD hS => ?_)
  skip
  rcases hw with ⟨r9, u9, hp, rfl, rfl⟩ | ⟨u9, hp, rfl, rfl⟩ | ⟨u9, hp, rfl, rfl⟩
  · skip
    obtain ⟨mu, s9, hmu, hs9, rfl, rfl, hlt, rfl, f', rfl, hf'⟩ := hp
    have hP := hP.sub (ws' := wL h0 h1 h2 k0 k1 k2 k3 k4 k5 k6 o cI cL (upd f' (8 * (cnts ow F mu - 2 + sN (cnts ow F) mu)) (f (8 * (cnts ow F mu - 1 + sN (cnts ow F) mu) + s9))) (upd g mu (nI (cnts ow F mu - 1))) (L - 8) ca ca ow sl gl F th mn va ki ra (vp_updL v 0 (nI (cnts ow F mu - 1)).toInt64)) [8, 9, 10, 0, 1, 2, 3, 4, 5, 6, 7] rfl
    have hD := hD.sub (ws' := wL h0 h1 h2 k0 k1 k2 k3 k4 k5 k6 o cI cL (upd f' (8 * (cnts ow F mu - 2 + sN (cnts ow F) mu)) (f (8 * (cnts ow F mu - 1 + sN (cnts ow F) mu) + s9))) (upd g mu (nI (cnts ow F mu - 1))) (L - 8) ca ca ow sl gl F th mn va ki ra (vp_updL v 0 (nI (cnts ow F mu - 1)).toInt64)) [8, 9, 10, 0, 1, 2, 3, 4, 5, 6, 7] (by decide) rfl
    refine lv_istore (lv' := [(5, .int (nI 0)), (0, .ref b), (1, .ref h0), (2, .ref k0), (3, .ref o), (4, .int (nI (4 * j)))]) hx hb dL_law_169 hl (by decide) rfl (fun ls hl => ?_)
    refine lv_aload_n hx hb dL_law_171 rfl (lv_at hl 3 rfl) ?_
    refine lv_aload_n hx hb dL_law_172 rfl (lv_at hl 1 rfl) ?_
    refine lv_iload hx hb dL_law_173 (lv_at hl 5 rfl) ?_
    refine lv_iconst (v := nI 1) hx hb dL_law_175 (by decide) ?_
    refine kAdd hx hb dL_law_176 ?_
    refine va_sld hx hb hX hbl hbA hS (vp_in_nI (n := 4 * j + 1) (by omega) (by omega)) dL_law_177 ?_
    refine kTop (v' := nI mu) (by rw [nI_clamp (by omega)]; exact hx1.symm) ?_
    refine lv_aload_n hx hb dL_law_178 rfl (lv_at hl 1 rfl) ?_
    refine lv_iload hx hb dL_law_179 (lv_at hl 5 rfl) ?_
    refine lv_iconst (v := nI 2) hx hb dL_law_181 (by decide) ?_
    refine kAdd hx hb dL_law_182 ?_
    refine va_sld hx hb hX hbl hbA hS (vp_in_nI (n := 4 * j + 2) (by omega) (by omega)) dL_law_183 ?_
    refine kTop (v' := nI s9) (by rw [nI_clamp (by omega)]; exact hx2.symm) ?_
    refine cVi (wr := (wX h0 h1 h2 cI (upd f' (8 * (cnts ow F mu - 2 + sN (cnts ow F) mu)) (f (8 * (cnts ow F mu - 1 + sN (cnts ow F) mu) + s9))) (upd g mu (nI (cnts ow F mu - 1))) (nI (L - 8)) ca ++ [(o, .inl (cL, 1, .inr (.inl (vp_updL v 0 (nI (cnts ow F mu - 1)).toInt64))))])) (As := [.int (nI mu), .int (nI s9)]) (rest := []) ⟨hx, hb, hml, hown, hts⟩ (pX1_leave l D k0 k1 k2 k3 k4 k5 k6 cI th F ca ow sl gl mn va ki ra hF (nI mu) (nI s9)) (cwV 2 hts gL_law_X1_leave rfl rfl rfl (by decide +kernel) ⟨(Nat.le_of_ble_eq_true rfl), (Nat.le_of_ble_eq_true rfl)⟩) hKI hP hD hS hA [3, 4, 5, 6, 7, 8, 9] [0, 1, 2, 10] rfl rfl (by decide) (by decide) (by decide) 0 rfl rfl rfl hl.1 rfl (Nat.le_of_ble_eq_true rfl) dL_law_184 ⟨hcs, hss⟩ (fun rb u H locs hw hP hD hS => ?_)
    skip
    rcases hw with ⟨-, -, rfl, s8, q1, q2, hs8, e8, hq1, ho1, hc1, hq2, ho2, hc2, rfl⟩ | ⟨h9, -⟩ | ⟨-, h9, -⟩
    · skip
      have es : s8 = s9 := ((nI_eq (by omega) (by omega)).mp e8).symm
      subst es
      have hP := hP.sub (ws' := wL h0 h1 h2 k0 k1 k2 k3 k4 k5 k6 o cI cL (upd f' (8 * (cnts ow F mu - 2 + sN (cnts ow F) mu)) (f (8 * (cnts ow F mu - 1 + sN (cnts ow F) mu) + s8))) (upd g mu (nI (cnts ow F mu - 1))) (L - 8) ca ca (shO ow q1 (F - 1)) (shS (upd sl (8 * q2) (sl (8 * q1 + s8))) q1 (F - 1)) gl (F - 1) (nI 0) mn va ki ra (vp_updL v 0 (nI (cnts ow F mu - 1)).toInt64)) [0, 1, 2, 4, 5, 6, 7, 8, 9, 10, 3] rfl
      have hD := hD.sub (ws' := wL h0 h1 h2 k0 k1 k2 k3 k4 k5 k6 o cI cL (upd f' (8 * (cnts ow F mu - 2 + sN (cnts ow F) mu)) (f (8 * (cnts ow F mu - 1 + sN (cnts ow F) mu) + s8))) (upd g mu (nI (cnts ow F mu - 1))) (L - 8) ca ca (shO ow q1 (F - 1)) (shS (upd sl (8 * q2) (sl (8 * q1 + s8))) q1 (F - 1)) gl (F - 1) (nI 0) mn va ki ra (vp_updL v 0 (nI (cnts ow F mu - 1)).toInt64)) [0, 1, 2, 4, 5, 6, 7, 8, 9, 10, 3] (by decide) rfl
      refine lv_istore (lv' := [(6, .int (nI ((rw_ ow F).count (nI mu) - 1))), (5, .int (nI 0)), (0, .ref b), (1, .ref h0), (2, .ref k0), (3, .ref o), (4, .int (nI (4 * j)))]) hx hb dL_law_187 hl (by decide) rfl (fun ls hl => ?_)
      refine lv_aload_n hx hb dL_law_189 rfl (lv_at hl 4 rfl) ?_
      refine cVi (wr := (wX h0 h1 h2 cI (upd f' (8 * (cnts ow F mu - 2 + sN (cnts ow F) mu)) (f (8 * (cnts ow F mu - 1 + sN (cnts ow F) mu) + s8))) (upd g mu (nI (cnts ow F mu - 1))) (nI (L - 8)) ca ++ [(o, .inl (cL, 1, .inr (.inl (vp_updL v 0 (nI (cnts ow F mu - 1)).toInt64))))])) (As := []) (rest := []) ⟨hx, hb, hml, hown, hts⟩ (pX1_thrown l D k0 k1 k2 k3 k4 k5 k6 cI (nI 0) (F - 1) ca (shO ow q1 (F - 1)) (shS (upd sl (8 * q2) (sl (8 * q1 + s8))) q1 (F - 1)) gl mn va ki ra) (cwV 0 hts gL_law_X1_thrown rfl rfl rfl (by decide +kernel) ⟨(Nat.le_of_ble_eq_true rfl), (Nat.le_of_ble_eq_true rfl)⟩) hKI hP hD hS hA [3, 4, 5, 6, 7, 8, 9] [0, 1, 2, 10] rfl rfl (by decide) (by decide) (by decide) 0 rfl rfl rfl hl.1 rfl (Nat.le_of_ble_eq_true rfl) dL_law_190 ⟨hcs, hss⟩ (fun r u H locs hw hP hD hS => ?_)
      obtain ⟨rfl, rfl⟩ := hw
      have hP := hP.sub (ws' := wL h0 h1 h2 k0 k1 k2 k3 k4 k5 k6 o cI cL (upd f' (8 * (cnts ow F mu - 2 + sN (cnts ow F) mu)) (f (8 * (cnts ow F mu - 1 + sN (cnts ow F) mu) + s8))) (upd g mu (nI (cnts ow F mu - 1))) (L - 8) ca ca (shO ow q1 (F - 1)) (shS (upd sl (8 * q2) (sl (8 * q1 + s8))) q1 (F - 1)) gl (F - 1) (nI 0) mn va ki ra (vp_updL v 0 (nI (cnts ow F mu - 1)).toInt64)) [0, 1, 2, 4, 5, 6, 7, 8, 9, 10, 3] rfl
      have hD := hD.sub (ws' := wL h0 h1 h2 k0 k1 k2 k3 k4 k5 k6 o cI cL (upd f' (8 * (cnts ow F mu - 2 + sN (cnts ow F) mu)) (f (8 * (cnts ow F mu - 1 + sN (cnts ow F) mu) + s8))) (upd g mu (nI (cnts ow F mu - 1))) (L - 8) ca ca (shO ow q1 (F - 1)) (shS (upd sl (8 * q2) (sl (8 * q1 + s8))) q1 (F - 1)) gl (F - 1) (nI 0) mn va ki ra (vp_updL v 0 (nI (cnts ow F mu - 1)).toInt64)) [0, 1, 2, 4, 5, 6, 7, 8, 9, 10, 3] (by decide) rfl
      refine lv_iload hx hb dL_law_193 (lv_at hl 1 rfl) ?_
      refine lv_icmp_eq (tgt := 200) hx hb dL_law_195 (by decide) (fun c7 => ?_) (fun c7 => ?_)
      · skip
        refine lv_iload hx hb dL_law_200 (lv_at hl 1 rfl) ?_
        refine kNe0 (a := 0) (by omega) (tgt := 217) hx hb dL_law_202 (by decide) (fun c8 => ?_) (fun c8 => ?_)
        · skip
          exact absurd c8 (by decide)
        · skip
          refine lv_aload_n hx hb dL_law_205 rfl (lv_at hl 5 rfl) ?_
          refine lv_iconst (v := nI 0) hx hb dL_law_206 (by decide) ?_
          refine va_lald hx hb hK hP 10 1 rfl rfl (vp_in_nI (n := 0) (by decide) (by decide)) dL_law_207 ?_
          refine lv_iload hx hb dL_law_208 (lv_at hl 0 rfl) ?_
          refine lv_i2l hx hb dL_law_210 rfl ?_
          refine W.lcmp hx hb dL_law_211 ?_
          refine kTop (v' := nI 0) (lg_eq (pk_uLs.trans (congrArg Int32.toInt64 rfl))) ?_
          refine kEq0 (a := 0) (by omega) (tgt := 217) hx hb dL_law_212 (by decide) (fun c9 => ?_) (fun c9 => ?_)
          · skip
            refine lv_goto (tgt := 765) hx hb dL_law_217 (by decide) ?_
            exact kk (upd f' (8 * (cnts ow F mu - 2 + sN (cnts ow F) mu)) (f (8 * (cnts ow F mu - 1 + sN (cnts ow F) mu) + s8))) (upd g mu (nI (cnts ow F mu - 1))) (L - 8) ca (shO ow q1 (F - 1)) (shS (upd sl (8 * q2) (sl (8 * q1 + s8))) q1 (F - 1)) gl (F - 1) (nI 0) mn va ki ra (vp_updL v 0 (nI (cnts ow F mu - 1)).toInt64) _ _ _ (hRel.leave hmu hs8 hlt hq1 ho1 hc1 hq2 ho2 hc2 hf') hP hD hS (lv_sub (l' := [(0, .ref b), (1, .ref h0), (2, .ref k0), (3, .ref o), (4, .int (nI (4 * j)))]) hl [2, 3, 4, 5, 6] rfl)
          · skip
            exact absurd c9 (by decide)
      · skip
        exact absurd rfl c7
    · skip
      exact absurd ⟨⟨mu, hmu, rfl⟩, ⟨s9, hs9, rfl⟩⟩ h9
    · skip
      exact absurd hlt (Nat.not_lt.mpr h9)
  · skip
    obtain ⟨rfl, ⟨-, hp⟩ | ⟨h9, -⟩⟩ := hp
    · skip
      have hp : ¬ (inR x1 4 ∧ inR x2 8) := fun h => hp.elim (fun q => q h.1) (fun q => q h.2)
      have hP := hP.sub (ws' := wL h0 h1 h2 k0 k1 k2 k3 k4 k5 k6 o cI cL f g L ca ca ow sl gl F th mn va ki ra v) [8, 9, 10, 0, 1, 2, 3, 4, 5, 6, 7] rfl
      have hD := hD.sub (ws' := wL h0 h1 h2 k0 k1 k2 k3 k4 k5 k6 o cI cL f g L ca ca ow sl gl F th mn va ki ra v) [8, 9, 10, 0, 1, 2, 3, 4, 5, 6, 7] (by decide) rfl
      refine lv_istore (lv' := [(5, .int (nI 1)), (0, .ref b), (1, .ref h0), (2, .ref k0), (3, .ref o), (4, .int (nI (4 * j)))]) hx hb dL_law_169 hl (by decide) rfl (fun ls hl => ?_)
      refine lv_aload_n hx hb dL_law_171 rfl (lv_at hl 3 rfl) ?_
      refine lv_aload_n hx hb dL_law_172 rfl (lv_at hl 1 rfl) ?_
      refine lv_iload hx hb dL_law_173 (lv_at hl 5 rfl) ?_
      refine lv_iconst (v := nI 1) hx hb dL_law_175 (by decide) ?_
      refine kAdd hx hb dL_law_176 ?_
      refine va_sld hx hb hX hbl hbA hS (vp_in_nI (n := 4 * j + 1) (by omega) (by omega)) dL_law_177 ?_
      refine kTop (v' := x1) (by rw [nI_clamp (by omega)]; exact hx1.symm) ?_
      refine lv_aload_n hx hb dL_law_178 rfl (lv_at hl 1 rfl) ?_
      refine lv_iload hx hb dL_law_179 (lv_at hl 5 rfl) ?_
      refine lv_iconst (v := nI 2) hx hb dL_law_181 (by decide) ?_
      refine kAdd hx hb dL_law_182 ?_
      refine va_sld hx hb hX hbl hbA hS (vp_in_nI (n := 4 * j + 2) (by omega) (by omega)) dL_law_183 ?_
      refine kTop (v' := x2) (by rw [nI_clamp (by omega)]; exact hx2.symm) ?_
      refine cVi (wr := (wX h0 h1 h2 cI f g (nI L) ca ++ [(o, .inl (cL, 1, .inr (.inl v)))])) (As := [.int x1, .int x2]) (rest := []) ⟨hx, hb, hml, hown, hts⟩ (pX1_leave l D k0 k1 k2 k3 k4 k5 k6 cI th F ca ow sl gl mn va ki ra hF x1 x2) (cwV 2 hts gL_law_X1_leave rfl rfl rfl (by decide +kernel) ⟨(Nat.le_of_ble_eq_true rfl), (Nat.le_of_ble_eq_true rfl)⟩) hKI hP hD hS hA [3, 4, 5, 6, 7, 8, 9] [0, 1, 2, 10] rfl rfl (by decide) (by decide) (by decide) 0 rfl rfl rfl hl.1 rfl (Nat.le_of_ble_eq_true rfl) dL_law_184 ⟨hcs, hss⟩ (fun rb u H locs hw hP hD hS => ?_)
      skip
      rcases hw with ⟨h9, -⟩ | ⟨-, rfl⟩ | ⟨h9, -⟩
      · skip
        exact absurd h9 hp
      · skip
        have hP := hP.sub (ws' := wL h0 h1 h2 k0 k1 k2 k3 k4 k5 k6 o cI cL f g L ca ca ow sl gl F (nI 1) mn va ki ra v) [0, 1, 2, 4, 5, 6, 7, 8, 9, 10, 3] rfl
        have hD := hD.sub (ws' := wL h0 h1 h2 k0 k1 k2 k3 k4 k5 k6 o cI cL f g L ca ca ow sl gl F (nI 1) mn va ki ra v) [0, 1, 2, 4, 5, 6, 7, 8, 9, 10, 3] (by decide) rfl
        refine lv_istore (lv' := [(6, .int rb), (5, .int (nI 1)), (0, .ref b), (1, .ref h0), (2, .ref k0), (3, .ref o), (4, .int (nI (4 * j)))]) hx hb dL_law_187 hl (by decide) rfl (fun ls hl => ?_)
        refine lv_aload_n hx hb dL_law_189 rfl (lv_at hl 4 rfl) ?_
        refine cVi (wr := (wX h0 h1 h2 cI f g (nI L) ca ++ [(o, .inl (cL, 1, .inr (.inl v)))])) (As := []) (rest := []) ⟨hx, hb, hml, hown, hts⟩ (pX1_thrown l D k0 k1 k2 k3 k4 k5 k6 cI (nI 1) F ca ow sl gl mn va ki ra) (cwV 0 hts gL_law_X1_thrown rfl rfl rfl (by decide +kernel) ⟨(Nat.le_of_ble_eq_true rfl), (Nat.le_of_ble_eq_true rfl)⟩) hKI hP hD hS hA [3, 4, 5, 6, 7, 8, 9] [0, 1, 2, 10] rfl rfl (by decide) (by decide) (by decide) 0 rfl rfl rfl hl.1 rfl (Nat.le_of_ble_eq_true rfl) dL_law_190 ⟨hcs, hss⟩ (fun r u H locs hw hP hD hS => ?_)
        obtain ⟨rfl, rfl⟩ := hw
        have hP := hP.sub (ws' := wL h0 h1 h2 k0 k1 k2 k3 k4 k5 k6 o cI cL f g L ca ca ow sl gl F (nI 1) mn va ki ra v) [0, 1, 2, 4, 5, 6, 7, 8, 9, 10, 3] rfl
        have hD := hD.sub (ws' := wL h0 h1 h2 k0 k1 k2 k3 k4 k5 k6 o cI cL f g L ca ca ow sl gl F (nI 1) mn va ki ra v) [0, 1, 2, 4, 5, 6, 7, 8, 9, 10, 3] (by decide) rfl
        refine lv_iload hx hb dL_law_193 (lv_at hl 1 rfl) ?_
        refine lv_icmp_eq (tgt := 200) hx hb dL_law_195 (by decide) (fun c7 => ?_) (fun c7 => ?_)
        · skip
          refine lv_iload hx hb dL_law_200 (lv_at hl 1 rfl) ?_
          refine kNe0 (a := 1) (by omega) (tgt := 217) hx hb dL_law_202 (by decide) (fun c8 => ?_) (fun c8 => ?_)
          · skip
            refine lv_goto (tgt := 765) hx hb dL_law_217 (by decide) ?_
            exact kk f g L ca ow sl gl F (nI 1) mn va ki ra v _ _ _ hRel hP hD hS (lv_sub (l' := [(0, .ref b), (1, .ref h0), (2, .ref k0), (3, .ref o), (4, .int (nI (4 * j)))]) hl [2, 3, 4, 5, 6] rfl)
          · skip
            exact absurd c8 (by decide)
        · skip
          exact absurd rfl c7
      · skip
        exact absurd h9 hp
    · skip
      exact absurd h9 (by decide)
  · skip
    obtain ⟨rfl, ⟨h9, -⟩ | ⟨-, hy, mu, hmu, rfl, h64⟩⟩ := hp
    · skip
      exact absurd h9 (by decide)
    · skip
      have hP := hP.sub (ws' := wL h0 h1 h2 k0 k1 k2 k3 k4 k5 k6 o cI cL f g L ca ca ow sl gl F th mn va ki ra v) [8, 9, 10, 0, 1, 2, 3, 4, 5, 6, 7] rfl
      have hD := hD.sub (ws' := wL h0 h1 h2 k0 k1 k2 k3 k4 k5 k6 o cI cL f g L ca ca ow sl gl F th mn va ki ra v) [8, 9, 10, 0, 1, 2, 3, 4, 5, 6, 7] (by decide) rfl
      refine lv_istore (lv' := [(5, .int (nI 2)), (0, .ref b), (1, .ref h0), (2, .ref k0), (3, .ref o), (4, .int (nI (4 * j)))]) hx hb dL_law_169 hl (by decide) rfl (fun ls hl => ?_)
      refine lv_aload_n hx hb dL_law_171 rfl (lv_at hl 3 rfl) ?_
      refine lv_aload_n hx hb dL_law_172 rfl (lv_at hl 1 rfl) ?_
      refine lv_iload hx hb dL_law_173 (lv_at hl 5 rfl) ?_
      refine lv_iconst (v := nI 1) hx hb dL_law_175 (by decide) ?_
      refine kAdd hx hb dL_law_176 ?_
      refine va_sld hx hb hX hbl hbA hS (vp_in_nI (n := 4 * j + 1) (by omega) (by omega)) dL_law_177 ?_
      refine kTop (v' := nI mu) (by rw [nI_clamp (by omega)]; exact hx1.symm) ?_
      refine lv_aload_n hx hb dL_law_178 rfl (lv_at hl 1 rfl) ?_
      refine lv_iload hx hb dL_law_179 (lv_at hl 5 rfl) ?_
      refine lv_iconst (v := nI 2) hx hb dL_law_181 (by decide) ?_
      refine kAdd hx hb dL_law_182 ?_
      refine va_sld hx hb hX hbl hbA hS (vp_in_nI (n := 4 * j + 2) (by omega) (by omega)) dL_law_183 ?_
      refine kTop (v' := x2) (by rw [nI_clamp (by omega)]; exact hx2.symm) ?_
      refine cVi (wr := (wX h0 h1 h2 cI f g (nI L) ca ++ [(o, .inl (cL, 1, .inr (.inl v)))])) (As := [.int (nI mu), .int x2]) (rest := []) ⟨hx, hb, hml, hown, hts⟩ (pX1_leave l D k0 k1 k2 k3 k4 k5 k6 cI th F ca ow sl gl mn va ki ra hF (nI mu) x2) (cwV 2 hts gL_law_X1_leave rfl rfl rfl (by decide +kernel) ⟨(Nat.le_of_ble_eq_true rfl), (Nat.le_of_ble_eq_true rfl)⟩) hKI hP hD hS hA [3, 4, 5, 6, 7, 8, 9] [0, 1, 2, 10] rfl rfl (by decide) (by decide) (by decide) 0 rfl rfl rfl hl.1 rfl (Nat.le_of_ble_eq_true rfl) dL_law_184 ⟨hcs, hss⟩ (fun rb u H locs hw hP hD hS => ?_)
      skip
      rcases hw with ⟨-, h9, -⟩ | ⟨h9, -⟩ | ⟨-, -, rfl⟩
      · skip
        exact absurd h64 (Nat.ne_of_gt h9)
      · skip
        exact absurd ⟨⟨mu, hmu, rfl⟩, hy⟩ h9
      · skip
        have hP := hP.sub (ws' := wL h0 h1 h2 k0 k1 k2 k3 k4 k5 k6 o cI cL f g L ca ca ow sl gl F (nI 2) mn va ki ra v) [0, 1, 2, 4, 5, 6, 7, 8, 9, 10, 3] rfl
        have hD := hD.sub (ws' := wL h0 h1 h2 k0 k1 k2 k3 k4 k5 k6 o cI cL f g L ca ca ow sl gl F (nI 2) mn va ki ra v) [0, 1, 2, 4, 5, 6, 7, 8, 9, 10, 3] (by decide) rfl
        refine lv_istore (lv' := [(6, .int rb), (5, .int (nI 2)), (0, .ref b), (1, .ref h0), (2, .ref k0), (3, .ref o), (4, .int (nI (4 * j)))]) hx hb dL_law_187 hl (by decide) rfl (fun ls hl => ?_)
        refine lv_aload_n hx hb dL_law_189 rfl (lv_at hl 4 rfl) ?_
        refine cVi (wr := (wX h0 h1 h2 cI f g (nI L) ca ++ [(o, .inl (cL, 1, .inr (.inl v)))])) (As := []) (rest := []) ⟨hx, hb, hml, hown, hts⟩ (pX1_thrown l D k0 k1 k2 k3 k4 k5 k6 cI (nI 2) F ca ow sl gl mn va ki ra) (cwV 0 hts gL_law_X1_thrown rfl rfl rfl (by decide +kernel) ⟨(Nat.le_of_ble_eq_true rfl), (Nat.le_of_ble_eq_true rfl)⟩) hKI hP hD hS hA [3, 4, 5, 6, 7, 8, 9] [0, 1, 2, 10] rfl rfl (by decide) (by decide) (by decide) 0 rfl rfl rfl hl.1 rfl (Nat.le_of_ble_eq_true rfl) dL_law_190 ⟨hcs, hss⟩ (fun r u H locs hw hP hD hS => ?_)
        obtain ⟨rfl, rfl⟩ := hw
        have hP := hP.sub (ws' := wL h0 h1 h2 k0 k1 k2 k3 k4 k5 k6 o cI cL f g L ca ca ow sl gl F (nI 2) mn va ki ra v) [0, 1, 2, 4, 5, 6, 7, 8, 9, 10, 3] rfl
        have hD := hD.sub (ws' := wL h0 h1 h2 k0 k1 k2 k3 k4 k5 k6 o cI cL f g L ca ca ow sl gl F (nI 2) mn va ki ra v) [0, 1, 2, 4, 5, 6, 7, 8, 9, 10, 3] (by decide) rfl
        refine lv_iload hx hb dL_law_193 (lv_at hl 1 rfl) ?_
        refine lv_icmp_eq (tgt := 200) hx hb dL_law_195 (by decide) (fun c7 => ?_) (fun c7 => ?_)
        · skip
          refine lv_iload hx hb dL_law_200 (lv_at hl 1 rfl) ?_
          refine kNe0 (a := 2) (by omega) (tgt := 217) hx hb dL_law_202 (by decide) (fun c8 => ?_) (fun c8 => ?_)
          · skip
            refine lv_goto (tgt := 765) hx hb dL_law_217 (by decide) ?_
            exact kk f g L ca ow sl gl F (nI 2) mn va ki ra v _ _ _ hRel hP hD hS (lv_sub (l' := [(0, .ref b), (1, .ref h0), (2, .ref k0), (3, .ref o), (4, .int (nI (4 * j)))]) hl [2, 3, 4, 5, 6] rfl)
          · skip
            exact absurd c8 (by decide)
        · skip
          exact absurd rfl c7

set_option maxHeartbeats 4000000 in
set_option maxRecDepth 100000 in
theorem law_cut {p : Program} {l : Launch} {e : Env} {s : State} {m : MethodId} {below : List Frame} {meth : Method} {c : Code} {D : va_G} {b Ls : Nat} {xs : Nat → Int32} (hL : Ls ≤ 2048) (C0 : lw_At p s m meth c b Ls xs) (htr : l.stackTraces = false) {cI cL : ClassId} (hK : va_K D kC (tIL cI cL) s) (hZ : kZ (fun q : Nat => s.heap.size ≤ q) s s.heap) {h0 h1 h2 k0 k1 k2 k3 k4 k5 k6 o : Nat} {f g : Nat → Int32} {L : Nat} {ca : Int32} {ow sl gl : Nat → Int32} {F : Nat} {th mn : Int32} {va ki ra : Nat → Int32} {v : Nat → Int64} {j : Nat} (hj : 4 * j + 4 ≤ Ls) (hRel : Rel f g L ow sl gl F) {H : Heap} {locs : List Loc} {ls : Array Slot} (hP : va_P D kC (wL h0 h1 h2 k0 k1 k2 k3 k4 k5 k6 o cI cL f g L ca ca ow sl gl F th mn va ki ra v) H) (hD : va_D (fun q : Nat => s.heap.size ≤ q) (wL h0 h1 h2 k0 k1 k2 k3 k4 k5 k6 o cI cL f g L ca ca ow sl gl F th mn va ki ra v)) (hS : va_S (fun q : Nat => s.heap.size ≤ q) s.heap H locs) (hl : lv_has ls 7 [(0, .ref b), (1, .ref h0), (2, .ref k0), (3, .ref o), (4, .int (nI (4 * j)))]) {cs ss : Nat} (hcs : cs + 4 ≤ 601024) (hss : ss + 24 ≤ 7293033)
    (kk : ∀ (f g : Nat → Int32) (L : Nat) (ca : Int32) (ow sl gl : Nat → Int32) (F : Nat) (th mn : Int32) (va ki ra : Nat → Int32) (v : Nat → Int64) (H : Heap) (locs : List Loc) (ls : Array Slot), Rel f g L ow sl gl F → va_P D kC (wL h0 h1 h2 k0 k1 k2 k3 k4 k5 k6 o cI cL f g L ca ca ow sl gl F th mn va ki ra v) H → va_D (fun q : Nat => s.heap.size ≤ q) (wL h0 h1 h2 k0 k1 k2 k3 k4 k5 k6 o cI cL f g L ca ca ow sl gl F th mn va ki ra v) → va_S (fun q : Nat => s.heap.size ≤ q) s.heap H locs → lv_has ls 7 [(0, .ref b), (1, .ref h0), (2, .ref k0), (3, .ref o), (4, .int (nI (4 * j)))] → W p l e room_1 s m #[Value.ref b] below meth c H locs (cs + 4) (ss + 24) (lw_Z below #[Value.ref b] s) (F0 m 765 ls [])) : W p l e room_1 s m #[Value.ref b] below meth c H locs cs ss (lw_Z below #[Value.ref b] s) (F0 m 220 ls []) := by
  obtain ⟨hx, hb0, hr, hml, hown0, hts0, hX, hbl, hlocks, hgv⟩ := C0
  have hb : c.code = cL_law := hb0
  have hown : s.vm.findClass RL = some m.cls := hown0
  have hts : ∀ w ∈ wsL_law, w.before #[Value.ref b] s = true := fun w h => hts0 w (wsL_law_in w h)
  have hA : ∀ q : Nat, s.heap.size ≤ q → (fun q : Nat => s.heap.size ≤ q) q := fun _ h => h
  have hbA : ¬ (fun q : Nat => s.heap.size ≤ q) b := Nat.not_le.mpr hbl
  have hKI : va_K D kC (tI cI) s := hK.sub [0] rfl
  have hF := hRel.hF
  have hL2 := hRel.hL2
  obtain ⟨x1, hx1⟩ : ∃ z, z = xs (4 * j + 1) := ⟨_, rfl⟩
  obtain ⟨x2, hx2⟩ : ∃ z, z = xs (4 * j + 2) := ⟨_, rfl⟩
  refine lv_aload_n hx hb dL_law_220 rfl (lv_at hl 1 rfl) ?_
  refine lv_aload_n hx hb dL_law_221 rfl (lv_at hl 0 rfl) ?_
  refine lv_iload hx hb dL_law_222 (lv_at hl 4 rfl) ?_
  refine lv_iconst (v := nI 1) hx hb dL_law_224 (by decide) ?_
  refine kAdd hx hb dL_law_225 ?_
  refine va_sld hx hb hX hbl hbA hS (vp_in_nI (n := 4 * j + 1) (by omega) (by omega)) dL_law_226 ?_
  refine kTop (v' := x1) (by rw [nI_clamp (by omega)]; exact hx1.symm) ?_
  refine lv_aload_n hx hb dL_law_227 rfl (lv_at hl 0 rfl) ?_
  refine lv_iload hx hb dL_law_228 (lv_at hl 4 rfl) ?_
  refine lv_iconst (v := nI 2) hx hb dL_law_230 (by decide) ?_
  refine kAdd hx hb dL_law_231 ?_
  refine va_sld hx hb hX hbl hbA hS (vp_in_nI (n := 4 * j + 2) (by omega) (by omega)) dL_law_232 ?_
  refine kTop (v' := x2) (by rw [nI_clamp (by omega)]; exact hx2.symm) ?_
  refine lv_aload_n hx hb dL_law_233 rfl (lv_at hl 3 rfl) ?_
  refine tSi (wr := (wM k0 k1 k2 k3 k4 k5 k6 cI th (nI F) ca ow sl gl mn va ki ra)) (As := [.ref h0, .int x1, .int x2, .ref o]) (rest := []) ⟨hx, hb, hml, hown, hts⟩ (pL_cut l htr D h0 h1 h2 o cI cL f g L ca v (cnts ow F) hRel.1 hRel.2.1 x1 x2) (vx_cwSW 4 hts gL_law_L_cut rfl rfl rfl (by decide +kernel) ⟨(Nat.le_of_ble_eq_true rfl), (Nat.le_of_ble_eq_true rfl)⟩) hK hP hD hS hA hZ [0, 1, 2, 10] [3, 4, 5, 6, 7, 8, 9] rfl rfl (by decide) (by decide) (by decide) rfl hl.1 rfl (Nat.le_of_ble_eq_true rfl) dL_law_234 ⟨hcs, hss⟩ (fun r u H locs hw hP hD hS => ?_)
  skip
  rcases hw with ⟨r9, u9, hp, rfl, rfl⟩ | ⟨u9, hp, rfl, rfl⟩
  · skip
    obtain ⟨mu, lf, hmu, rfl, rfl, h1f, h2f, rfl, f', rfl, hf'⟩ := hp
    have hP := hP.sub (ws' := wL h0 h1 h2 k0 k1 k2 k3 k4 k5 k6 o cI cL f' (upd g mu (nI lf)) (L - 8 * (cnts ow F mu - lf)) ca ca ow sl gl F th mn va ki ra (vp_updL v 0 (nI (cnts ow F mu - lf)).toInt64)) [8, 9, 10, 0, 1, 2, 3, 4, 5, 6, 7] rfl
    have hD := hD.sub (ws' := wL h0 h1 h2 k0 k1 k2 k3 k4 k5 k6 o cI cL f' (upd g mu (nI lf)) (L - 8 * (cnts ow F mu - lf)) ca ca ow sl gl F th mn va ki ra (vp_updL v 0 (nI (cnts ow F mu - lf)).toInt64)) [8, 9, 10, 0, 1, 2, 3, 4, 5, 6, 7] (by decide) rfl
    have hcl := rw_count_le ow F (nI mu)
    have hlf9 : lf ≤ (rw_ ow F).count (nI mu) := h2f
    refine lv_istore (lv' := [(5, .int (nI 0)), (0, .ref b), (1, .ref h0), (2, .ref k0), (3, .ref o), (4, .int (nI (4 * j)))]) hx hb dL_law_237 hl (by decide) rfl (fun ls hl => ?_)
    refine lv_aload_n hx hb dL_law_239 rfl (lv_at hl 3 rfl) ?_
    refine lv_aload_n hx hb dL_law_240 rfl (lv_at hl 1 rfl) ?_
    refine lv_iload hx hb dL_law_241 (lv_at hl 5 rfl) ?_
    refine lv_iconst (v := nI 1) hx hb dL_law_243 (by decide) ?_
    refine kAdd hx hb dL_law_244 ?_
    refine va_sld hx hb hX hbl hbA hS (vp_in_nI (n := 4 * j + 1) (by omega) (by omega)) dL_law_245 ?_
    refine kTop (v' := nI mu) (by rw [nI_clamp (by omega)]; exact hx1.symm) ?_
    refine lv_aload_n hx hb dL_law_246 rfl (lv_at hl 1 rfl) ?_
    refine lv_iload hx hb dL_law_247 (lv_at hl 5 rfl) ?_
    refine lv_iconst (v := nI 2) hx hb dL_law_249 (by decide) ?_
    refine kAdd hx hb dL_law_250 ?_
    refine va_sld hx hb hX hbl hbA hS (vp_in_nI (n := 4 * j + 2) (by omega) (by omega)) dL_law_251 ?_
    refine kTop (v' := nI lf) (by rw [nI_clamp (by omega)]; exact hx2.symm) ?_
    refine cVi (wr := (wX h0 h1 h2 cI f' (upd g mu (nI lf)) (nI (L - 8 * (cnts ow F mu - lf))) ca ++ [(o, .inl (cL, 1, .inr (.inl (vp_updL v 0 (nI (cnts ow F mu - lf)).toInt64))))])) (As := [.int (nI mu), .int (nI lf)]) (rest := []) ⟨hx, hb, hml, hown, hts⟩ (pX1_cut l D k0 k1 k2 k3 k4 k5 k6 cI th F ca ow sl gl mn va ki ra hF (nI mu) (nI lf)) (cwV 2 hts gL_law_X1_cut rfl rfl rfl (by decide +kernel) ⟨(Nat.le_of_ble_eq_true rfl), (Nat.le_of_ble_eq_true rfl)⟩) hKI hP hD hS hA [3, 4, 5, 6, 7, 8, 9] [0, 1, 2, 10] rfl rfl (by decide) (by decide) (by decide) 0 rfl rfl rfl hl.1 rfl (Nat.le_of_ble_eq_true rfl) dL_law_252 ⟨hcs, hss⟩ (fun rb u H locs hw hP hD hS => ?_)
    skip
    rcases hw with ⟨-, lf8, e8, h18, h28, rfl, ow', sl', hR, rfl⟩ | ⟨h9, -⟩
    · skip
      have el : lf8 = lf := ((nI_eq (by omega) (by omega)).mp e8).symm
      subst el
      have hP := hP.sub (ws' := wL h0 h1 h2 k0 k1 k2 k3 k4 k5 k6 o cI cL f' (upd g mu (nI lf8)) (L - 8 * (cnts ow F mu - lf8)) ca ca ow' sl' gl (F - (cnts ow F mu - lf8)) (nI 0) mn va ki ra (vp_updL v 0 (nI (cnts ow F mu - lf8)).toInt64)) [0, 1, 2, 4, 5, 6, 7, 8, 9, 10, 3] rfl
      have hD := hD.sub (ws' := wL h0 h1 h2 k0 k1 k2 k3 k4 k5 k6 o cI cL f' (upd g mu (nI lf8)) (L - 8 * (cnts ow F mu - lf8)) ca ca ow' sl' gl (F - (cnts ow F mu - lf8)) (nI 0) mn va ki ra (vp_updL v 0 (nI (cnts ow F mu - lf8)).toInt64)) [0, 1, 2, 4, 5, 6, 7, 8, 9, 10, 3] (by decide) rfl
      refine lv_istore (lv' := [(6, .int (nI ((rw_ ow F).count (nI mu) - lf8))), (5, .int (nI 0)), (0, .ref b), (1, .ref h0), (2, .ref k0), (3, .ref o), (4, .int (nI (4 * j)))]) hx hb dL_law_255 hl (by decide) rfl (fun ls hl => ?_)
      refine lv_aload_n hx hb dL_law_257 rfl (lv_at hl 4 rfl) ?_
      refine cVi (wr := (wX h0 h1 h2 cI f' (upd g mu (nI lf8)) (nI (L - 8 * (cnts ow F mu - lf8))) ca ++ [(o, .inl (cL, 1, .inr (.inl (vp_updL v 0 (nI (cnts ow F mu - lf8)).toInt64))))])) (As := []) (rest := []) ⟨hx, hb, hml, hown, hts⟩ (pX1_thrown l D k0 k1 k2 k3 k4 k5 k6 cI (nI 0) (F - (cnts ow F mu - lf8)) ca ow' sl' gl mn va ki ra) (cwV 0 hts gL_law_X1_thrown rfl rfl rfl (by decide +kernel) ⟨(Nat.le_of_ble_eq_true rfl), (Nat.le_of_ble_eq_true rfl)⟩) hKI hP hD hS hA [3, 4, 5, 6, 7, 8, 9] [0, 1, 2, 10] rfl rfl (by decide) (by decide) (by decide) 0 rfl rfl rfl hl.1 rfl (Nat.le_of_ble_eq_true rfl) dL_law_258 ⟨hcs, hss⟩ (fun r u H locs hw hP hD hS => ?_)
      obtain ⟨rfl, rfl⟩ := hw
      have hP := hP.sub (ws' := wL h0 h1 h2 k0 k1 k2 k3 k4 k5 k6 o cI cL f' (upd g mu (nI lf8)) (L - 8 * (cnts ow F mu - lf8)) ca ca ow' sl' gl (F - (cnts ow F mu - lf8)) (nI 0) mn va ki ra (vp_updL v 0 (nI (cnts ow F mu - lf8)).toInt64)) [0, 1, 2, 4, 5, 6, 7, 8, 9, 10, 3] rfl
      have hD := hD.sub (ws' := wL h0 h1 h2 k0 k1 k2 k3 k4 k5 k6 o cI cL f' (upd g mu (nI lf8)) (L - 8 * (cnts ow F mu - lf8)) ca ca ow' sl' gl (F - (cnts ow F mu - lf8)) (nI 0) mn va ki ra (vp_updL v 0 (nI (cnts ow F mu - lf8)).toInt64)) [0, 1, 2, 4, 5, 6, 7, 8, 9, 10, 3] (by decide) rfl
      refine lv_iload hx hb dL_law_261 (lv_at hl 1 rfl) ?_
      refine lv_icmp_eq (tgt := 268) hx hb dL_law_263 (by decide) (fun c7 => ?_) (fun c7 => ?_)
      · skip
        refine lv_iload hx hb dL_law_268 (lv_at hl 1 rfl) ?_
        refine kNe0 (a := 0) (by omega) (tgt := 285) hx hb dL_law_270 (by decide) (fun c8 => ?_) (fun c8 => ?_)
        · skip
          exact absurd c8 (by decide)
        · skip
          refine lv_aload_n hx hb dL_law_273 rfl (lv_at hl 5 rfl) ?_
          refine lv_iconst (v := nI 0) hx hb dL_law_274 (by decide) ?_
          refine va_lald hx hb hK hP 10 1 rfl rfl (vp_in_nI (n := 0) (by decide) (by decide)) dL_law_275 ?_
          refine lv_iload hx hb dL_law_276 (lv_at hl 0 rfl) ?_
          refine lv_i2l hx hb dL_law_278 rfl ?_
          refine W.lcmp hx hb dL_law_279 ?_
          refine kTop (v' := nI 0) (lg_eq (pk_uLs.trans (congrArg Int32.toInt64 rfl))) ?_
          refine kEq0 (a := 0) (by omega) (tgt := 285) hx hb dL_law_280 (by decide) (fun c9 => ?_) (fun c9 => ?_)
          · skip
            refine lv_goto (tgt := 765) hx hb dL_law_285 (by decide) ?_
            exact kk f' (upd g mu (nI lf8)) (L - 8 * (cnts ow F mu - lf8)) ca ow' sl' gl (F - (cnts ow F mu - lf8)) (nI 0) mn va ki ra (vp_updL v 0 (nI (cnts ow F mu - lf8)).toInt64) _ _ _ (hRel.cut hmu h1f h2f hR hf') hP hD hS (lv_sub (l' := [(0, .ref b), (1, .ref h0), (2, .ref k0), (3, .ref o), (4, .int (nI (4 * j)))]) hl [2, 3, 4, 5, 6] rfl)
          · skip
            exact absurd c9 (by decide)
      · skip
        exact absurd rfl c7
    · skip
      exact absurd ⟨⟨mu, hmu, rfl⟩, lf, rfl, h1f, h2f⟩ h9
  · skip
    obtain ⟨rfl, -, hp⟩ := hp
    have hP := hP.sub (ws' := wL h0 h1 h2 k0 k1 k2 k3 k4 k5 k6 o cI cL f g L ca ca ow sl gl F th mn va ki ra v) [8, 9, 10, 0, 1, 2, 3, 4, 5, 6, 7] rfl
    have hD := hD.sub (ws' := wL h0 h1 h2 k0 k1 k2 k3 k4 k5 k6 o cI cL f g L ca ca ow sl gl F th mn va ki ra v) [8, 9, 10, 0, 1, 2, 3, 4, 5, 6, 7] (by decide) rfl
    refine lv_istore (lv' := [(5, .int (nI 1)), (0, .ref b), (1, .ref h0), (2, .ref k0), (3, .ref o), (4, .int (nI (4 * j)))]) hx hb dL_law_237 hl (by decide) rfl (fun ls hl => ?_)
    refine lv_aload_n hx hb dL_law_239 rfl (lv_at hl 3 rfl) ?_
    refine lv_aload_n hx hb dL_law_240 rfl (lv_at hl 1 rfl) ?_
    refine lv_iload hx hb dL_law_241 (lv_at hl 5 rfl) ?_
    refine lv_iconst (v := nI 1) hx hb dL_law_243 (by decide) ?_
    refine kAdd hx hb dL_law_244 ?_
    refine va_sld hx hb hX hbl hbA hS (vp_in_nI (n := 4 * j + 1) (by omega) (by omega)) dL_law_245 ?_
    refine kTop (v' := x1) (by rw [nI_clamp (by omega)]; exact hx1.symm) ?_
    refine lv_aload_n hx hb dL_law_246 rfl (lv_at hl 1 rfl) ?_
    refine lv_iload hx hb dL_law_247 (lv_at hl 5 rfl) ?_
    refine lv_iconst (v := nI 2) hx hb dL_law_249 (by decide) ?_
    refine kAdd hx hb dL_law_250 ?_
    refine va_sld hx hb hX hbl hbA hS (vp_in_nI (n := 4 * j + 2) (by omega) (by omega)) dL_law_251 ?_
    refine kTop (v' := x2) (by rw [nI_clamp (by omega)]; exact hx2.symm) ?_
    refine cVi (wr := (wX h0 h1 h2 cI f g (nI L) ca ++ [(o, .inl (cL, 1, .inr (.inl v)))])) (As := [.int x1, .int x2]) (rest := []) ⟨hx, hb, hml, hown, hts⟩ (pX1_cut l D k0 k1 k2 k3 k4 k5 k6 cI th F ca ow sl gl mn va ki ra hF x1 x2) (cwV 2 hts gL_law_X1_cut rfl rfl rfl (by decide +kernel) ⟨(Nat.le_of_ble_eq_true rfl), (Nat.le_of_ble_eq_true rfl)⟩) hKI hP hD hS hA [3, 4, 5, 6, 7, 8, 9] [0, 1, 2, 10] rfl rfl (by decide) (by decide) (by decide) 0 rfl rfl rfl hl.1 rfl (Nat.le_of_ble_eq_true rfl) dL_law_252 ⟨hcs, hss⟩ (fun rb u H locs hw hP hD hS => ?_)
    skip
    rcases hw with ⟨h9, lf, e9, h19, h29, -⟩ | ⟨-, rfl⟩
    · skip
      exact False.elim (hp.elim (fun q => q h9) (fun ⟨mu, _, em, hq⟩ => hq ⟨lf, e9, h19, by rw [em] at h29; exact h29⟩))
    · skip
      have hP := hP.sub (ws' := wL h0 h1 h2 k0 k1 k2 k3 k4 k5 k6 o cI cL f g L ca ca ow sl gl F (nI 1) mn va ki ra v) [0, 1, 2, 4, 5, 6, 7, 8, 9, 10, 3] rfl
      have hD := hD.sub (ws' := wL h0 h1 h2 k0 k1 k2 k3 k4 k5 k6 o cI cL f g L ca ca ow sl gl F (nI 1) mn va ki ra v) [0, 1, 2, 4, 5, 6, 7, 8, 9, 10, 3] (by decide) rfl
      refine lv_istore (lv' := [(6, .int rb), (5, .int (nI 1)), (0, .ref b), (1, .ref h0), (2, .ref k0), (3, .ref o), (4, .int (nI (4 * j)))]) hx hb dL_law_255 hl (by decide) rfl (fun ls hl => ?_)
      refine lv_aload_n hx hb dL_law_257 rfl (lv_at hl 4 rfl) ?_
      refine cVi (wr := (wX h0 h1 h2 cI f g (nI L) ca ++ [(o, .inl (cL, 1, .inr (.inl v)))])) (As := []) (rest := []) ⟨hx, hb, hml, hown, hts⟩ (pX1_thrown l D k0 k1 k2 k3 k4 k5 k6 cI (nI 1) F ca ow sl gl mn va ki ra) (cwV 0 hts gL_law_X1_thrown rfl rfl rfl (by decide +kernel) ⟨(Nat.le_of_ble_eq_true rfl), (Nat.le_of_ble_eq_true rfl)⟩) hKI hP hD hS hA [3, 4, 5, 6, 7, 8, 9] [0, 1, 2, 10] rfl rfl (by decide) (by decide) (by decide) 0 rfl rfl rfl hl.1 rfl (Nat.le_of_ble_eq_true rfl) dL_law_258 ⟨hcs, hss⟩ (fun r u H locs hw hP hD hS => ?_)
      obtain ⟨rfl, rfl⟩ := hw
      have hP := hP.sub (ws' := wL h0 h1 h2 k0 k1 k2 k3 k4 k5 k6 o cI cL f g L ca ca ow sl gl F (nI 1) mn va ki ra v) [0, 1, 2, 4, 5, 6, 7, 8, 9, 10, 3] rfl
      have hD := hD.sub (ws' := wL h0 h1 h2 k0 k1 k2 k3 k4 k5 k6 o cI cL f g L ca ca ow sl gl F (nI 1) mn va ki ra v) [0, 1, 2, 4, 5, 6, 7, 8, 9, 10, 3] (by decide) rfl
      refine lv_iload hx hb dL_law_261 (lv_at hl 1 rfl) ?_
      refine lv_icmp_eq (tgt := 268) hx hb dL_law_263 (by decide) (fun c7 => ?_) (fun c7 => ?_)
      · skip
        refine lv_iload hx hb dL_law_268 (lv_at hl 1 rfl) ?_
        refine kNe0 (a := 1) (by omega) (tgt := 285) hx hb dL_law_270 (by decide) (fun c8 => ?_) (fun c8 => ?_)
        · skip
          refine lv_goto (tgt := 765) hx hb dL_law_285 (by decide) ?_
          exact kk f g L ca ow sl gl F (nI 1) mn va ki ra v _ _ _ hRel hP hD hS (lv_sub (l' := [(0, .ref b), (1, .ref h0), (2, .ref k0), (3, .ref o), (4, .int (nI (4 * j)))]) hl [2, 3, 4, 5, 6] rfl)
        · skip
          exact absurd c8 (by decide)
      · skip
        exact absurd rfl c7
