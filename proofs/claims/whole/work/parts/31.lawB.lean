set_option maxHeartbeats 4000000 in
set_option maxRecDepth 100000 in
theorem law_get {p : Program} {l : Launch} {e : Env} {s : State} {m : MethodId} {below : List Frame} {meth : Method} {c : Code} {D : va_G} {b Ls : Nat} {xs : Nat → Int32} (hL : Ls ≤ 2048) (C0 : lw_At p s m meth c b Ls xs) (htr : l.stackTraces = false) {cI cL : ClassId} (hK : va_K D kC (tIL cI cL) s) (hZ : kZ (fun q : Nat => s.heap.size ≤ q) s s.heap) {h0 h1 h2 k0 k1 k2 k3 k4 k5 k6 o : Nat} {f g : Nat → Int32} {L : Nat} {ca : Int32} {ow sl gl : Nat → Int32} {F : Nat} {th mn : Int32} {va ki ra : Nat → Int32} {v : Nat → Int64} {j : Nat} (hj : 4 * j + 4 ≤ Ls) (hRel : Rel f g L ow sl gl F) {H : Heap} {locs : List Loc} {ls : Array Slot} (hP : va_P D kC (wL h0 h1 h2 k0 k1 k2 k3 k4 k5 k6 o cI cL f g L ca ca ow sl gl F th mn va ki ra v) H) (hD : va_D (fun q : Nat => s.heap.size ≤ q) (wL h0 h1 h2 k0 k1 k2 k3 k4 k5 k6 o cI cL f g L ca ca ow sl gl F th mn va ki ra v)) (hS : va_S (fun q : Nat => s.heap.size ≤ q) s.heap H locs) (hl : lv_has ls 7 [(0, .ref b), (1, .ref h0), (2, .ref k0), (3, .ref o), (4, .int (nI (4 * j)))]) {cs ss : Nat} (hcs : cs + 4 ≤ 601024) (hss : ss + 24 ≤ 7293033)
    (kk : ∀ (f g : Nat → Int32) (L : Nat) (ca : Int32) (ow sl gl : Nat → Int32) (F : Nat) (th mn : Int32) (va ki ra : Nat → Int32) (v : Nat → Int64) (H : Heap) (locs : List Loc) (ls : Array Slot), Rel f g L ow sl gl F → va_P D kC (wL h0 h1 h2 k0 k1 k2 k3 k4 k5 k6 o cI cL f g L ca ca ow sl gl F th mn va ki ra v) H → va_D (fun q : Nat => s.heap.size ≤ q) (wL h0 h1 h2 k0 k1 k2 k3 k4 k5 k6 o cI cL f g L ca ca ow sl gl F th mn va ki ra v) → va_S (fun q : Nat => s.heap.size ≤ q) s.heap H locs → lv_has ls 7 [(0, .ref b), (1, .ref h0), (2, .ref k0), (3, .ref o), (4, .int (nI (4 * j)))] → W p l e room_1 s m #[Value.ref b] below meth c H locs (cs + 4) (ss + 24) (lw_Z below #[Value.ref b] s) (F0 m 765 ls [])) : W p l e room_1 s m #[Value.ref b] below meth c H locs cs ss (lw_Z below #[Value.ref b] s) (F0 m 288 ls []) := by
  obtain ⟨hx, hb0, hr, hml, hown0, hts0, hX, hbl, hlocks, hgv⟩ := C0
  have hb : c.code = cL_law := hb0
  have hown : s.vm.findClass RL = some m.cls := hown0
  have hts : ∀ w ∈ wsL_law, w.before #[Value.ref b] s = true := fun w h => hts0 w (wsL_law_in w h)
  have hA : ∀ q : Nat, s.heap.size ≤ q → (fun q : Nat => s.heap.size ≤ q) q := fun _ h => h
  have hbA : ¬ (fun q : Nat => s.heap.size ≤ q) b := Nat.not_le.mpr hbl
  have hKI : va_K D kC (tI cI) s := hK.sub [0] rfl
  have hF := hRel.hF
  have hL2 := hRel.hL2
  obtain ⟨x1, hx1⟩ : ∃ z, z = xs (4 * j + 1) := ⟨_, rfl⟩
  obtain ⟨x2, hx2⟩ : ∃ z, z = xs (4 * j + 2) := ⟨_, rfl⟩
  refine lv_aload_n hx hb dL_law_288 rfl (lv_at hl 1 rfl) ?_
  refine lv_aload_n hx hb dL_law_289 rfl (lv_at hl 0 rfl) ?_
  refine lv_iload hx hb dL_law_290 (lv_at hl 4 rfl) ?_
  refine lv_iconst (v := nI 1) hx hb dL_law_292 (by decide) ?_
  refine kAdd hx hb dL_law_293 ?_
  refine va_sld hx hb hX hbl hbA hS (vp_in_nI (n := 4 * j + 1) (by omega) (by omega)) dL_law_294 ?_
  refine kTop (v' := x1) (by rw [nI_clamp (by omega)]; exact hx1.symm) ?_
  refine lv_aload_n hx hb dL_law_295 rfl (lv_at hl 0 rfl) ?_
  refine lv_iload hx hb dL_law_296 (lv_at hl 4 rfl) ?_
  refine lv_iconst (v := nI 2) hx hb dL_law_298 (by decide) ?_
  refine kAdd hx hb dL_law_299 ?_
  refine va_sld hx hb hX hbl hbA hS (vp_in_nI (n := 4 * j + 2) (by omega) (by omega)) dL_law_300 ?_
  refine kTop (v' := x2) (by rw [nI_clamp (by omega)]; exact hx2.symm) ?_
  refine lv_aload_n hx hb dL_law_301 rfl (lv_at hl 3 rfl) ?_
  refine tSi (wr := (wM k0 k1 k2 k3 k4 k5 k6 cI th (nI F) ca ow sl gl mn va ki ra)) (As := [.ref h0, .int x1, .int x2, .ref o]) (rest := []) ⟨hx, hb, hml, hown, hts⟩ (pL_get l htr D h0 h1 h2 o cI cL f g L ca v (cnts ow F) hRel.1 hRel.2.1 x1 x2) (vx_cwSW 4 hts gL_law_L_get rfl rfl rfl (by decide +kernel) ⟨(Nat.le_of_ble_eq_true rfl), (Nat.le_of_ble_eq_true rfl)⟩) hK hP hD hS hA hZ [0, 1, 2, 10] [3, 4, 5, 6, 7, 8, 9] rfl rfl (by decide) (by decide) (by decide) rfl hl.1 rfl (Nat.le_of_ble_eq_true rfl) dL_law_302 ⟨hcs, hss⟩ (fun r u H locs hw hP hD hS => ?_)
  skip
  rcases hw with ⟨r9, u9, hp, rfl, rfl⟩ | ⟨u9, hp, rfl, rfl⟩
  · skip
    obtain ⟨rfl, mu, a, hmu, ha, rfl, rfl, rfl⟩ := hp
    have hP := hP.sub (ws' := wL h0 h1 h2 k0 k1 k2 k3 k4 k5 k6 o cI cL f g L ca ca ow sl gl F th mn va ki ra (vp_updL v 0 (f (idxP (cnts ow F) mu a)).toInt64)) [8, 9, 10, 0, 1, 2, 3, 4, 5, 6, 7] rfl
    have hD := hD.sub (ws' := wL h0 h1 h2 k0 k1 k2 k3 k4 k5 k6 o cI cL f g L ca ca ow sl gl F th mn va ki ra (vp_updL v 0 (f (idxP (cnts ow F) mu a)).toInt64)) [8, 9, 10, 0, 1, 2, 3, 4, 5, 6, 7] (by decide) rfl
    refine lv_istore (lv' := [(5, .int (nI 0)), (0, .ref b), (1, .ref h0), (2, .ref k0), (3, .ref o), (4, .int (nI (4 * j)))]) hx hb dL_law_305 hl (by decide) rfl (fun ls hl => ?_)
    refine lv_aload_n hx hb dL_law_307 rfl (lv_at hl 3 rfl) ?_
    refine lv_aload_n hx hb dL_law_308 rfl (lv_at hl 1 rfl) ?_
    refine lv_iload hx hb dL_law_309 (lv_at hl 5 rfl) ?_
    refine lv_iconst (v := nI 1) hx hb dL_law_311 (by decide) ?_
    refine kAdd hx hb dL_law_312 ?_
    refine va_sld hx hb hX hbl hbA hS (vp_in_nI (n := 4 * j + 1) (by omega) (by omega)) dL_law_313 ?_
    refine kTop (v' := nI mu) (by rw [nI_clamp (by omega)]; exact hx1.symm) ?_
    refine lv_aload_n hx hb dL_law_314 rfl (lv_at hl 1 rfl) ?_
    refine lv_iload hx hb dL_law_315 (lv_at hl 5 rfl) ?_
    refine lv_iconst (v := nI 2) hx hb dL_law_317 (by decide) ?_
    refine kAdd hx hb dL_law_318 ?_
    refine va_sld hx hb hX hbl hbA hS (vp_in_nI (n := 4 * j + 2) (by omega) (by omega)) dL_law_319 ?_
    refine kTop (v' := nI a) (by rw [nI_clamp (by omega)]; exact hx2.symm) ?_
    refine cVi (wr := (wX h0 h1 h2 cI f g (nI L) ca ++ [(o, .inl (cL, 1, .inr (.inl (vp_updL v 0 (f (idxP (cnts ow F) mu a)).toInt64))))])) (As := [.int (nI mu), .int (nI a)]) (rest := []) ⟨hx, hb, hml, hown, hts⟩ (pX1_get l D k0 k1 k2 k3 k4 k5 k6 cI th F ca ow sl gl mn va ki ra hF (nI mu) (nI a) (fun h => hRel.hc1 h)) (cwV 2 hts gL_law_X1_get rfl rfl rfl (by decide +kernel) ⟨(Nat.le_of_ble_eq_true rfl), (Nat.le_of_ble_eq_true rfl)⟩) hKI hP hD hS hA [3, 4, 5, 6, 7, 8, 9] [0, 1, 2, 10] rfl rfl (by decide) (by decide) (by decide) 0 rfl rfl rfl hl.1 rfl (Nat.le_of_ble_eq_true rfl) dL_law_320 ⟨hcs, hss⟩ (fun rb u H locs hw hP hD hS => ?_)
    skip
    rcases hw with ⟨-, rfl, a8, ha8, e8, hv⟩ | ⟨h9, -⟩
    · skip
      have ea : a = a8 := (nI_eq (by omega) (by omega)).mp e8
      subst ea
      have hP := hP.sub (ws' := wL h0 h1 h2 k0 k1 k2 k3 k4 k5 k6 o cI cL f g L ca ca ow sl gl F (nI 0) mn va ki ra (vp_updL v 0 (f (idxP (cnts ow F) mu a)).toInt64)) [0, 1, 2, 4, 5, 6, 7, 8, 9, 10, 3] rfl
      have hD := hD.sub (ws' := wL h0 h1 h2 k0 k1 k2 k3 k4 k5 k6 o cI cL f g L ca ca ow sl gl F (nI 0) mn va ki ra (vp_updL v 0 (f (idxP (cnts ow F) mu a)).toInt64)) [0, 1, 2, 4, 5, 6, 7, 8, 9, 10, 3] (by decide) rfl
      refine lv_istore (lv' := [(6, .int rb), (5, .int (nI 0)), (0, .ref b), (1, .ref h0), (2, .ref k0), (3, .ref o), (4, .int (nI (4 * j)))]) hx hb dL_law_323 hl (by decide) rfl (fun ls hl => ?_)
      refine lv_aload_n hx hb dL_law_325 rfl (lv_at hl 4 rfl) ?_
      refine cVi (wr := (wX h0 h1 h2 cI f g (nI L) ca ++ [(o, .inl (cL, 1, .inr (.inl (vp_updL v 0 (f (idxP (cnts ow F) mu a)).toInt64))))])) (As := []) (rest := []) ⟨hx, hb, hml, hown, hts⟩ (pX1_thrown l D k0 k1 k2 k3 k4 k5 k6 cI (nI 0) F ca ow sl gl mn va ki ra) (cwV 0 hts gL_law_X1_thrown rfl rfl rfl (by decide +kernel) ⟨(Nat.le_of_ble_eq_true rfl), (Nat.le_of_ble_eq_true rfl)⟩) hKI hP hD hS hA [3, 4, 5, 6, 7, 8, 9] [0, 1, 2, 10] rfl rfl (by decide) (by decide) (by decide) 0 rfl rfl rfl hl.1 rfl (Nat.le_of_ble_eq_true rfl) dL_law_326 ⟨hcs, hss⟩ (fun r u H locs hw hP hD hS => ?_)
      obtain ⟨rfl, rfl⟩ := hw
      have hP := hP.sub (ws' := wL h0 h1 h2 k0 k1 k2 k3 k4 k5 k6 o cI cL f g L ca ca ow sl gl F (nI 0) mn va ki ra (vp_updL v 0 (f (idxP (cnts ow F) mu a)).toInt64)) [0, 1, 2, 4, 5, 6, 7, 8, 9, 10, 3] rfl
      have hD := hD.sub (ws' := wL h0 h1 h2 k0 k1 k2 k3 k4 k5 k6 o cI cL f g L ca ca ow sl gl F (nI 0) mn va ki ra (vp_updL v 0 (f (idxP (cnts ow F) mu a)).toInt64)) [0, 1, 2, 4, 5, 6, 7, 8, 9, 10, 3] (by decide) rfl
      refine lv_iload hx hb dL_law_329 (lv_at hl 1 rfl) ?_
      refine lv_icmp_eq (tgt := 336) hx hb dL_law_331 (by decide) (fun c7 => ?_) (fun c7 => ?_)
      · skip
        refine lv_iload hx hb dL_law_336 (lv_at hl 1 rfl) ?_
        refine kNe0 (a := 0) (by omega) (tgt := 353) hx hb dL_law_338 (by decide) (fun c8 => ?_) (fun c8 => ?_)
        · skip
          exact absurd c8 (by decide)
        · skip
          refine lv_aload_n hx hb dL_law_341 rfl (lv_at hl 5 rfl) ?_
          refine lv_iconst (v := nI 0) hx hb dL_law_342 (by decide) ?_
          refine va_lald hx hb hK hP 10 1 rfl rfl (vp_in_nI (n := 0) (by decide) (by decide)) dL_law_343 ?_
          refine lv_iload hx hb dL_law_344 (lv_at hl 0 rfl) ?_
          refine lv_i2l hx hb dL_law_346 rfl ?_
          refine W.lcmp hx hb dL_law_347 ?_
          refine kTop (v' := nI 0) (lg_eq (pk_uLs.trans (congrArg Int32.toInt64 (hRel.getv hmu ha hv)))) ?_
          refine kEq0 (a := 0) (by omega) (tgt := 353) hx hb dL_law_348 (by decide) (fun c9 => ?_) (fun c9 => ?_)
          · skip
            refine lv_goto (tgt := 765) hx hb dL_law_353 (by decide) ?_
            exact kk f g L ca ow sl gl F (nI 0) mn va ki ra (vp_updL v 0 (f (idxP (cnts ow F) mu a)).toInt64) _ _ _ hRel hP hD hS (lv_sub (l' := [(0, .ref b), (1, .ref h0), (2, .ref k0), (3, .ref o), (4, .int (nI (4 * j)))]) hl [2, 3, 4, 5, 6] rfl)
          · skip
            exact absurd c9 (by decide)
      · skip
        exact absurd rfl c7
    · skip
      exact absurd ⟨⟨mu, hmu, rfl⟩, ⟨a, ha, rfl⟩⟩ h9
  · skip
    obtain ⟨rfl, -, hp⟩ := hp
    have hp : ¬ (inR x1 4 ∧ inR x2 24) := fun h => hp.elim (fun q => q h.1) (fun q => q h.2)
    have hP := hP.sub (ws' := wL h0 h1 h2 k0 k1 k2 k3 k4 k5 k6 o cI cL f g L ca ca ow sl gl F th mn va ki ra v) [8, 9, 10, 0, 1, 2, 3, 4, 5, 6, 7] rfl
    have hD := hD.sub (ws' := wL h0 h1 h2 k0 k1 k2 k3 k4 k5 k6 o cI cL f g L ca ca ow sl gl F th mn va ki ra v) [8, 9, 10, 0, 1, 2, 3, 4, 5, 6, 7] (by decide) rfl
    refine lv_istore (lv' := [(5, .int (nI 1)), (0, .ref b), (1, .ref h0), (2, .ref k0), (3, .ref o), (4, .int (nI (4 * j)))]) hx hb dL_law_305 hl (by decide) rfl (fun ls hl => ?_)
    refine lv_aload_n hx hb dL_law_307 rfl (lv_at hl 3 rfl) ?_
    refine lv_aload_n hx hb dL_law_308 rfl (lv_at hl 1 rfl) ?_
    refine lv_iload hx hb dL_law_309 (lv_at hl 5 rfl) ?_
    refine lv_iconst (v := nI 1) hx hb dL_law_311 (by decide) ?_
    refine kAdd hx hb dL_law_312 ?_
    refine va_sld hx hb hX hbl hbA hS (vp_in_nI (n := 4 * j + 1) (by omega) (by omega)) dL_law_313 ?_
    refine kTop (v' := x1) (by rw [nI_clamp (by omega)]; exact hx1.symm) ?_
    refine lv_aload_n hx hb dL_law_314 rfl (lv_at hl 1 rfl) ?_
    refine lv_iload hx hb dL_law_315 (lv_at hl 5 rfl) ?_
    refine lv_iconst (v := nI 2) hx hb dL_law_317 (by decide) ?_
    refine kAdd hx hb dL_law_318 ?_
    refine va_sld hx hb hX hbl hbA hS (vp_in_nI (n := 4 * j + 2) (by omega) (by omega)) dL_law_319 ?_
    refine kTop (v' := x2) (by rw [nI_clamp (by omega)]; exact hx2.symm) ?_
    refine cVi (wr := (wX h0 h1 h2 cI f g (nI L) ca ++ [(o, .inl (cL, 1, .inr (.inl v)))])) (As := [.int x1, .int x2]) (rest := []) ⟨hx, hb, hml, hown, hts⟩ (pX1_get l D k0 k1 k2 k3 k4 k5 k6 cI th F ca ow sl gl mn va ki ra hF x1 x2 (fun h => hRel.hc1 h)) (cwV 2 hts gL_law_X1_get rfl rfl rfl (by decide +kernel) ⟨(Nat.le_of_ble_eq_true rfl), (Nat.le_of_ble_eq_true rfl)⟩) hKI hP hD hS hA [3, 4, 5, 6, 7, 8, 9] [0, 1, 2, 10] rfl rfl (by decide) (by decide) (by decide) 0 rfl rfl rfl hl.1 rfl (Nat.le_of_ble_eq_true rfl) dL_law_320 ⟨hcs, hss⟩ (fun rb u H locs hw hP hD hS => ?_)
    skip
    rcases hw with ⟨h9, -⟩ | ⟨-, rfl⟩
    · skip
      exact absurd h9 hp
    · skip
      have hP := hP.sub (ws' := wL h0 h1 h2 k0 k1 k2 k3 k4 k5 k6 o cI cL f g L ca ca ow sl gl F (nI 1) mn va ki ra v) [0, 1, 2, 4, 5, 6, 7, 8, 9, 10, 3] rfl
      have hD := hD.sub (ws' := wL h0 h1 h2 k0 k1 k2 k3 k4 k5 k6 o cI cL f g L ca ca ow sl gl F (nI 1) mn va ki ra v) [0, 1, 2, 4, 5, 6, 7, 8, 9, 10, 3] (by decide) rfl
      refine lv_istore (lv' := [(6, .int rb), (5, .int (nI 1)), (0, .ref b), (1, .ref h0), (2, .ref k0), (3, .ref o), (4, .int (nI (4 * j)))]) hx hb dL_law_323 hl (by decide) rfl (fun ls hl => ?_)
      refine lv_aload_n hx hb dL_law_325 rfl (lv_at hl 4 rfl) ?_
      refine cVi (wr := (wX h0 h1 h2 cI f g (nI L) ca ++ [(o, .inl (cL, 1, .inr (.inl v)))])) (As := []) (rest := []) ⟨hx, hb, hml, hown, hts⟩ (pX1_thrown l D k0 k1 k2 k3 k4 k5 k6 cI (nI 1) F ca ow sl gl mn va ki ra) (cwV 0 hts gL_law_X1_thrown rfl rfl rfl (by decide +kernel) ⟨(Nat.le_of_ble_eq_true rfl), (Nat.le_of_ble_eq_true rfl)⟩) hKI hP hD hS hA [3, 4, 5, 6, 7, 8, 9] [0, 1, 2, 10] rfl rfl (by decide) (by decide) (by decide) 0 rfl rfl rfl hl.1 rfl (Nat.le_of_ble_eq_true rfl) dL_law_326 ⟨hcs, hss⟩ (fun r u H locs hw hP hD hS => ?_)
      obtain ⟨rfl, rfl⟩ := hw
      have hP := hP.sub (ws' := wL h0 h1 h2 k0 k1 k2 k3 k4 k5 k6 o cI cL f g L ca ca ow sl gl F (nI 1) mn va ki ra v) [0, 1, 2, 4, 5, 6, 7, 8, 9, 10, 3] rfl
      have hD := hD.sub (ws' := wL h0 h1 h2 k0 k1 k2 k3 k4 k5 k6 o cI cL f g L ca ca ow sl gl F (nI 1) mn va ki ra v) [0, 1, 2, 4, 5, 6, 7, 8, 9, 10, 3] (by decide) rfl
      refine lv_iload hx hb dL_law_329 (lv_at hl 1 rfl) ?_
      refine lv_icmp_eq (tgt := 336) hx hb dL_law_331 (by decide) (fun c7 => ?_) (fun c7 => ?_)
      · skip
        refine lv_iload hx hb dL_law_336 (lv_at hl 1 rfl) ?_
        refine kNe0 (a := 1) (by omega) (tgt := 353) hx hb dL_law_338 (by decide) (fun c8 => ?_) (fun c8 => ?_)
        · skip
          refine lv_goto (tgt := 765) hx hb dL_law_353 (by decide) ?_
          exact kk f g L ca ow sl gl F (nI 1) mn va ki ra v _ _ _ hRel hP hD hS (lv_sub (l' := [(0, .ref b), (1, .ref h0), (2, .ref k0), (3, .ref o), (4, .int (nI (4 * j)))]) hl [2, 3, 4, 5, 6] rfl)
        · skip
          exact absurd c8 (by decide)
      · skip
        exact absurd rfl c7

set_option maxHeartbeats 4000000 in
set_option maxRecDepth 100000 in
theorem law_put {p : Program} {l : Launch} {e : Env} {s : State} {m : MethodId} {below : List Frame} {meth : Method} {c : Code} {D : va_G} {b Ls : Nat} {xs : Nat → Int32} (hL : Ls ≤ 2048) (C0 : lw_At p s m meth c b Ls xs) (htr : l.stackTraces = false) {cI cL : ClassId} (hK : va_K D kC (tIL cI cL) s) (hZ : kZ (fun q : Nat => s.heap.size ≤ q) s s.heap) {h0 h1 h2 k0 k1 k2 k3 k4 k5 k6 o : Nat} {f g : Nat → Int32} {L : Nat} {ca : Int32} {ow sl gl : Nat → Int32} {F : Nat} {th mn : Int32} {va ki ra : Nat → Int32} {v : Nat → Int64} {j : Nat} (hj : 4 * j + 4 ≤ Ls) (hRel : Rel f g L ow sl gl F) {H : Heap} {locs : List Loc} {ls : Array Slot} (hP : va_P D kC (wL h0 h1 h2 k0 k1 k2 k3 k4 k5 k6 o cI cL f g L ca ca ow sl gl F th mn va ki ra v) H) (hD : va_D (fun q : Nat => s.heap.size ≤ q) (wL h0 h1 h2 k0 k1 k2 k3 k4 k5 k6 o cI cL f g L ca ca ow sl gl F th mn va ki ra v)) (hS : va_S (fun q : Nat => s.heap.size ≤ q) s.heap H locs) (hl : lv_has ls 7 [(0, .ref b), (1, .ref h0), (2, .ref k0), (3, .ref o), (4, .int (nI (4 * j)))]) {cs ss : Nat} (hcs : cs + 4 ≤ 601024) (hss : ss + 24 ≤ 7293033)
    (kk : ∀ (f g : Nat → Int32) (L : Nat) (ca : Int32) (ow sl gl : Nat → Int32) (F : Nat) (th mn : Int32) (va ki ra : Nat → Int32) (v : Nat → Int64) (H : Heap) (locs : List Loc) (ls : Array Slot), Rel f g L ow sl gl F → va_P D kC (wL h0 h1 h2 k0 k1 k2 k3 k4 k5 k6 o cI cL f g L ca ca ow sl gl F th mn va ki ra v) H → va_D (fun q : Nat => s.heap.size ≤ q) (wL h0 h1 h2 k0 k1 k2 k3 k4 k5 k6 o cI cL f g L ca ca ow sl gl F th mn va ki ra v) → va_S (fun q : Nat => s.heap.size ≤ q) s.heap H locs → lv_has ls 7 [(0, .ref b), (1, .ref h0), (2, .ref k0), (3, .ref o), (4, .int (nI (4 * j)))] → W p l e room_1 s m #[Value.ref b] below meth c H locs (cs + 4) (ss + 24) (lw_Z below #[Value.ref b] s) (F0 m 765 ls [])) : W p l e room_1 s m #[Value.ref b] below meth c H locs cs ss (lw_Z below #[Value.ref b] s) (F0 m 356 ls []) := by
  obtain ⟨hx, hb0, hr, hml, hown0, hts0, hX, hbl, hlocks, hgv⟩ := C0
  have hb : c.code = cL_law := hb0
  have hown : s.vm.findClass RL = some m.cls := hown0
  have hts : ∀ w ∈ wsL_law, w.before #[Value.ref b] s = true := fun w h => hts0 w (wsL_law_in w h)
  have hA : ∀ q : Nat, s.heap.size ≤ q → (fun q : Nat => s.heap.size ≤ q) q := fun _ h => h
  have hbA : ¬ (fun q : Nat => s.heap.size ≤ q) b := Nat.not_le.mpr hbl
  have hKI : va_K D kC (tI cI) s := hK.sub [0] rfl
  have hF := hRel.hF
  have hL2 := hRel.hL2
  obtain ⟨x1, hx1⟩ : ∃ z, z = xs (4 * j + 1) := ⟨_, rfl⟩
  obtain ⟨x2, hx2⟩ : ∃ z, z = xs (4 * j + 2) := ⟨_, rfl⟩
  obtain ⟨x3, hx3⟩ : ∃ z, z = xs (4 * j + 3) := ⟨_, rfl⟩
  refine lv_aload_n hx hb dL_law_356 rfl (lv_at hl 1 rfl) ?_
  refine lv_aload_n hx hb dL_law_357 rfl (lv_at hl 0 rfl) ?_
  refine lv_iload hx hb dL_law_358 (lv_at hl 4 rfl) ?_
  refine lv_iconst (v := nI 1) hx hb dL_law_360 (by decide) ?_
  refine kAdd hx hb dL_law_361 ?_
  refine va_sld hx hb hX hbl hbA hS (vp_in_nI (n := 4 * j + 1) (by omega) (by omega)) dL_law_362 ?_
  refine kTop (v' := x1) (by rw [nI_clamp (by omega)]; exact hx1.symm) ?_
  refine lv_aload_n hx hb dL_law_363 rfl (lv_at hl 0 rfl) ?_
  refine lv_iload hx hb dL_law_364 (lv_at hl 4 rfl) ?_
  refine lv_iconst (v := nI 2) hx hb dL_law_366 (by decide) ?_
  refine kAdd hx hb dL_law_367 ?_
  refine va_sld hx hb hX hbl hbA hS (vp_in_nI (n := 4 * j + 2) (by omega) (by omega)) dL_law_368 ?_
  refine kTop (v' := x2) (by rw [nI_clamp (by omega)]; exact hx2.symm) ?_
  refine lv_aload_n hx hb dL_law_369 rfl (lv_at hl 0 rfl) ?_
  refine lv_iload hx hb dL_law_370 (lv_at hl 4 rfl) ?_
  refine lv_iconst (v := nI 3) hx hb dL_law_372 (by decide) ?_
  refine kAdd hx hb dL_law_373 ?_
  refine va_sld hx hb hX hbl hbA hS (vp_in_nI (n := 4 * j + 3) (by omega) (by omega)) dL_law_374 ?_
  refine kTop (v' := x3) (by rw [nI_clamp (by omega)]; exact hx3.symm) ?_
  refine lv_aload_n hx hb dL_law_375 rfl (lv_at hl 3 rfl) ?_
  refine tSi (wr := (wM k0 k1 k2 k3 k4 k5 k6 cI th (nI F) ca ow sl gl mn va ki ra)) (As := [.ref h0, .int x1, .int x2, .int x3, .ref o]) (rest := []) ⟨hx, hb, hml, hown, hts⟩ (pL_put l htr D h0 h1 h2 o cI cL f g L ca v (cnts ow F) hRel.1 hRel.2.1 x1 x2 x3) (vx_cwSW 5 hts gL_law_L_put rfl rfl rfl (by decide +kernel) ⟨(Nat.le_of_ble_eq_true rfl), (Nat.le_of_ble_eq_true rfl)⟩) hK hP hD hS hA hZ [0, 1, 2, 10] [3, 4, 5, 6, 7, 8, 9] rfl rfl (by decide) (by decide) (by decide) rfl hl.1 rfl (Nat.le_of_ble_eq_true rfl) dL_law_376 ⟨hcs, hss⟩ (fun r u H locs hw hP hD hS => ?_)
  skip
  rcases hw with ⟨r9, u9, hp, rfl, rfl⟩ | ⟨u9, hp, rfl, rfl⟩ | ⟨u9, hp, rfl, rfl⟩
  · skip
    obtain ⟨hz, mu, a, hmu, ha, rfl, rfl, rfl, rfl⟩ := hp
    have hP := hP.sub (ws' := wL h0 h1 h2 k0 k1 k2 k3 k4 k5 k6 o cI cL (upd f (idxP (cnts ow F) mu a) x3) g L ca ca ow sl gl F th mn va ki ra (vp_updL v 0 (f (idxP (cnts ow F) mu a)).toInt64)) [8, 9, 10, 0, 1, 2, 3, 4, 5, 6, 7] rfl
    have hD := hD.sub (ws' := wL h0 h1 h2 k0 k1 k2 k3 k4 k5 k6 o cI cL (upd f (idxP (cnts ow F) mu a) x3) g L ca ca ow sl gl F th mn va ki ra (vp_updL v 0 (f (idxP (cnts ow F) mu a)).toInt64)) [8, 9, 10, 0, 1, 2, 3, 4, 5, 6, 7] (by decide) rfl
    refine lv_istore (lv' := [(5, .int (nI 0)), (0, .ref b), (1, .ref h0), (2, .ref k0), (3, .ref o), (4, .int (nI (4 * j)))]) hx hb dL_law_379 hl (by decide) rfl (fun ls hl => ?_)
    refine lv_aload_n hx hb dL_law_381 rfl (lv_at hl 3 rfl) ?_
    refine lv_aload_n hx hb dL_law_382 rfl (lv_at hl 1 rfl) ?_
    refine lv_iload hx hb dL_law_383 (lv_at hl 5 rfl) ?_
    refine lv_iconst (v := nI 1) hx hb dL_law_385 (by decide) ?_
    refine kAdd hx hb dL_law_386 ?_
    refine va_sld hx hb hX hbl hbA hS (vp_in_nI (n := 4 * j + 1) (by omega) (by omega)) dL_law_387 ?_
    refine kTop (v' := nI mu) (by rw [nI_clamp (by omega)]; exact hx1.symm) ?_
    refine lv_aload_n hx hb dL_law_388 rfl (lv_at hl 1 rfl) ?_
    refine lv_iload hx hb dL_law_389 (lv_at hl 5 rfl) ?_
    refine lv_iconst (v := nI 2) hx hb dL_law_391 (by decide) ?_
    refine kAdd hx hb dL_law_392 ?_
    refine va_sld hx hb hX hbl hbA hS (vp_in_nI (n := 4 * j + 2) (by omega) (by omega)) dL_law_393 ?_
    refine kTop (v' := nI a) (by rw [nI_clamp (by omega)]; exact hx2.symm) ?_
    refine lv_aload_n hx hb dL_law_394 rfl (lv_at hl 1 rfl) ?_
    refine lv_iload hx hb dL_law_395 (lv_at hl 5 rfl) ?_
    refine lv_iconst (v := nI 3) hx hb dL_law_397 (by decide) ?_
    refine kAdd hx hb dL_law_398 ?_
    refine va_sld hx hb hX hbl hbA hS (vp_in_nI (n := 4 * j + 3) (by omega) (by omega)) dL_law_399 ?_
    refine kTop (v' := x3) (by rw [nI_clamp (by omega)]; exact hx3.symm) ?_
    refine cVi (wr := (wX h0 h1 h2 cI (upd f (idxP (cnts ow F) mu a) x3) g (nI L) ca ++ [(o, .inl (cL, 1, .inr (.inl (vp_updL v 0 (f (idxP (cnts ow F) mu a)).toInt64))))])) (As := [.int (nI mu), .int (nI a), .int x3]) (rest := []) ⟨hx, hb, hml, hown, hts⟩ (pX1_put l D k0 k1 k2 k3 k4 k5 k6 cI th F ca ow sl gl mn va ki ra hF (nI mu) (nI a) x3 (fun h => hRel.hc1 h)) (cwV 3 hts gL_law_X1_put rfl rfl rfl (by decide +kernel) ⟨(Nat.le_of_ble_eq_true rfl), (Nat.le_of_ble_eq_true rfl)⟩) hKI hP hD hS hA [3, 4, 5, 6, 7, 8, 9] [0, 1, 2, 10] rfl rfl (by decide) (by decide) (by decide) 0 rfl rfl rfl hl.1 rfl (Nat.le_of_ble_eq_true rfl) dL_law_400 ⟨hcs, hss⟩ (fun rb u H locs hw hP hD hS => ?_)
    skip
    rcases hw with ⟨-, -, a8, ha8, e8, ⟨hlt, q, hq, hoq, hcq, rfl, rfl⟩ | ⟨hge, rfl, rfl⟩⟩ | ⟨h9, -⟩ | ⟨-, h9, -⟩
    · skip
      have ea : a = a8 := (nI_eq (by omega) (by omega)).mp e8
      subst ea
      have hP := hP.sub (ws' := wL h0 h1 h2 k0 k1 k2 k3 k4 k5 k6 o cI cL (upd f (idxP (cnts ow F) mu a) x3) g L ca ca ow (upd sl (8 * q + a) x3) gl F (nI 0) mn va ki ra (vp_updL v 0 (f (idxP (cnts ow F) mu a)).toInt64)) [0, 1, 2, 4, 5, 6, 7, 8, 9, 10, 3] rfl
      have hD := hD.sub (ws' := wL h0 h1 h2 k0 k1 k2 k3 k4 k5 k6 o cI cL (upd f (idxP (cnts ow F) mu a) x3) g L ca ca ow (upd sl (8 * q + a) x3) gl F (nI 0) mn va ki ra (vp_updL v 0 (f (idxP (cnts ow F) mu a)).toInt64)) [0, 1, 2, 4, 5, 6, 7, 8, 9, 10, 3] (by decide) rfl
      refine lv_istore (lv' := [(6, .int (sl (8 * q + a))), (5, .int (nI 0)), (0, .ref b), (1, .ref h0), (2, .ref k0), (3, .ref o), (4, .int (nI (4 * j)))]) hx hb dL_law_403 hl (by decide) rfl (fun ls hl => ?_)
      refine lv_aload_n hx hb dL_law_405 rfl (lv_at hl 4 rfl) ?_
      refine cVi (wr := (wX h0 h1 h2 cI (upd f (idxP (cnts ow F) mu a) x3) g (nI L) ca ++ [(o, .inl (cL, 1, .inr (.inl (vp_updL v 0 (f (idxP (cnts ow F) mu a)).toInt64))))])) (As := []) (rest := []) ⟨hx, hb, hml, hown, hts⟩ (pX1_thrown l D k0 k1 k2 k3 k4 k5 k6 cI (nI 0) F ca ow (upd sl (8 * q + a) x3) gl mn va ki ra) (cwV 0 hts gL_law_X1_thrown rfl rfl rfl (by decide +kernel) ⟨(Nat.le_of_ble_eq_true rfl), (Nat.le_of_ble_eq_true rfl)⟩) hKI hP hD hS hA [3, 4, 5, 6, 7, 8, 9] [0, 1, 2, 10] rfl rfl (by decide) (by decide) (by decide) 0 rfl rfl rfl hl.1 rfl (Nat.le_of_ble_eq_true rfl) dL_law_406 ⟨hcs, hss⟩ (fun r u H locs hw hP hD hS => ?_)
      obtain ⟨rfl, rfl⟩ := hw
      have hP := hP.sub (ws' := wL h0 h1 h2 k0 k1 k2 k3 k4 k5 k6 o cI cL (upd f (idxP (cnts ow F) mu a) x3) g L ca ca ow (upd sl (8 * q + a) x3) gl F (nI 0) mn va ki ra (vp_updL v 0 (f (idxP (cnts ow F) mu a)).toInt64)) [0, 1, 2, 4, 5, 6, 7, 8, 9, 10, 3] rfl
      have hD := hD.sub (ws' := wL h0 h1 h2 k0 k1 k2 k3 k4 k5 k6 o cI cL (upd f (idxP (cnts ow F) mu a) x3) g L ca ca ow (upd sl (8 * q + a) x3) gl F (nI 0) mn va ki ra (vp_updL v 0 (f (idxP (cnts ow F) mu a)).toInt64)) [0, 1, 2, 4, 5, 6, 7, 8, 9, 10, 3] (by decide) rfl
      refine lv_iload hx hb dL_law_409 (lv_at hl 1 rfl) ?_
      refine lv_icmp_eq (tgt := 416) hx hb dL_law_411 (by decide) (fun c7 => ?_) (fun c7 => ?_)
      · skip
        refine lv_iload hx hb dL_law_416 (lv_at hl 1 rfl) ?_
        refine kNe0 (a := 0) (by omega) (tgt := 433) hx hb dL_law_418 (by decide) (fun c8 => ?_) (fun c8 => ?_)
        · skip
          exact absurd c8 (by decide)
        · skip
          refine lv_aload_n hx hb dL_law_421 rfl (lv_at hl 5 rfl) ?_
          refine lv_iconst (v := nI 0) hx hb dL_law_422 (by decide) ?_
          refine va_lald hx hb hK hP 10 1 rfl rfl (vp_in_nI (n := 0) (by decide) (by decide)) dL_law_423 ?_
          refine lv_iload hx hb dL_law_424 (lv_at hl 0 rfl) ?_
          refine lv_i2l hx hb dL_law_426 rfl ?_
          refine W.lcmp hx hb dL_law_427 ?_
          refine kTop (v' := nI 0) (lg_eq (pk_uLs.trans (congrArg Int32.toInt64 (hRel.getv hmu ha (Or.inl ⟨hlt, q, hq, hoq, hcq, rfl⟩))))) ?_
          refine kEq0 (a := 0) (by omega) (tgt := 433) hx hb dL_law_428 (by decide) (fun c9 => ?_) (fun c9 => ?_)
          · skip
            refine lv_goto (tgt := 765) hx hb dL_law_433 (by decide) ?_
            exact kk (upd f (idxP (cnts ow F) mu a) x3) g L ca ow (upd sl (8 * q + a) x3) gl F (nI 0) mn va ki ra (vp_updL v 0 (f (idxP (cnts ow F) mu a)).toInt64) _ _ _ (hRel.putS hmu hlt hq hoq hcq hz) hP hD hS (lv_sub (l' := [(0, .ref b), (1, .ref h0), (2, .ref k0), (3, .ref o), (4, .int (nI (4 * j)))]) hl [2, 3, 4, 5, 6] rfl)
          · skip
            exact absurd c9 (by decide)
      · skip
        exact absurd rfl c7
    · skip
      have ea : a = a8 := (nI_eq (by omega) (by omega)).mp e8
      subst ea
      have hP := hP.sub (ws' := wL h0 h1 h2 k0 k1 k2 k3 k4 k5 k6 o cI cL (upd f (idxP (cnts ow F) mu a) x3) g L ca ca ow sl (upd gl (a - 8) x3) F (nI 0) mn va ki ra (vp_updL v 0 (f (idxP (cnts ow F) mu a)).toInt64)) [0, 1, 2, 4, 5, 6, 7, 8, 9, 10, 3] rfl
      have hD := hD.sub (ws' := wL h0 h1 h2 k0 k1 k2 k3 k4 k5 k6 o cI cL (upd f (idxP (cnts ow F) mu a) x3) g L ca ca ow sl (upd gl (a - 8) x3) F (nI 0) mn va ki ra (vp_updL v 0 (f (idxP (cnts ow F) mu a)).toInt64)) [0, 1, 2, 4, 5, 6, 7, 8, 9, 10, 3] (by decide) rfl
      refine lv_istore (lv' := [(6, .int (gl (a - 8))), (5, .int (nI 0)), (0, .ref b), (1, .ref h0), (2, .ref k0), (3, .ref o), (4, .int (nI (4 * j)))]) hx hb dL_law_403 hl (by decide) rfl (fun ls hl => ?_)
      refine lv_aload_n hx hb dL_law_405 rfl (lv_at hl 4 rfl) ?_
      refine cVi (wr := (wX h0 h1 h2 cI (upd f (idxP (cnts ow F) mu a) x3) g (nI L) ca ++ [(o, .inl (cL, 1, .inr (.inl (vp_updL v 0 (f (idxP (cnts ow F) mu a)).toInt64))))])) (As := []) (rest := []) ⟨hx, hb, hml, hown, hts⟩ (pX1_thrown l D k0 k1 k2 k3 k4 k5 k6 cI (nI 0) F ca ow sl (upd gl (a - 8) x3) mn va ki ra) (cwV 0 hts gL_law_X1_thrown rfl rfl rfl (by decide +kernel) ⟨(Nat.le_of_ble_eq_true rfl), (Nat.le_of_ble_eq_true rfl)⟩) hKI hP hD hS hA [3, 4, 5, 6, 7, 8, 9] [0, 1, 2, 10] rfl rfl (by decide) (by decide) (by decide) 0 rfl rfl rfl hl.1 rfl (Nat.le_of_ble_eq_true rfl) dL_law_406 ⟨hcs, hss⟩ (fun r u H locs hw hP hD hS => ?_)
      obtain ⟨rfl, rfl⟩ := hw
      have hP := hP.sub (ws' := wL h0 h1 h2 k0 k1 k2 k3 k4 k5 k6 o cI cL (upd f (idxP (cnts ow F) mu a) x3) g L ca ca ow sl (upd gl (a - 8) x3) F (nI 0) mn va ki ra (vp_updL v 0 (f (idxP (cnts ow F) mu a)).toInt64)) [0, 1, 2, 4, 5, 6, 7, 8, 9, 10, 3] rfl
      have hD := hD.sub (ws' := wL h0 h1 h2 k0 k1 k2 k3 k4 k5 k6 o cI cL (upd f (idxP (cnts ow F) mu a) x3) g L ca ca ow sl (upd gl (a - 8) x3) F (nI 0) mn va ki ra (vp_updL v 0 (f (idxP (cnts ow F) mu a)).toInt64)) [0, 1, 2, 4, 5, 6, 7, 8, 9, 10, 3] (by decide) rfl
      refine lv_iload hx hb dL_law_409 (lv_at hl 1 rfl) ?_
      refine lv_icmp_eq (tgt := 416) hx hb dL_law_411 (by decide) (fun c7 => ?_) (fun c7 => ?_)
      · skip
        refine lv_iload hx hb dL_law_416 (lv_at hl 1 rfl) ?_
        refine kNe0 (a := 0) (by omega) (tgt := 433) hx hb dL_law_418 (by decide) (fun c8 => ?_) (fun c8 => ?_)
        · skip
          exact absurd c8 (by decide)
        · skip
          refine lv_aload_n hx hb dL_law_421 rfl (lv_at hl 5 rfl) ?_
          refine lv_iconst (v := nI 0) hx hb dL_law_422 (by decide) ?_
          refine va_lald hx hb hK hP 10 1 rfl rfl (vp_in_nI (n := 0) (by decide) (by decide)) dL_law_423 ?_
          refine lv_iload hx hb dL_law_424 (lv_at hl 0 rfl) ?_
          refine lv_i2l hx hb dL_law_426 rfl ?_
          refine W.lcmp hx hb dL_law_427 ?_
          refine kTop (v' := nI 0) (lg_eq (pk_uLs.trans (congrArg Int32.toInt64 (hRel.getv hmu ha (Or.inr ⟨hge, rfl⟩))))) ?_
          refine kEq0 (a := 0) (by omega) (tgt := 433) hx hb dL_law_428 (by decide) (fun c9 => ?_) (fun c9 => ?_)
          · skip
            refine lv_goto (tgt := 765) hx hb dL_law_433 (by decide) ?_
            exact kk (upd f (idxP (cnts ow F) mu a) x3) g L ca ow sl (upd gl (a - 8) x3) F (nI 0) mn va ki ra (vp_updL v 0 (f (idxP (cnts ow F) mu a)).toInt64) _ _ _ (hRel.putG hge ha hz) hP hD hS (lv_sub (l' := [(0, .ref b), (1, .ref h0), (2, .ref k0), (3, .ref o), (4, .int (nI (4 * j)))]) hl [2, 3, 4, 5, 6] rfl)
          · skip
            exact absurd c9 (by decide)
      · skip
        exact absurd rfl c7
    · skip
      exact absurd ⟨⟨mu, hmu, rfl⟩, ⟨a, ha, rfl⟩⟩ h9
    · skip
      exact absurd hz h9
  · skip
    obtain ⟨rfl, ⟨-, hp⟩ | ⟨h9, -⟩⟩ := hp
    · skip
      have hp : ¬ (inR x1 4 ∧ inR x2 24) := fun h => hp.elim (fun q => q h.1) (fun q => q h.2)
      have hP := hP.sub (ws' := wL h0 h1 h2 k0 k1 k2 k3 k4 k5 k6 o cI cL f g L ca ca ow sl gl F th mn va ki ra v) [8, 9, 10, 0, 1, 2, 3, 4, 5, 6, 7] rfl
      have hD := hD.sub (ws' := wL h0 h1 h2 k0 k1 k2 k3 k4 k5 k6 o cI cL f g L ca ca ow sl gl F th mn va ki ra v) [8, 9, 10, 0, 1, 2, 3, 4, 5, 6, 7] (by decide) rfl
      refine lv_istore (lv' := [(5, .int (nI 1)), (0, .ref b), (1, .ref h0), (2, .ref k0), (3, .ref o), (4, .int (nI (4 * j)))]) hx hb dL_law_379 hl (by decide) rfl (fun ls hl => ?_)
      refine lv_aload_n hx hb dL_law_381 rfl (lv_at hl 3 rfl) ?_
      refine lv_aload_n hx hb dL_law_382 rfl (lv_at hl 1 rfl) ?_
      refine lv_iload hx hb dL_law_383 (lv_at hl 5 rfl) ?_
      refine lv_iconst (v := nI 1) hx hb dL_law_385 (by decide) ?_
      refine kAdd hx hb dL_law_386 ?_
      refine va_sld hx hb hX hbl hbA hS (vp_in_nI (n := 4 * j + 1) (by omega) (by omega)) dL_law_387 ?_
      refine kTop (v' := x1) (by rw [nI_clamp (by omega)]; exact hx1.symm) ?_
      refine lv_aload_n hx hb dL_law_388 rfl (lv_at hl 1 rfl) ?_
      refine lv_iload hx hb dL_law_389 (lv_at hl 5 rfl) ?_
      refine lv_iconst (v := nI 2) hx hb dL_law_391 (by decide) ?_
      refine kAdd hx hb dL_law_392 ?_
      refine va_sld hx hb hX hbl hbA hS (vp_in_nI (n := 4 * j + 2) (by omega) (by omega)) dL_law_393 ?_
      refine kTop (v' := x2) (by rw [nI_clamp (by omega)]; exact hx2.symm) ?_
      refine lv_aload_n hx hb dL_law_394 rfl (lv_at hl 1 rfl) ?_
      refine lv_iload hx hb dL_law_395 (lv_at hl 5 rfl) ?_
      refine lv_iconst (v := nI 3) hx hb dL_law_397 (by decide) ?_
      refine kAdd hx hb dL_law_398 ?_
      refine va_sld hx hb hX hbl hbA hS (vp_in_nI (n := 4 * j + 3) (by omega) (by omega)) dL_law_399 ?_
      refine kTop (v' := x3) (by rw [nI_clamp (by omega)]; exact hx3.symm) ?_
      refine cVi (wr := (wX h0 h1 h2 cI f g (nI L) ca ++ [(o, .inl (cL, 1, .inr (.inl v)))])) (As := [.int x1, .int x2, .int x3]) (rest := []) ⟨hx, hb, hml, hown, hts⟩ (pX1_put l D k0 k1 k2 k3 k4 k5 k6 cI th F ca ow sl gl mn va ki ra hF x1 x2 x3 (fun h => hRel.hc1 h)) (cwV 3 hts gL_law_X1_put rfl rfl rfl (by decide +kernel) ⟨(Nat.le_of_ble_eq_true rfl), (Nat.le_of_ble_eq_true rfl)⟩) hKI hP hD hS hA [3, 4, 5, 6, 7, 8, 9] [0, 1, 2, 10] rfl rfl (by decide) (by decide) (by decide) 0 rfl rfl rfl hl.1 rfl (Nat.le_of_ble_eq_true rfl) dL_law_400 ⟨hcs, hss⟩ (fun rb u H locs hw hP hD hS => ?_)
      skip
      rcases hw with ⟨h9, -⟩ | ⟨-, rfl⟩ | ⟨h9, -⟩
      · skip
        exact absurd h9 hp
      · skip
        have hP := hP.sub (ws' := wL h0 h1 h2 k0 k1 k2 k3 k4 k5 k6 o cI cL f g L ca ca ow sl gl F (nI 1) mn va ki ra v) [0, 1, 2, 4, 5, 6, 7, 8, 9, 10, 3] rfl
        have hD := hD.sub (ws' := wL h0 h1 h2 k0 k1 k2 k3 k4 k5 k6 o cI cL f g L ca ca ow sl gl F (nI 1) mn va ki ra v) [0, 1, 2, 4, 5, 6, 7, 8, 9, 10, 3] (by decide) rfl
        refine lv_istore (lv' := [(6, .int rb), (5, .int (nI 1)), (0, .ref b), (1, .ref h0), (2, .ref k0), (3, .ref o), (4, .int (nI (4 * j)))]) hx hb dL_law_403 hl (by decide) rfl (fun ls hl => ?_)
        refine lv_aload_n hx hb dL_law_405 rfl (lv_at hl 4 rfl) ?_
        refine cVi (wr := (wX h0 h1 h2 cI f g (nI L) ca ++ [(o, .inl (cL, 1, .inr (.inl v)))])) (As := []) (rest := []) ⟨hx, hb, hml, hown, hts⟩ (pX1_thrown l D k0 k1 k2 k3 k4 k5 k6 cI (nI 1) F ca ow sl gl mn va ki ra) (cwV 0 hts gL_law_X1_thrown rfl rfl rfl (by decide +kernel) ⟨(Nat.le_of_ble_eq_true rfl), (Nat.le_of_ble_eq_true rfl)⟩) hKI hP hD hS hA [3, 4, 5, 6, 7, 8, 9] [0, 1, 2, 10] rfl rfl (by decide) (by decide) (by decide) 0 rfl rfl rfl hl.1 rfl (Nat.le_of_ble_eq_true rfl) dL_law_406 ⟨hcs, hss⟩ (fun r u H locs hw hP hD hS => ?_)
        obtain ⟨rfl, rfl⟩ := hw
        have hP := hP.sub (ws' := wL h0 h1 h2 k0 k1 k2 k3 k4 k5 k6 o cI cL f g L ca ca ow sl gl F (nI 1) mn va ki ra v) [0, 1, 2, 4, 5, 6, 7, 8, 9, 10, 3] rfl
        have hD := hD.sub (ws' := wL h0 h1 h2 k0 k1 k2 k3 k4 k5 k6 o cI cL f g L ca ca ow sl gl F (nI 1) mn va ki ra v) [0, 1, 2, 4, 5, 6, 7, 8, 9, 10, 3] (by decide) rfl
        refine lv_iload hx hb dL_law_409 (lv_at hl 1 rfl) ?_
        refine lv_icmp_eq (tgt := 416) hx hb dL_law_411 (by decide) (fun c7 => ?_) (fun c7 => ?_)
        · skip
          refine lv_iload hx hb dL_law_416 (lv_at hl 1 rfl) ?_
          refine kNe0 (a := 1) (by omega) (tgt := 433) hx hb dL_law_418 (by decide) (fun c8 => ?_) (fun c8 => ?_)
          · skip
            refine lv_goto (tgt := 765) hx hb dL_law_433 (by decide) ?_
            exact kk f g L ca ow sl gl F (nI 1) mn va ki ra v _ _ _ hRel hP hD hS (lv_sub (l' := [(0, .ref b), (1, .ref h0), (2, .ref k0), (3, .ref o), (4, .int (nI (4 * j)))]) hl [2, 3, 4, 5, 6] rfl)
          · skip
            exact absurd c8 (by decide)
        · skip
          exact absurd rfl c7
      · skip
        exact absurd h9 hp
    · skip
      exact absurd h9 (by decide)
  · skip
    obtain ⟨rfl, ⟨h9, -⟩ | ⟨-, hi1, hi2, hp⟩⟩ := hp
    · skip
      exact absurd h9 (by decide)
    · skip
      have hP := hP.sub (ws' := wL h0 h1 h2 k0 k1 k2 k3 k4 k5 k6 o cI cL f g L ca ca ow sl gl F th mn va ki ra v) [8, 9, 10, 0, 1, 2, 3, 4, 5, 6, 7] rfl
      have hD := hD.sub (ws' := wL h0 h1 h2 k0 k1 k2 k3 k4 k5 k6 o cI cL f g L ca ca ow sl gl F th mn va ki ra v) [8, 9, 10, 0, 1, 2, 3, 4, 5, 6, 7] (by decide) rfl
      refine lv_istore (lv' := [(5, .int (nI 2)), (0, .ref b), (1, .ref h0), (2, .ref k0), (3, .ref o), (4, .int (nI (4 * j)))]) hx hb dL_law_379 hl (by decide) rfl (fun ls hl => ?_)
      refine lv_aload_n hx hb dL_law_381 rfl (lv_at hl 3 rfl) ?_
      refine lv_aload_n hx hb dL_law_382 rfl (lv_at hl 1 rfl) ?_
      refine lv_iload hx hb dL_law_383 (lv_at hl 5 rfl) ?_
      refine lv_iconst (v := nI 1) hx hb dL_law_385 (by decide) ?_
      refine kAdd hx hb dL_law_386 ?_
      refine va_sld hx hb hX hbl hbA hS (vp_in_nI (n := 4 * j + 1) (by omega) (by omega)) dL_law_387 ?_
      refine kTop (v' := x1) (by rw [nI_clamp (by omega)]; exact hx1.symm) ?_
      refine lv_aload_n hx hb dL_law_388 rfl (lv_at hl 1 rfl) ?_
      refine lv_iload hx hb dL_law_389 (lv_at hl 5 rfl) ?_
      refine lv_iconst (v := nI 2) hx hb dL_law_391 (by decide) ?_
      refine kAdd hx hb dL_law_392 ?_
      refine va_sld hx hb hX hbl hbA hS (vp_in_nI (n := 4 * j + 2) (by omega) (by omega)) dL_law_393 ?_
      refine kTop (v' := x2) (by rw [nI_clamp (by omega)]; exact hx2.symm) ?_
      refine lv_aload_n hx hb dL_law_394 rfl (lv_at hl 1 rfl) ?_
      refine lv_iload hx hb dL_law_395 (lv_at hl 5 rfl) ?_
      refine lv_iconst (v := nI 3) hx hb dL_law_397 (by decide) ?_
      refine kAdd hx hb dL_law_398 ?_
      refine va_sld hx hb hX hbl hbA hS (vp_in_nI (n := 4 * j + 3) (by omega) (by omega)) dL_law_399 ?_
      refine kTop (v' := x3) (by rw [nI_clamp (by omega)]; exact hx3.symm) ?_
      refine cVi (wr := (wX h0 h1 h2 cI f g (nI L) ca ++ [(o, .inl (cL, 1, .inr (.inl v)))])) (As := [.int x1, .int x2, .int x3]) (rest := []) ⟨hx, hb, hml, hown, hts⟩ (pX1_put l D k0 k1 k2 k3 k4 k5 k6 cI th F ca ow sl gl mn va ki ra hF x1 x2 x3 (fun h => hRel.hc1 h)) (cwV 3 hts gL_law_X1_put rfl rfl rfl (by decide +kernel) ⟨(Nat.le_of_ble_eq_true rfl), (Nat.le_of_ble_eq_true rfl)⟩) hKI hP hD hS hA [3, 4, 5, 6, 7, 8, 9] [0, 1, 2, 10] rfl rfl (by decide) (by decide) (by decide) 0 rfl rfl rfl hl.1 rfl (Nat.le_of_ble_eq_true rfl) dL_law_400 ⟨hcs, hss⟩ (fun rb u H locs hw hP hD hS => ?_)
      skip
      rcases hw with ⟨-, h9, -⟩ | ⟨h9, -⟩ | ⟨-, -, rfl⟩
      · skip
        exact absurd h9 hp
      · skip
        exact absurd ⟨hi1, hi2⟩ h9
      · skip
        have hP := hP.sub (ws' := wL h0 h1 h2 k0 k1 k2 k3 k4 k5 k6 o cI cL f g L ca ca ow sl gl F (nI 2) mn va ki ra v) [0, 1, 2, 4, 5, 6, 7, 8, 9, 10, 3] rfl
        have hD := hD.sub (ws' := wL h0 h1 h2 k0 k1 k2 k3 k4 k5 k6 o cI cL f g L ca ca ow sl gl F (nI 2) mn va ki ra v) [0, 1, 2, 4, 5, 6, 7, 8, 9, 10, 3] (by decide) rfl
        refine lv_istore (lv' := [(6, .int rb), (5, .int (nI 2)), (0, .ref b), (1, .ref h0), (2, .ref k0), (3, .ref o), (4, .int (nI (4 * j)))]) hx hb dL_law_403 hl (by decide) rfl (fun ls hl => ?_)
        refine lv_aload_n hx hb dL_law_405 rfl (lv_at hl 4 rfl) ?_
        refine cVi (wr := (wX h0 h1 h2 cI f g (nI L) ca ++ [(o, .inl (cL, 1, .inr (.inl v)))])) (As := []) (rest := []) ⟨hx, hb, hml, hown, hts⟩ (pX1_thrown l D k0 k1 k2 k3 k4 k5 k6 cI (nI 2) F ca ow sl gl mn va ki ra) (cwV 0 hts gL_law_X1_thrown rfl rfl rfl (by decide +kernel) ⟨(Nat.le_of_ble_eq_true rfl), (Nat.le_of_ble_eq_true rfl)⟩) hKI hP hD hS hA [3, 4, 5, 6, 7, 8, 9] [0, 1, 2, 10] rfl rfl (by decide) (by decide) (by decide) 0 rfl rfl rfl hl.1 rfl (Nat.le_of_ble_eq_true rfl) dL_law_406 ⟨hcs, hss⟩ (fun r u H locs hw hP hD hS => ?_)
        obtain ⟨rfl, rfl⟩ := hw
        have hP := hP.sub (ws' := wL h0 h1 h2 k0 k1 k2 k3 k4 k5 k6 o cI cL f g L ca ca ow sl gl F (nI 2) mn va ki ra v) [0, 1, 2, 4, 5, 6, 7, 8, 9, 10, 3] rfl
        have hD := hD.sub (ws' := wL h0 h1 h2 k0 k1 k2 k3 k4 k5 k6 o cI cL f g L ca ca ow sl gl F (nI 2) mn va ki ra v) [0, 1, 2, 4, 5, 6, 7, 8, 9, 10, 3] (by decide) rfl
        refine lv_iload hx hb dL_law_409 (lv_at hl 1 rfl) ?_
        refine lv_icmp_eq (tgt := 416) hx hb dL_law_411 (by decide) (fun c7 => ?_) (fun c7 => ?_)
        · skip
          refine lv_iload hx hb dL_law_416 (lv_at hl 1 rfl) ?_
          refine kNe0 (a := 2) (by omega) (tgt := 433) hx hb dL_law_418 (by decide) (fun c8 => ?_) (fun c8 => ?_)
          · skip
            refine lv_goto (tgt := 765) hx hb dL_law_433 (by decide) ?_
            exact kk f g L ca ow sl gl F (nI 2) mn va ki ra v _ _ _ hRel hP hD hS (lv_sub (l' := [(0, .ref b), (1, .ref h0), (2, .ref k0), (3, .ref o), (4, .int (nI (4 * j)))]) hl [2, 3, 4, 5, 6] rfl)
          · skip
            exact absurd c8 (by decide)
        · skip
          exact absurd rfl c7

set_option maxHeartbeats 4000000 in
set_option maxRecDepth 100000 in
theorem law_peek {p : Program} {l : Launch} {e : Env} {s : State} {m : MethodId} {below : List Frame} {meth : Method} {c : Code} {D : va_G} {b Ls : Nat} {xs : Nat → Int32} (hL : Ls ≤ 2048) (C0 : lw_At p s m meth c b Ls xs) (htr : l.stackTraces = false) {cI cL : ClassId} (hK : va_K D kC (tIL cI cL) s) (hZ : kZ (fun q : Nat => s.heap.size ≤ q) s s.heap) {h0 h1 h2 k0 k1 k2 k3 k4 k5 k6 o : Nat} {f g : Nat → Int32} {L : Nat} {ca : Int32} {ow sl gl : Nat → Int32} {F : Nat} {th mn : Int32} {va ki ra : Nat → Int32} {v : Nat → Int64} {j : Nat} (hj : 4 * j + 4 ≤ Ls) (hRel : Rel f g L ow sl gl F) {H : Heap} {locs : List Loc} {ls : Array Slot} (hP : va_P D kC (wL h0 h1 h2 k0 k1 k2 k3 k4 k5 k6 o cI cL f g L ca ca ow sl gl F th mn va ki ra v) H) (hD : va_D (fun q : Nat => s.heap.size ≤ q) (wL h0 h1 h2 k0 k1 k2 k3 k4 k5 k6 o cI cL f g L ca ca ow sl gl F th mn va ki ra v)) (hS : va_S (fun q : Nat => s.heap.size ≤ q) s.heap H locs) (hl : lv_has ls 7 [(0, .ref b), (1, .ref h0), (2, .ref k0), (3, .ref o), (4, .int (nI (4 * j)))]) {cs ss : Nat} (hcs : cs + 4 ≤ 601024) (hss : ss + 24 ≤ 7293033)
    (kk : ∀ (f g : Nat → Int32) (L : Nat) (ca : Int32) (ow sl gl : Nat → Int32) (F : Nat) (th mn : Int32) (va ki ra : Nat → Int32) (v : Nat → Int64) (H : Heap) (locs : List Loc) (ls : Array Slot), Rel f g L ow sl gl F → va_P D kC (wL h0 h1 h2 k0 k1 k2 k3 k4 k5 k6 o cI cL f g L ca ca ow sl gl F th mn va ki ra v) H → va_D (fun q : Nat => s.heap.size ≤ q) (wL h0 h1 h2 k0 k1 k2 k3 k4 k5 k6 o cI cL f g L ca ca ow sl gl F th mn va ki ra v) → va_S (fun q : Nat => s.heap.size ≤ q) s.heap H locs → lv_has ls 7 [(0, .ref b), (1, .ref h0), (2, .ref k0), (3, .ref o), (4, .int (nI (4 * j)))] → W p l e room_1 s m #[Value.ref b] below meth c H locs (cs + 4) (ss + 24) (lw_Z below #[Value.ref b] s) (F0 m 765 ls [])) : W p l e room_1 s m #[Value.ref b] below meth c H locs cs ss (lw_Z below #[Value.ref b] s) (F0 m 436 ls []) := by
  obtain ⟨hx, hb0, hr, hml, hown0, hts0, hX, hbl, hlocks, hgv⟩ := C0
  have hb : c.code = cL_law := hb0
  have hown : s.vm.findClass RL = some m.cls := hown0
  have hts : ∀ w ∈ wsL_law, w.before #[Value.ref b] s = true := fun w h => hts0 w (wsL_law_in w h)
  have hA : ∀ q : Nat, s.heap.size ≤ q → (fun q : Nat => s.heap.size ≤ q) q := fun _ h => h
  have hbA : ¬ (fun q : Nat => s.heap.size ≤ q) b := Nat.not_le.mpr hbl
  have hKI : va_K D kC (tI cI) s := hK.sub [0] rfl
  have hF := hRel.hF
  have hL2 := hRel.hL2
  obtain ⟨x1, hx1⟩ : ∃ z, z = xs (4 * j + 1) := ⟨_, rfl⟩
  obtain ⟨x2, hx2⟩ : ∃ z, z = xs (4 * j + 2) := ⟨_, rfl⟩
  obtain ⟨x3, hx3⟩ : ∃ z, z = xs (4 * j + 3) := ⟨_, rfl⟩
  refine lv_aload_n hx hb dL_law_436 rfl (lv_at hl 1 rfl) ?_
  refine lv_aload_n hx hb dL_law_437 rfl (lv_at hl 0 rfl) ?_
  refine lv_iload hx hb dL_law_438 (lv_at hl 4 rfl) ?_
  refine lv_iconst (v := nI 1) hx hb dL_law_440 (by decide) ?_
  refine kAdd hx hb dL_law_441 ?_
  refine va_sld hx hb hX hbl hbA hS (vp_in_nI (n := 4 * j + 1) (by omega) (by omega)) dL_law_442 ?_
  refine kTop (v' := x1) (by rw [nI_clamp (by omega)]; exact hx1.symm) ?_
  refine lv_aload_n hx hb dL_law_443 rfl (lv_at hl 0 rfl) ?_
  refine lv_iload hx hb dL_law_444 (lv_at hl 4 rfl) ?_
  refine lv_iconst (v := nI 2) hx hb dL_law_446 (by decide) ?_
  refine kAdd hx hb dL_law_447 ?_
  refine va_sld hx hb hX hbl hbA hS (vp_in_nI (n := 4 * j + 2) (by omega) (by omega)) dL_law_448 ?_
  refine kTop (v' := x2) (by rw [nI_clamp (by omega)]; exact hx2.symm) ?_
  refine lv_aload_n hx hb dL_law_449 rfl (lv_at hl 0 rfl) ?_
  refine lv_iload hx hb dL_law_450 (lv_at hl 4 rfl) ?_
  refine lv_iconst (v := nI 3) hx hb dL_law_452 (by decide) ?_
  refine kAdd hx hb dL_law_453 ?_
  refine va_sld hx hb hX hbl hbA hS (vp_in_nI (n := 4 * j + 3) (by omega) (by omega)) dL_law_454 ?_
  refine kTop (v' := x3) (by rw [nI_clamp (by omega)]; exact hx3.symm) ?_
  refine lv_aload_n hx hb dL_law_455 rfl (lv_at hl 3 rfl) ?_
  refine tSi (wr := (wM k0 k1 k2 k3 k4 k5 k6 cI th (nI F) ca ow sl gl mn va ki ra)) (As := [.ref h0, .int x1, .int x2, .int x3, .ref o]) (rest := []) ⟨hx, hb, hml, hown, hts⟩ (pL_peek l htr D h0 h1 h2 o cI cL f g L ca v (cnts ow F) hRel.1 hRel.2.1 x1 x2 x3) (vx_cwSW 5 hts gL_law_L_peek rfl rfl rfl (by decide +kernel) ⟨(Nat.le_of_ble_eq_true rfl), (Nat.le_of_ble_eq_true rfl)⟩) hK hP hD hS hA hZ [0, 1, 2, 10] [3, 4, 5, 6, 7, 8, 9] rfl rfl (by decide) (by decide) (by decide) rfl hl.1 rfl (Nat.le_of_ble_eq_true rfl) dL_law_456 ⟨hcs, hss⟩ (fun r u H locs hw hP hD hS => ?_)
  skip
  rcases hw with ⟨r9, u9, hp, rfl, rfl⟩ | ⟨u9, hp, rfl, rfl⟩
  · skip
    obtain ⟨rfl, mu, k, s9, hmu, hk, hs9, rfl, rfl, rfl, rfl⟩ := hp
    have hP := hP.sub (ws' := wL h0 h1 h2 k0 k1 k2 k3 k4 k5 k6 o cI cL f g L ca ca ow sl gl F th mn va ki ra (vp_updL v 0 (f (8 * (k + sN (cnts ow F) mu) + s9)).toInt64)) [8, 9, 10, 0, 1, 2, 3, 4, 5, 6, 7] rfl
    have hD := hD.sub (ws' := wL h0 h1 h2 k0 k1 k2 k3 k4 k5 k6 o cI cL f g L ca ca ow sl gl F th mn va ki ra (vp_updL v 0 (f (8 * (k + sN (cnts ow F) mu) + s9)).toInt64)) [8, 9, 10, 0, 1, 2, 3, 4, 5, 6, 7] (by decide) rfl
    have hcl := rw_count_le ow F (nI mu)
    have hk9 : k < (rw_ ow F).count (nI mu) := hk
    refine lv_istore (lv' := [(5, .int (nI 0)), (0, .ref b), (1, .ref h0), (2, .ref k0), (3, .ref o), (4, .int (nI (4 * j)))]) hx hb dL_law_459 hl (by decide) rfl (fun ls hl => ?_)
    refine lv_aload_n hx hb dL_law_461 rfl (lv_at hl 3 rfl) ?_
    refine lv_aload_n hx hb dL_law_462 rfl (lv_at hl 1 rfl) ?_
    refine lv_iload hx hb dL_law_463 (lv_at hl 5 rfl) ?_
    refine lv_iconst (v := nI 1) hx hb dL_law_465 (by decide) ?_
    refine kAdd hx hb dL_law_466 ?_
    refine va_sld hx hb hX hbl hbA hS (vp_in_nI (n := 4 * j + 1) (by omega) (by omega)) dL_law_467 ?_
    refine kTop (v' := nI mu) (by rw [nI_clamp (by omega)]; exact hx1.symm) ?_
    refine lv_aload_n hx hb dL_law_468 rfl (lv_at hl 1 rfl) ?_
    refine lv_iload hx hb dL_law_469 (lv_at hl 5 rfl) ?_
    refine lv_iconst (v := nI 2) hx hb dL_law_471 (by decide) ?_
    refine kAdd hx hb dL_law_472 ?_
    refine va_sld hx hb hX hbl hbA hS (vp_in_nI (n := 4 * j + 2) (by omega) (by omega)) dL_law_473 ?_
    refine kTop (v' := nI k) (by rw [nI_clamp (by omega)]; exact hx2.symm) ?_
    refine lv_aload_n hx hb dL_law_474 rfl (lv_at hl 1 rfl) ?_
    refine lv_iload hx hb dL_law_475 (lv_at hl 5 rfl) ?_
    refine lv_iconst (v := nI 3) hx hb dL_law_477 (by decide) ?_
    refine kAdd hx hb dL_law_478 ?_
    refine va_sld hx hb hX hbl hbA hS (vp_in_nI (n := 4 * j + 3) (by omega) (by omega)) dL_law_479 ?_
    refine kTop (v' := nI s9) (by rw [nI_clamp (by omega)]; exact hx3.symm) ?_
    refine cVi (wr := (wX h0 h1 h2 cI f g (nI L) ca ++ [(o, .inl (cL, 1, .inr (.inl (vp_updL v 0 (f (8 * (k + sN (cnts ow F) mu) + s9)).toInt64))))])) (As := [.int (nI mu), .int (nI k), .int (nI s9)]) (rest := []) ⟨hx, hb, hml, hown, hts⟩ (pX1_peek l D k0 k1 k2 k3 k4 k5 k6 cI th F ca ow sl gl mn va ki ra hF (nI mu) (nI k) (nI s9)) (cwV 3 hts gL_law_X1_peek rfl rfl rfl (by decide +kernel) ⟨(Nat.le_of_ble_eq_true rfl), (Nat.le_of_ble_eq_true rfl)⟩) hKI hP hD hS hA [3, 4, 5, 6, 7, 8, 9] [0, 1, 2, 10] rfl rfl (by decide) (by decide) (by decide) 0 rfl rfl rfl hl.1 rfl (Nat.le_of_ble_eq_true rfl) dL_law_480 ⟨hcs, hss⟩ (fun rb u H locs hw hP hD hS => ?_)
    skip
    rcases hw with ⟨-, rfl, k8, s8, q, e7, e8, hs8, hq, hoq, hcq, rfl⟩ | ⟨h9, -⟩
    · skip
      have ea : s9 = s8 := (nI_eq (by omega) (by omega)).mp e8
      subst ea
      have hc1 := cn_mono ow (nI mu) (show q + 1 ≤ F by omega)
      rw [cn_succ, if_pos hoq] at hc1
      have ek : k = k8 := (nI_eq (by omega) (by omega)).mp e7
      subst ek
      have hP := hP.sub (ws' := wL h0 h1 h2 k0 k1 k2 k3 k4 k5 k6 o cI cL f g L ca ca ow sl gl F (nI 0) mn va ki ra (vp_updL v 0 (f (8 * (k + sN (cnts ow F) mu) + s9)).toInt64)) [0, 1, 2, 4, 5, 6, 7, 8, 9, 10, 3] rfl
      have hD := hD.sub (ws' := wL h0 h1 h2 k0 k1 k2 k3 k4 k5 k6 o cI cL f g L ca ca ow sl gl F (nI 0) mn va ki ra (vp_updL v 0 (f (8 * (k + sN (cnts ow F) mu) + s9)).toInt64)) [0, 1, 2, 4, 5, 6, 7, 8, 9, 10, 3] (by decide) rfl
      refine lv_istore (lv' := [(6, .int (sl (8 * q + s9))), (5, .int (nI 0)), (0, .ref b), (1, .ref h0), (2, .ref k0), (3, .ref o), (4, .int (nI (4 * j)))]) hx hb dL_law_483 hl (by decide) rfl (fun ls hl => ?_)
      refine lv_aload_n hx hb dL_law_485 rfl (lv_at hl 4 rfl) ?_
      refine cVi (wr := (wX h0 h1 h2 cI f g (nI L) ca ++ [(o, .inl (cL, 1, .inr (.inl (vp_updL v 0 (f (8 * (k + sN (cnts ow F) mu) + s9)).toInt64))))])) (As := []) (rest := []) ⟨hx, hb, hml, hown, hts⟩ (pX1_thrown l D k0 k1 k2 k3 k4 k5 k6 cI (nI 0) F ca ow sl gl mn va ki ra) (cwV 0 hts gL_law_X1_thrown rfl rfl rfl (by decide +kernel) ⟨(Nat.le_of_ble_eq_true rfl), (Nat.le_of_ble_eq_true rfl)⟩) hKI hP hD hS hA [3, 4, 5, 6, 7, 8, 9] [0, 1, 2, 10] rfl rfl (by decide) (by decide) (by decide) 0 rfl rfl rfl hl.1 rfl (Nat.le_of_ble_eq_true rfl) dL_law_486 ⟨hcs, hss⟩ (fun r u H locs hw hP hD hS => ?_)
      obtain ⟨rfl, rfl⟩ := hw
      have hP := hP.sub (ws' := wL h0 h1 h2 k0 k1 k2 k3 k4 k5 k6 o cI cL f g L ca ca ow sl gl F (nI 0) mn va ki ra (vp_updL v 0 (f (8 * (k + sN (cnts ow F) mu) + s9)).toInt64)) [0, 1, 2, 4, 5, 6, 7, 8, 9, 10, 3] rfl
      have hD := hD.sub (ws' := wL h0 h1 h2 k0 k1 k2 k3 k4 k5 k6 o cI cL f g L ca ca ow sl gl F (nI 0) mn va ki ra (vp_updL v 0 (f (8 * (k + sN (cnts ow F) mu) + s9)).toInt64)) [0, 1, 2, 4, 5, 6, 7, 8, 9, 10, 3] (by decide) rfl
      refine lv_iload hx hb dL_law_489 (lv_at hl 1 rfl) ?_
      refine lv_icmp_eq (tgt := 496) hx hb dL_law_491 (by decide) (fun c7 => ?_) (fun c7 => ?_)
      · skip
        refine lv_iload hx hb dL_law_496 (lv_at hl 1 rfl) ?_
        refine kNe0 (a := 0) (by omega) (tgt := 513) hx hb dL_law_498 (by decide) (fun c8 => ?_) (fun c8 => ?_)
        · skip
          exact absurd c8 (by decide)
        · skip
          refine lv_aload_n hx hb dL_law_501 rfl (lv_at hl 5 rfl) ?_
          refine lv_iconst (v := nI 0) hx hb dL_law_502 (by decide) ?_
          refine va_lald hx hb hK hP 10 1 rfl rfl (vp_in_nI (n := 0) (by decide) (by decide)) dL_law_503 ?_
          refine lv_iload hx hb dL_law_504 (lv_at hl 0 rfl) ?_
          refine lv_i2l hx hb dL_law_506 rfl ?_
          refine W.lcmp hx hb dL_law_507 ?_
          refine kTop (v' := nI 0) (lg_eq (pk_uLs.trans (congrArg Int32.toInt64 (hRel.at hmu hq hoq hcq hs9).2))) ?_
          refine kEq0 (a := 0) (by omega) (tgt := 513) hx hb dL_law_508 (by decide) (fun c9 => ?_) (fun c9 => ?_)
          · skip
            refine lv_goto (tgt := 765) hx hb dL_law_513 (by decide) ?_
            exact kk f g L ca ow sl gl F (nI 0) mn va ki ra (vp_updL v 0 (f (8 * (k + sN (cnts ow F) mu) + s9)).toInt64) _ _ _ hRel hP hD hS (lv_sub (l' := [(0, .ref b), (1, .ref h0), (2, .ref k0), (3, .ref o), (4, .int (nI (4 * j)))]) hl [2, 3, 4, 5, 6] rfl)
          · skip
            exact absurd c9 (by decide)
      · skip
        exact absurd rfl c7
    · skip
      exact absurd ⟨⟨mu, hmu, rfl⟩, ⟨s9, hs9, rfl⟩, ⟨k, hk, rfl⟩⟩ h9
  · skip
    obtain ⟨rfl, -, hp⟩ := hp
    have hp : ¬ (inR x1 4 ∧ inR x3 8 ∧ inR x2 ((rw_ ow F).count x1)) := fun h => hp.elim (fun q => q h.1) (fun q => q.elim (fun q => q h.2.1) (fun ⟨mu, _, em, hq⟩ => hq (by have h2 := h.2.2; rw [em] at h2; exact h2)))
    have hP := hP.sub (ws' := wL h0 h1 h2 k0 k1 k2 k3 k4 k5 k6 o cI cL f g L ca ca ow sl gl F th mn va ki ra v) [8, 9, 10, 0, 1, 2, 3, 4, 5, 6, 7] rfl
    have hD := hD.sub (ws' := wL h0 h1 h2 k0 k1 k2 k3 k4 k5 k6 o cI cL f g L ca ca ow sl gl F th mn va ki ra v) [8, 9, 10, 0, 1, 2, 3, 4, 5, 6, 7] (by decide) rfl
    refine lv_istore (lv' := [(5, .int (nI 1)), (0, .ref b), (1, .ref h0), (2, .ref k0), (3, .ref o), (4, .int (nI (4 * j)))]) hx hb dL_law_459 hl (by decide) rfl (fun ls hl => ?_)
    refine lv_aload_n hx hb dL_law_461 rfl (lv_at hl 3 rfl) ?_
    refine lv_aload_n hx hb dL_law_462 rfl (lv_at hl 1 rfl) ?_
    refine lv_iload hx hb dL_law_463 (lv_at hl 5 rfl) ?_
    refine lv_iconst (v := nI 1) hx hb dL_law_465 (by decide) ?_
    refine kAdd hx hb dL_law_466 ?_
    refine va_sld hx hb hX hbl hbA hS (vp_in_nI (n := 4 * j + 1) (by omega) (by omega)) dL_law_467 ?_
    refine kTop (v' := x1) (by rw [nI_clamp (by omega)]; exact hx1.symm) ?_
    refine lv_aload_n hx hb dL_law_468 rfl (lv_at hl 1 rfl) ?_
    refine lv_iload hx hb dL_law_469 (lv_at hl 5 rfl) ?_
    refine lv_iconst (v := nI 2) hx hb dL_law_471 (by decide) ?_
    refine kAdd hx hb dL_law_472 ?_
    refine va_sld hx hb hX hbl hbA hS (vp_in_nI (n := 4 * j + 2) (by omega) (by omega)) dL_law_473 ?_
    refine kTop (v' := x2) (by rw [nI_clamp (by omega)]; exact hx2.symm) ?_
    refine lv_aload_n hx hb dL_law_474 rfl (lv_at hl 1 rfl) ?_
    refine lv_iload hx hb dL_law_475 (lv_at hl 5 rfl) ?_
    refine lv_iconst (v := nI 3) hx hb dL_law_477 (by decide) ?_
    refine kAdd hx hb dL_law_478 ?_
    refine va_sld hx hb hX hbl hbA hS (vp_in_nI (n := 4 * j + 3) (by omega) (by omega)) dL_law_479 ?_
    refine kTop (v' := x3) (by rw [nI_clamp (by omega)]; exact hx3.symm) ?_
    refine cVi (wr := (wX h0 h1 h2 cI f g (nI L) ca ++ [(o, .inl (cL, 1, .inr (.inl v)))])) (As := [.int x1, .int x2, .int x3]) (rest := []) ⟨hx, hb, hml, hown, hts⟩ (pX1_peek l D k0 k1 k2 k3 k4 k5 k6 cI th F ca ow sl gl mn va ki ra hF x1 x2 x3) (cwV 3 hts gL_law_X1_peek rfl rfl rfl (by decide +kernel) ⟨(Nat.le_of_ble_eq_true rfl), (Nat.le_of_ble_eq_true rfl)⟩) hKI hP hD hS hA [3, 4, 5, 6, 7, 8, 9] [0, 1, 2, 10] rfl rfl (by decide) (by decide) (by decide) 0 rfl rfl rfl hl.1 rfl (Nat.le_of_ble_eq_true rfl) dL_law_480 ⟨hcs, hss⟩ (fun rb u H locs hw hP hD hS => ?_)
    skip
    rcases hw with ⟨h9, -⟩ | ⟨-, rfl⟩
    · skip
      exact absurd h9 hp
    · skip
      have hP := hP.sub (ws' := wL h0 h1 h2 k0 k1 k2 k3 k4 k5 k6 o cI cL f g L ca ca ow sl gl F (nI 1) mn va ki ra v) [0, 1, 2, 4, 5, 6, 7, 8, 9, 10, 3] rfl
      have hD := hD.sub (ws' := wL h0 h1 h2 k0 k1 k2 k3 k4 k5 k6 o cI cL f g L ca ca ow sl gl F (nI 1) mn va ki ra v) [0, 1, 2, 4, 5, 6, 7, 8, 9, 10, 3] (by decide) rfl
      refine lv_istore (lv' := [(6, .int rb), (5, .int (nI 1)), (0, .ref b), (1, .ref h0), (2, .ref k0), (3, .ref o), (4, .int (nI (4 * j)))]) hx hb dL_law_483 hl (by decide) rfl (fun ls hl => ?_)
      refine lv_aload_n hx hb dL_law_485 rfl (lv_at hl 4 rfl) ?_
      refine cVi (wr := (wX h0 h1 h2 cI f g (nI L) ca ++ [(o, .inl (cL, 1, .inr (.inl v)))])) (As := []) (rest := []) ⟨hx, hb, hml, hown, hts⟩ (pX1_thrown l D k0 k1 k2 k3 k4 k5 k6 cI (nI 1) F ca ow sl gl mn va ki ra) (cwV 0 hts gL_law_X1_thrown rfl rfl rfl (by decide +kernel) ⟨(Nat.le_of_ble_eq_true rfl), (Nat.le_of_ble_eq_true rfl)⟩) hKI hP hD hS hA [3, 4, 5, 6, 7, 8, 9] [0, 1, 2, 10] rfl rfl (by decide) (by decide) (by decide) 0 rfl rfl rfl hl.1 rfl (Nat.le_of_ble_eq_true rfl) dL_law_486 ⟨hcs, hss⟩ (fun r u H locs hw hP hD hS => ?_)
      obtain ⟨rfl, rfl⟩ := hw
      have hP := hP.sub (ws' := wL h0 h1 h2 k0 k1 k2 k3 k4 k5 k6 o cI cL f g L ca ca ow sl gl F (nI 1) mn va ki ra v) [0, 1, 2, 4, 5, 6, 7, 8, 9, 10, 3] rfl
      have hD := hD.sub (ws' := wL h0 h1 h2 k0 k1 k2 k3 k4 k5 k6 o cI cL f g L ca ca ow sl gl F (nI 1) mn va ki ra v) [0, 1, 2, 4, 5, 6, 7, 8, 9, 10, 3] (by decide) rfl
      refine lv_iload hx hb dL_law_489 (lv_at hl 1 rfl) ?_
      refine lv_icmp_eq (tgt := 496) hx hb dL_law_491 (by decide) (fun c7 => ?_) (fun c7 => ?_)
      · skip
        refine lv_iload hx hb dL_law_496 (lv_at hl 1 rfl) ?_
        refine kNe0 (a := 1) (by omega) (tgt := 513) hx hb dL_law_498 (by decide) (fun c8 => ?_) (fun c8 => ?_)
        · skip
          refine lv_goto (tgt := 765) hx hb dL_law_513 (by decide) ?_
          exact kk f g L ca ow sl gl F (nI 1) mn va ki ra v _ _ _ hRel hP hD hS (lv_sub (l' := [(0, .ref b), (1, .ref h0), (2, .ref k0), (3, .ref o), (4, .int (nI (4 * j)))]) hl [2, 3, 4, 5, 6] rfl)
        · skip
          exact absurd c8 (by decide)
      · skip
        exact absurd rfl c7
