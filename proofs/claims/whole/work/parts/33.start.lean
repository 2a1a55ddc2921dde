theorem exit_lt {j Ls : Nat} (h : ¬ 4 * j + 4 ≤ Ls) (h1 : Ls < 1000000) (h2 : 4 * j < 1000000) : nI Ls - nI 4 < nI (4 * j) := by
  rw [Int32.lt_iff_toInt_lt, pk_sub_toInt (by omega) (by omega), nI_toInt (by omega)]
  omega
theorem str_at {args : Array Value} {s : State} {k : Nat} {tx : String} (h1 : (Cond.stringRef RX0 k tx).before args s = true) (h2 : (Cond.exactly (.string RX0 k) "java/lang/String").before args s = true) : ∃ sa, vk_R RX0 k tx sa s := by
  obtain ⟨a, -, -, -, h3, -⟩ := Cond.exactly_spec h2
  exact ⟨a, vk_R.of h1 h3⟩
set_option maxRecDepth 100000 in
set_option maxHeartbeats 4000000 in
theorem law_kZ {p : Program} {s : State} {m : MethodId} {meth : Method} {c : Code} {b Ls : Nat} {xs : Nat → Int32} (C0 : lw_At p s m meth c b Ls xs) : kZ (fun q : Nat => s.heap.size ≤ q) s s.heap := by
  obtain ⟨-, -, -, -, -, hts, -, -, -, hgv⟩ := C0
  have hf := flat_of_before _ hgv
  have hA : ∀ a : Nat, a < s.heap.size → ¬ (fun q : Nat => s.heap.size ≤ q) a := fun a h => Nat.not_le.mpr h
  refine ⟨vx_Zqof (hts (.laysStatic Bundle.tN "UNASSIGNED_STACK" Bundle.steD) (by decide +kernel)) (hts (.initialized Bundle.tN) (by decide +kernel)) (hf (.isRef (.static Bundle.tN "UNASSIGNED_STACK" Bundle.steD)) (by decide +kernel)) hA,
    vx_Zqof (hts (.laysStatic Bundle.tN "SUPPRESSED_SENTINEL" Bundle.listD) (by decide +kernel)) (hts (.initialized Bundle.tN) (by decide +kernel)) (hf (.isRef (.static Bundle.tN "SUPPRESSED_SENTINEL" Bundle.listD)) (by decide +kernel)) hA, ?_, ?_,
    va_Nc.of (hf (.not (.castable "java/lang/IllegalStateException" nx_N)) (by decide +kernel)), va_Nc.of (hf (.not (.castable "java/lang/IllegalArgumentException" nx_N)) (by decide +kernel))⟩
  · intro q hq
    have key : ∀ q ∈ kStr, Cond.stringRef RX0 q.1 q.2 ∈ lw_tbl ∧ Cond.exactly (.string RX0 q.1) "java/lang/String" ∈ flatC (Jvm.Cond.and given_1 narrow_1) := by decide +kernel
    exact str_at (hts _ (key q hq).1) (hf _ (key q hq).2)
  · intro w hw
    have key : ∀ w ∈ kOth, w ∈ lw_tbl := by decide +kernel
    exact va_tabs (kIsO_on (kOth_is w hw)) (u := s) (U := s) rfl (hts w (key w hw))
set_option maxHeartbeats 4000000 in
set_option maxRecDepth 100000 in
theorem law_loop {p : Program} {l : Launch} {e : Env} {s : State} {m : MethodId} {below : List Frame} {meth : Method} {c : Code} {D : va_G} {b Ls : Nat} {xs : Nat → Int32} (hL : Ls ≤ 2048) (C0 : lw_At p s m meth c b Ls xs) (htr : l.stackTraces = false) {cI cL : ClassId} (hK : va_K D kC (tIL cI cL) s) (hZ : kZ (fun q : Nat => s.heap.size ≤ q) s s.heap) {h0 h1 h2 k0 k1 k2 k3 k4 k5 k6 o : Nat} : ∀ j, j ≤ Ls / 4 → ∀ (f g : Nat → Int32) (L : Nat) (ca : Int32) (ow sl gl : Nat → Int32) (F : Nat) (th mn : Int32) (va ki ra : Nat → Int32) (v : Nat → Int64) (H : Heap) (locs : List Loc) (ls : Array Slot), Rel f g L ow sl gl F → va_P D kC (wL h0 h1 h2 k0 k1 k2 k3 k4 k5 k6 o cI cL f g L ca ca ow sl gl F th mn va ki ra v) H → va_D (fun q : Nat => s.heap.size ≤ q) (wL h0 h1 h2 k0 k1 k2 k3 k4 k5 k6 o cI cL f g L ca ca ow sl gl F th mn va ki ra v) → va_S (fun q : Nat => s.heap.size ≤ q) s.heap H locs → lv_has ls 7 [(0, .ref b), (1, .ref h0), (2, .ref k0), (3, .ref o), (4, .int (nI (4 * j)))] → W p l e room_1 s m #[Value.ref b] below meth c H locs (11 + 4 * j) (14665 + 24 * j) (lw_Z below #[Value.ref b] s) (F0 m 23 ls []) := by
  obtain ⟨hx, hb0, hr, hml, hown0, hts0, hX, hbl, hlocks, hgv⟩ := id C0
  have hb : c.code = cL_law := hb0
  have hbA : ¬ (fun q : Nat => s.heap.size ≤ q) b := Nat.not_le.mpr hbl
  refine kLoop (Q := fun j => ∀ (f g : Nat → Int32) (L : Nat) (ca : Int32) (ow sl gl : Nat → Int32) (F : Nat) (th mn : Int32) (va ki ra : Nat → Int32) (v : Nat → Int64) (H : Heap) (locs : List Loc) (ls : Array Slot), Rel f g L ow sl gl F → va_P D kC (wL h0 h1 h2 k0 k1 k2 k3 k4 k5 k6 o cI cL f g L ca ca ow sl gl F th mn va ki ra v) H → va_D (fun q : Nat => s.heap.size ≤ q) (wL h0 h1 h2 k0 k1 k2 k3 k4 k5 k6 o cI cL f g L ca ca ow sl gl F th mn va ki ra v) → va_S (fun q : Nat => s.heap.size ≤ q) s.heap H locs → lv_has ls 7 [(0, .ref b), (1, .ref h0), (2, .ref k0), (3, .ref o), (4, .int (nI (4 * j)))] → W p l e room_1 s m #[Value.ref b] below meth c H locs (11 + 4 * j) (14665 + 24 * j) (lw_Z below #[Value.ref b] s) (F0 m 23 ls [])) (Ls / 4) ?_
  intro j hj ih f g L ca ow sl gl F th mn va ki ra v H locs ls hRel hP hD hS hl
  refine lv_iload hx hb dL_law_23 (lv_at hl 4 rfl) ?_
  refine lv_aload_n hx hb dL_law_25 rfl (lv_at hl 0 rfl) ?_
  refine va_slen hx hb hX hbl hbA hS dL_law_26 ?_
  refine kTop (v' := nI Ls) rfl ?_
  refine lv_iconst (v := nI 4) hx hb dL_law_27 (by decide) ?_
  by_cases hh : 4 * j + 4 ≤ Ls
  · skip
    refine kSub (by omega) hx hb dL_law_28 ?_
    refine kIgt (a := 4 * j) (b := Ls - 4) (by omega) (by omega) (tgt := 771) hx hb dL_law_29 (by decide) (fun c1 => ?_) (fun c1 => ?_)
    · skip
      exact absurd c1 (by omega)
    · skip
      have KK : ∀ (f g : Nat → Int32) (L : Nat) (ca : Int32) (ow sl gl : Nat → Int32) (F : Nat) (th mn : Int32) (va ki ra : Nat → Int32) (v : Nat → Int64) (H : Heap) (locs : List Loc) (ls : Array Slot), Rel f g L ow sl gl F → va_P D kC (wL h0 h1 h2 k0 k1 k2 k3 k4 k5 k6 o cI cL f g L ca ca ow sl gl F th mn va ki ra v) H → va_D (fun q : Nat => s.heap.size ≤ q) (wL h0 h1 h2 k0 k1 k2 k3 k4 k5 k6 o cI cL f g L ca ca ow sl gl F th mn va ki ra v) → va_S (fun q : Nat => s.heap.size ≤ q) s.heap H locs → lv_has ls 7 [(0, .ref b), (1, .ref h0), (2, .ref k0), (3, .ref o), (4, .int (nI (4 * j)))] → W p l e room_1 s m #[Value.ref b] below meth c H locs ((11 + 4 * j) + 4) ((14665 + 24 * j) + 24) (lw_Z below #[Value.ref b] s) (F0 m 765 ls []) := by
        intro f g L ca ow sl gl F th mn va ki ra v H locs ls hRel hP hD hS hl
        refine lv_iinc (v := nI (4 * j + 4)) (lv' := [(4, .int (nI (4 * j + 4))), (0, .ref b), (1, .ref h0), (2, .ref k0), (3, .ref o)]) hx hb dL_law_765 hl (k := 4) rfl (kInc4 _) (by decide) rfl (fun ls hl => ?_)
        refine lv_goto (tgt := 23) hx hb dL_law_768 (by decide) ?_
        refine W.cs (cells' := 11 + 4 * (j + 1)) (slots' := 14665 + 24 * (j + 1)) (by omega) (by omega) ?_
        exact ih (by omega) f g L ca ow sl gl F th mn va ki ra v H locs ls hRel hP hD hS (by rw [show 4 * (j + 1) = 4 * j + 4 by omega]; exact (lv_sub (l' := [(0, .ref b), (1, .ref h0), (2, .ref k0), (3, .ref o), (4, .int (nI (4 * j + 4)))]) hl [1, 2, 3, 4, 0] rfl))
      clear ih
      refine lv_aload_n hx hb dL_law_32 rfl (lv_at hl 0 rfl) ?_
      refine lv_iload hx hb dL_law_33 (lv_at hl 4 rfl) ?_
      refine va_sld hx hb hX hbl hbA hS (vp_in_nI (n := 4 * j) (by omega) (by omega)) dL_law_35 ?_
      refine lv_bipush (v := nI 15) hx hb dL_law_36 (by decide) ?_
      refine lv_iand hx hb dL_law_38 ?_
      obtain ⟨t, ht, et⟩ := pk_andE (xs (nI (4 * j)).toNatClampNeg) (m := nI 15) 4 (by decide)
      refine kTop (v' := nI t) et ?_
      have ht : t < 16 := ht
      by_cases h11 : t < 11
      · skip
        rcases (show t = 0 ∨ t = 1 ∨ t = 2 ∨ t = 3 ∨ t = 4 ∨ t = 5 ∨ t = 6 ∨ t = 7 ∨ t = 8 ∨ t = 9 ∨ t = 10 by omega) with rfl | rfl | rfl | rfl | rfl | rfl | rfl | rfl | rfl | rfl | rfl
        · skip
          refine lv_tableIn (tgt := 96) hx hb dL_law_39 (by decide) (by decide) (off := 57) (by decide) (by decide) ?_
          exact law_call hL C0 htr hK hZ hh hRel hP hD hS hl (by omega) (by omega) KK
        · skip
          refine lv_tableIn (tgt := 152) hx hb dL_law_39 (by decide) (by decide) (off := 113) (by decide) (by decide) ?_
          exact law_leave hL C0 htr hK hZ hh hRel hP hD hS hl (by omega) (by omega) KK
        · skip
          refine lv_tableIn (tgt := 220) hx hb dL_law_39 (by decide) (by decide) (off := 181) (by decide) (by decide) ?_
          exact law_cut hL C0 htr hK hZ hh hRel hP hD hS hl (by omega) (by omega) KK
        · skip
          refine lv_tableIn (tgt := 288) hx hb dL_law_39 (by decide) (by decide) (off := 249) (by decide) (by decide) ?_
          exact law_get hL C0 htr hK hZ hh hRel hP hD hS hl (by omega) (by omega) KK
        · skip
          refine lv_tableIn (tgt := 356) hx hb dL_law_39 (by decide) (by decide) (off := 317) (by decide) (by decide) ?_
          exact law_put hL C0 htr hK hZ hh hRel hP hD hS hl (by omega) (by omega) KK
        · skip
          refine lv_tableIn (tgt := 436) hx hb dL_law_39 (by decide) (by decide) (off := 397) (by decide) (by decide) ?_
          exact law_peek hL C0 htr hK hZ hh hRel hP hD hS hl (by omega) (by omega) KK
        · skip
          refine lv_tableIn (tgt := 516) hx hb dL_law_39 (by decide) (by decide) (off := 477) (by decide) (by decide) ?_
          exact law_holds hL C0 htr hK hZ hh hRel hP hD hS hl (by omega) (by omega) KK
        · skip
          refine lv_tableIn (tgt := 572) hx hb dL_law_39 (by decide) (by decide) (off := 533) (by decide) (by decide) ?_
          exact law_root hL C0 htr hK hZ hh hRel hP hD hS hl (by omega) (by omega) KK
        · skip
          refine lv_tableIn (tgt := 628) hx hb dL_law_39 (by decide) (by decide) (off := 589) (by decide) (by decide) ?_
          exact law_turn hL C0 htr hK hZ hh hRel hP hD hS hl (by omega) (by omega) KK
        · skip
          refine lv_tableIn (tgt := 696) hx hb dL_law_39 (by decide) (by decide) (off := 657) (by decide) (by decide) ?_
          exact law_renew hL C0 htr hK hZ hh hRel hP hD hS hl (by omega) (by omega) KK
        · skip
          refine lv_tableIn (tgt := 709) hx hb dL_law_39 (by decide) (by decide) (off := 670) (by decide) (by decide) ?_
          exact law_count hL C0 htr hK hZ hh hRel hP hD hS hl (by omega) (by omega) KK
      · skip
        refine lv_tableOut (tgt := 765) hx hb dL_law_39 (Or.inr (by rw [nI_toInt (by omega)]; omega)) (by decide) ?_
        refine W.widen (k := (11 + 4 * j) + 4) (n := (14665 + 24 * j) + 24) (by omega) (by omega) ?_
        exact KK f g L ca ow sl gl F th mn va ki ra v H locs ls hRel hP hD hS hl
  · skip
    refine lv_isub hx hb dL_law_28 ?_
    refine lv_icmp_gt (tgt := 771) hx hb dL_law_29 (by decide) (fun c1 => ?_) (fun c1 => ?_)
    · skip
      refine lv_iconst (v := 1) hx hb dL_law_771 (by decide) ?_
      refine va_forget (fun q hq => hS.2.2 q hq) ?_
      refine W.widen (k := 601024) (n := 7293033) (by omega) (by omega) ?_
      exact lw_ret hx hb0 hr hlocks dL_law_772
    · skip
      exact absurd (exit_lt hh (by omega) (by omega)) c1

set_option maxHeartbeats 4000000 in
set_option maxRecDepth 100000 in
theorem whole_start {p : Program} {e : Env} {s : State} {m : MethodId} {below : List Frame} {meth : Method} {c : Code} (l : Launch) (htr : l.stackTraces = false) {b L : Nat} {xs : Nat → Int32} (hL : L ≤ 2048) (C0 : lw_At p s m meth c b L xs) : W p l e room_1 s m #[Value.ref b] below meth c s.heap [] 0 0 (lw_Z below #[Value.ref b] s) (entryFrame m ([Value.ref b] : List Value).toArray 7) := by
  obtain ⟨hx, hb0, hr, hml, hown0, hts0, hX, hbl, hlocks, hgv⟩ := id C0
  have hb : c.code = cL_law := hb0
  have hown : s.vm.findClass RL = some m.cls := hown0
  have hts : ∀ w ∈ wsL_law, w.before #[Value.ref b] s = true := fun w h => hts0 w (wsL_law_in w h)
  have hA : ∀ q : Nat, s.heap.size ≤ q → (fun q : Nat => s.heap.size ≤ q) q := fun _ h => h
  obtain ⟨c0, iS0, hKn0⟩ := u_known (C := RX0) (T := TX0) (N := 4) (n := 4) hts0 inX0 (hts0 (.instantiable RX0 4) (by decide +kernel))
  obtain ⟨c1, iS1, hKn1⟩ := u_known (C := RX1) (T := TX1) (N := 10) (n := 10) hts0 inX1 (hts0 (.instantiable RX1 10) (by decide +kernel))
  obtain ⟨cI, kI, compI, hcI, hkI, hkindI⟩ := Cond.arrayClass_spec (hts0 (.arrayClass .int) (by decide +kernel))
  obtain ⟨dC, dI, hKc⟩ : ∃ (dC : Nat → ClassId) (dI : Nat → Nat → Nat), ∀ (k : Nat) (q : vw_C), kC[k]? = some q → u_Kn s q.1 q.2.1 q.2.2 (dC k) (dI k) := by
    refine ⟨fun k => if k = 0 then c0 else c1, fun k => if k = 0 then iS0 else iS1, ?_⟩
    intro k q hq
    match k, hq with
    | 0, hq => cases hq; exact hKn0
    | 1, hq => cases hq; exact hKn1
    | k + 2, hq => simp [kC] at hq
  obtain ⟨D, hDe⟩ : ∃ D : va_G, D = (dC, dI) := ⟨_, rfl⟩
  have hK : va_K D kC (tI cI) s := by
    rw [hDe]
    refine ⟨hKc, fun k q h => ?_⟩
    match k, h with
    | 0, h => cases h; exact ⟨fun n z => ⟨fun k h => (by cases h), kI, hkI, compI, hkindI⟩, hcI⟩
    | k + 1, h => simp [tI] at h
  have hZ := law_kZ C0
  have hS : va_S (fun q : Nat => s.heap.size ≤ q) s.heap s.heap [] := va_S.rf
  have hP : va_P D kC [] s.heap := fun k q h => by simp at h
  have hD : va_D (fun q : Nat => s.heap.size ≤ q) [] := ⟨fun i j p q h => by simp at h, fun k q h => by simp at h⟩
  have hl := lv_entry ([.ref b]) (n := 7) (Nat.le_of_ble_eq_true rfl)
  rw [lg_entry_eq]
  generalize (lg_sl ([.ref b]) ++ List.replicate (7 - (lg_sl ([.ref b])).length) Slot.unset).toArray = ls at hl ⊢
  have hl : lv_has ls 7 [(0, .ref b)] := hl
  refine va_new (D := D) (ci := 0) (fs := [.null, .null, .int 0, .int 0]) (C := RX0) (T := TX0) (N := 4) hx hb hts0 inX0 tyX0 tyX0_ok hown (hts (.classLink RL 8 RX0) (by decide +kernel)) (hts (.instantiable RX0 4) (by decide +kernel)) (hts (.initialized RX0) (by decide +kernel)) hK hP hD hS hA rfl (fun j hj => by rcases (show j = 0 ∨ j = 1 ∨ j = 2 ∨ j = 3 by omega) with rfl | rfl | rfl | rfl <;> rfl) (Nat.le_of_ble_eq_true rfl) (Nat.le_of_ble_eq_true rfl) dL_law_0 (fun h0 H hP hD hS => ?_)
  have hP : va_P D kC ([(h0, .inr (0, [.null, .null, .int 0, .int 0]))]) H := hP
  have hD : va_D (fun q : Nat => s.heap.size ≤ q) ([(h0, .inr (0, [.null, .null, .int 0, .int 0]))]) := hD
  refine lv_dup hx hb dL_law_3 rfl ?_
  refine cIv (b := h0) (wr := []) (As := []) (rest := [.ref h0]) ⟨hx, hb, hml, hown, hts⟩ (pX0_init l D h0 cI) (cwI 0 hts gL_law_X0_init rfl rfl rfl (hts (.initialized RX0) (by decide +kernel)) (hts (.methodLink RL 48 yX0_init) (by decide +kernel)) (hts (.instanceMethod yX0_init) (by decide +kernel)) rfl (by decide +kernel) ⟨(Nat.le_of_ble_eq_true rfl), (Nat.le_of_ble_eq_true rfl)⟩) hK hP hD hS hA [0] [] rfl rfl (by decide) (by decide) (by decide) rfl hl.1 rfl (Nat.le_of_ble_eq_true rfl) dL_law_4 ⟨(Nat.le_of_ble_eq_true rfl), (Nat.le_of_ble_eq_true rfl)⟩ (fun u H locs hw hP hD hS => ?_)
  obtain ⟨h1, h2, rfl⟩ := hw
  have hP : va_P D kC (wX h0 h1 h2 cI (fun _ => 0) (fun t => if t < 4 then nI 1 else (fun _ => 0) t) (nI 48) (nI 0)) H := hP
  have hD : va_D (fun q : Nat => s.heap.size ≤ q) (wX h0 h1 h2 cI (fun _ => 0) (fun t => if t < 4 then nI 1 else (fun _ => 0) t) (nI 48) (nI 0)) := hD
  refine lv_astore_n (lv' := [(1, .ref h0), (0, .ref b)]) hx hb dL_law_7 rfl hl (by decide) rfl (fun ls hl => ?_)
  refine va_new (D := D) (ci := 1) (fs := [.int 0, .int 0, .int 0, .null, .null, .null, .int 0, .null, .null, .null]) (C := RX1) (T := TX1) (N := 10) hx hb hts0 inX1 tyX1 tyX1_ok hown (hts (.classLink RL 49 RX1) (by decide +kernel)) (hts (.instantiable RX1 10) (by decide +kernel)) (hts (.initialized RX1) (by decide +kernel)) hK hP hD hS hA rfl (fun j hj => by rcases (show j = 0 ∨ j = 1 ∨ j = 2 ∨ j = 3 ∨ j = 4 ∨ j = 5 ∨ j = 6 ∨ j = 7 ∨ j = 8 ∨ j = 9 by omega) with rfl | rfl | rfl | rfl | rfl | rfl | rfl | rfl | rfl | rfl <;> rfl) (Nat.le_of_ble_eq_true rfl) (Nat.le_of_ble_eq_true rfl) dL_law_8 (fun k0 H hP hD hS => ?_)
  have hP : va_P D kC (wX h0 h1 h2 cI (fun _ => 0) (fun t => if t < 4 then nI 1 else (fun _ => 0) t) (nI 48) (nI 0) ++ [(k0, .inr (1, [.int 0, .int 0, .int 0, .null, .null, .null, .int 0, .null, .null, .null]))]) H := hP
  have hD : va_D (fun q : Nat => s.heap.size ≤ q) (wX h0 h1 h2 cI (fun _ => 0) (fun t => if t < 4 then nI 1 else (fun _ => 0) t) (nI 48) (nI 0) ++ [(k0, .inr (1, [.int 0, .int 0, .int 0, .null, .null, .null, .int 0, .null, .null, .null]))]) := hD
  refine lv_dup hx hb dL_law_11 rfl ?_
  refine cIv (b := k0) (wr := (wX h0 h1 h2 cI (fun _ => 0) (fun t => if t < 4 then nI 1 else (fun _ => 0) t) (nI 48) (nI 0))) (As := []) (rest := [.ref k0]) ⟨hx, hb, hml, hown, hts⟩ (pX1_init l D k0 cI) (cwI 0 hts gL_law_X1_init rfl rfl rfl (hts (.initialized RX1) (by decide +kernel)) (hts (.methodLink RL 51 yX1_init) (by decide +kernel)) (hts (.instanceMethod yX1_init) (by decide +kernel)) rfl (by decide +kernel) ⟨(Nat.le_of_ble_eq_true rfl), (Nat.le_of_ble_eq_true rfl)⟩) hK hP hD hS hA [3] [0, 1, 2] rfl rfl (by decide) (by decide) (by decide) rfl hl.1 rfl (Nat.le_of_ble_eq_true rfl) dL_law_12 ⟨(Nat.le_of_ble_eq_true rfl), (Nat.le_of_ble_eq_true rfl)⟩ (fun u H locs hw hP hD hS => ?_)
  obtain ⟨k1, k2, k3, k4, k5, k6, rfl⟩ := hw
  have hP : va_P D kC (wX h0 h1 h2 cI (fun _ => 0) (fun t => if t < 4 then nI 1 else (fun _ => 0) t) (nI 48) (nI 0) ++ wM k0 k1 k2 k3 k4 k5 k6 cI 0 (nI 4) 0 (fun t => if t < 4 then nI t else 0) (fun _ => 0) (fun _ => 0) 0 (fun _ => 0) (fun _ => 0) (fun _ => 0)) H := hP
  have hD : va_D (fun q : Nat => s.heap.size ≤ q) (wX h0 h1 h2 cI (fun _ => 0) (fun t => if t < 4 then nI 1 else (fun _ => 0) t) (nI 48) (nI 0) ++ wM k0 k1 k2 k3 k4 k5 k6 cI 0 (nI 4) 0 (fun t => if t < 4 then nI t else 0) (fun _ => 0) (fun _ => 0) 0 (fun _ => 0) (fun _ => 0) (fun _ => 0)) := hD
  refine lv_astore_n (lv' := [(2, .ref k0), (1, .ref h0), (0, .ref b)]) hx hb dL_law_15 rfl hl (by decide) rfl (fun ls hl => ?_)
  refine lv_iconst (v := nI 1) hx hb dL_law_16 (by decide) ?_
  refine va_newa hx hb (atype := .long) (hts (.arrayClass .long) (by decide +kernel)) (ty := .long) rfl hK hP hD hS hA (N' := 1) (a0 := (1, .inr (.inl fun _ => 0))) (fun _ => rfl) (by decide) (by decide) (by decide) (Nat.le_of_ble_eq_true rfl) (Nat.le_of_ble_eq_true rfl) dL_law_17 (fun o cL H hK hP hD hS => ?_)
  have hK : va_K D kC (tIL cI cL) s := hK
  have hP : va_P D kC (wL h0 h1 h2 k0 k1 k2 k3 k4 k5 k6 o cI cL (fun _ => 0) (fun t => if t < 4 then nI 1 else (fun _ => 0) t) 48 0 0 (fun t => if t < 4 then nI t else 0) (fun _ => 0) (fun _ => 0) 4 0 0 (fun _ => 0) (fun _ => 0) (fun _ => 0) (fun _ => 0)) H := hP
  have hD : va_D (fun q : Nat => s.heap.size ≤ q) (wL h0 h1 h2 k0 k1 k2 k3 k4 k5 k6 o cI cL (fun _ => 0) (fun t => if t < 4 then nI 1 else (fun _ => 0) t) 48 0 0 (fun t => if t < 4 then nI t else 0) (fun _ => 0) (fun _ => 0) 4 0 0 (fun _ => 0) (fun _ => 0) (fun _ => 0) (fun _ => 0)) := hD
  refine lv_astore_n (lv' := [(3, .ref o), (2, .ref k0), (1, .ref h0), (0, .ref b)]) hx hb dL_law_19 rfl hl (by decide) rfl (fun ls hl => ?_)
  refine lv_iconst (v := nI 0) hx hb dL_law_20 (by decide) ?_
  refine lv_istore (lv' := [(4, .int (nI 0)), (3, .ref o), (2, .ref k0), (1, .ref h0), (0, .ref b)]) hx hb dL_law_21 hl (by decide) rfl (fun ls hl => ?_)
  refine W.widen (k := 11 + 4 * 0) (n := 14665 + 24 * 0) (Nat.le_of_ble_eq_true rfl) (Nat.le_of_ble_eq_true rfl) ?_
  exact law_loop hL C0 htr hK hZ 0 (Nat.zero_le _) _ _ _ _ _ _ _ _ _ _ _ _ _ _ H _ ls Rel.start hP hD hS (lv_sub hl [4, 3, 2, 1, 0] rfl)
