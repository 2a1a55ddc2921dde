section INIT
abbrev rI0 : Room := { frames := 10, cells := 2, slots := 2068, locals := 100 }
abbrev rI1 : Room := { frames := 10, cells := 6, slots := 12582, locals := 100 }
theorem ow_start : (fun t => if t < 0 then nI t else (0 : Int32)) = (fun _ => 0) := by funext t; rw [if_neg (by omega)]
theorem ow_put {i : Nat} : upd (fun t => if t < i then nI t else (0 : Int32)) i (nI i) = (fun t => if t < i + 1 then nI t else 0) := by
  funext t
  by_cases e : t = i
  · subst e; rw [pk_us, if_pos (by omega)]
  · rw [pk_un e]
    by_cases h : t < i
    · rw [if_pos h, if_pos (by omega)]
    · rw [if_neg h, if_neg (by omega)]
theorem kNewI {p : Program} {l : Launch} {e : Env} {R : Room} {s : State} {m : MethodId} {args : Array Value} {below : List Frame} {meth : Method} {c : Code} {H H0 : Heap} {locs : List Loc} {cells slots : Nat} {Q : State → Prop} {cc : ByteArray} {pc : Nat} {ls : Array Slot} {rest : List Value} {D : va_G} {tys : List (ClassId × FieldType)} {A : Nat → Prop} {ws : va_W} {cI : ClassId}
    (hx : p.tables.exec = Jvm.exec) (hb : c.code = cc) (harr : (Cond.arrayClass .int).before args s = true) (hK : va_K D kC tys s) (t0 : Nat) (ht : tys[t0]? = some (cI, .int)) (hP : va_P D kC ws H) (hD : va_D A ws) (hS : va_S A H0 H locs) (hA : ∀ q, H0.size ≤ q → A q) {N : Nat} (hN : N ≤ 100000) (hc : cells + 1 ≤ R.cells) (hs : slots + N ≤ R.slots) (hdg : decode cc pc = .ok (.newarray .int, 2))
    (kk : ∀ (q : Nat) (H1 : Heap), va_P D kC (ws ++ [(q, .inl (cI, N, .inl (fun _ => 0)))]) H1 → va_D A (ws ++ [(q, .inl (cI, N, .inl (fun _ => 0)))]) → va_S A H0 H1 locs → W p l e R s m args below meth c H1 locs (cells + 1) (slots + N) Q (F0 m (pc + 2) ls (.ref q :: rest))) :
    W p l e R s m args below meth c H locs cells slots Q (F0 m pc ls (.int (nI N) :: rest)) := by
  refine va_newa hx hb (atype := .int) harr (ty := .int) rfl hK hP hD hS hA (a0 := (N, .inl fun _ => 0)) (fun _ => rfl) (nI_pos (by omega)) (nI_clamp (by omega)) (by show N * 4 ≤ _; omega) hc hs hdg (fun q cA H1 hK1 hP1 hD1 hS1 => ?_)
  have h1 : va_RA s cA .int := (hK1.2 tys.length (cA, .int) (by rw [List.getElem?_append_right (Nat.le_refl _), Nat.sub_self]; rfl)).2
  have h2 : va_RA s cI .int := (hK.2 t0 _ ht).2
  have e1 : cA = cI := Option.some.inj (Eq.trans (Eq.symm h1) h2)
  subst e1
  exact kk q H1 hP1 hD1 hS1
end INIT
set_option maxHeartbeats 4000000 in
set_option maxRecDepth 100000 in
theorem pX0_init (l : Launch) (D : va_G) (h0 : Nat) (cI : ClassId) : Mv l yX0_init wsX0_init rI0 D (tI cI) [.ref h0] ([(h0, .inr (0, [.null, .null, .int 0, .int 0]))]) (fun u => ∃ h1 h2, u = wX h0 h1 h2 cI (fun _ => 0) (fun t => if t < 4 then nI 1 else (fun _ => 0) t) (nI 48) (nI 0)) := by
  refine Mv.of (cc := cX0_init) (maxL := 1) (by decide +kernel) rfl (Nat.le_of_ble_eq_true rfl) ?_
  rintro p e s m below meth c ls A ⟨hx, hb, hr, hml, hts, hown, hlocks, hnm, hP, hK, hD, hA, hS, hl⟩
  have hown : s.vm.findClass RX0 = some m.cls := hown
  have hl : lv_has ls 1 [(0, .ref h0)] := hl
  have hin : ∀ w ∈ wsX00, w ∈ wsX0_init := by decide +kernel
  have hP : va_P D kC ([(h0, .inr (0, [.null, .null, .int 0, .int 0]))]) s.heap := hP
  have hD : va_D A ([(h0, .inr (0, [.null, .null, .int 0, .int 0]))]) := hD
  refine lv_aload_n hx hb dX0_init_0 rfl (lv_at hl 0 rfl) ?_
  refine W.objInit hx hb hown (hts (.methodLink RX0 3 objectInit) (by decide +kernel)) (hts (.instanceMethod objectInit) (by decide +kernel)) (hts (.code objectInit ⟨#[0xb1]⟩ 1 none) (by decide +kernel)) rfl (by rw [hml]; exact hl.1) rfl dX0_init_1 (Nat.le_of_ble_eq_true rfl) (Nat.le_of_ble_eq_true rfl) ?_
  refine W.eq (g2 := F0 m 4 ls []) rfl ?_
  refine lv_aload_n hx hb dX0_init_4 rfl (lv_at hl 0 rfl) ?_
  refine lv_sipush (v := nI 2064) hx hb dX0_init_5 (by decide) ?_
  refine kNewI hx hb (hts (.arrayClass .int) (by decide +kernel)) hK 0 rfl hP hD hS hA (N := 2064) (by decide) (Nat.le_of_ble_eq_true rfl) (Nat.le_of_ble_eq_true rfl) dX0_init_8 (fun h1 H hP hD hS => ?_)
  have hP : va_P D kC [(h0, .inr (0, [.null, .null, .int 0, .int 0])), (h1, .inl (cI, 2064, .inl (fun _ => 0)))] H := hP
  have hD : va_D A [(h0, .inr (0, [.null, .null, .int 0, .int 0])), (h1, .inl (cI, 2064, .inl (fun _ => 0)))] := hD
  refine va_putF (D := D) (ci := 0) (v := .ref h1) (ty := .array .int) (C := RX0) (T := TX0) (N := 4) hx hb hts hin tyX0 tyX0_ok nmX0 hown hK hP hD hS 0 rfl rfl 0 (by decide) (hts (.fieldLink RX0 9 "FrameRow" "row" "[I") (by decide +kernel)) (fun _ h9 => h9) rfl hnm rfl (by decide +kernel) rfl rfl (Nat.le_of_ble_eq_true rfl) dX0_init_10 (fun H locs hP hD hS => ?_)
  have hP : va_P D kC [(h0, .inr (0, [.ref h1, .null, .int 0, .int 0])), (h1, .inl (cI, 2064, .inl (fun _ => 0)))] H := hP
  have hD : va_D A [(h0, .inr (0, [.ref h1, .null, .int 0, .int 0])), (h1, .inl (cI, 2064, .inl (fun _ => 0)))] := hD
  refine lv_aload_n hx hb dX0_init_13 rfl (lv_at hl 0 rfl) ?_
  refine lv_iconst (v := nI 4) hx hb dX0_init_14 (by decide) ?_
  refine kNewI hx hb (hts (.arrayClass .int) (by decide +kernel)) hK 0 rfl hP hD hS hA (N := 4) (by decide) (Nat.le_of_ble_eq_true rfl) (Nat.le_of_ble_eq_true rfl) dX0_init_15 (fun h2 H hP hD hS => ?_)
  have hP : va_P D kC [(h0, .inr (0, [.ref h1, .null, .int 0, .int 0])), (h1, .inl (cI, 2064, .inl (fun _ => 0))), (h2, .inl (cI, 4, .inl (fun _ => 0)))] H := hP
  have hD : va_D A [(h0, .inr (0, [.ref h1, .null, .int 0, .int 0])), (h1, .inl (cI, 2064, .inl (fun _ => 0))), (h2, .inl (cI, 4, .inl (fun _ => 0)))] := hD
  refine va_putF (D := D) (ci := 0) (v := .ref h2) (ty := .array .int) (C := RX0) (T := TX0) (N := 4) hx hb hts hin tyX0 tyX0_ok nmX0 hown hK hP hD hS 0 rfl rfl 1 (by decide) (hts (.fieldLink RX0 13 "FrameRow" "frameCounts" "[I") (by decide +kernel)) (fun _ h9 => h9) rfl hnm rfl (by decide +kernel) rfl rfl (Nat.le_of_ble_eq_true rfl) dX0_init_17 (fun H locs hP hD hS => ?_)
  have hP : va_P D kC [(h0, .inr (0, [.ref h1, .ref h2, .int 0, .int 0])), (h1, .inl (cI, 2064, .inl (fun _ => 0))), (h2, .inl (cI, 4, .inl (fun _ => 0)))] H := hP
  have hD : va_D A [(h0, .inr (0, [.ref h1, .ref h2, .int 0, .int 0])), (h1, .inl (cI, 2064, .inl (fun _ => 0))), (h2, .inl (cI, 4, .inl (fun _ => 0)))] := hD
  refine lv_aload_n hx hb dX0_init_20 rfl (lv_at hl 0 rfl) ?_
  refine va_get (D := D) (ci := 0) (v := .ref h2) (C := RX0) (T := TX0) (N := 4) hx hb hts hin hown hK hP 0 rfl rfl 1 (by decide) (hts (.fieldLink RX0 13 "FrameRow" "frameCounts" "[I") (by decide +kernel)) (fun _ h9 => h9) rfl dX0_init_21 ?_
  refine lv_iconst (v := nI 1) hx hb dX0_init_24 (by decide) ?_
  refine cSv (wr := [(h0, .inr (0, [.ref h1, .ref h2, .int 0, .int 0])), (h1, .inl (cI, 2064, .inl (fun _ => 0)))]) (As := [.ref h2, .int (nI 1)]) (rest := []) ⟨hx, hb, hml, hown, hts⟩ (pJ7_fill l D cI h2 4 (fun _ => 0) (nI 1) (by decide)) (va_cwS 2 hts gX0_init_J7_fill_53178 rfl rfl rfl (by decide +kernel) ⟨(Nat.le_of_ble_eq_true rfl), (Nat.le_of_ble_eq_true rfl)⟩) hK hP hD hS hA [2] [0, 1] rfl rfl (by decide) (by decide) (by decide) rfl hl.1 rfl (Nat.le_of_ble_eq_true rfl) dX0_init_25 ⟨(Nat.le_of_ble_eq_true rfl), (Nat.le_of_ble_eq_true rfl)⟩ (fun u H locs hw hP hD hS => ?_)
  obtain rfl := hw
  have hP : va_P D kC (wX h0 h1 h2 cI (fun _ => 0) (fun t => if t < 4 then nI 1 else (fun _ => 0) t) 0 0) H := hP
  have hD : va_D A (wX h0 h1 h2 cI (fun _ => 0) (fun t => if t < 4 then nI 1 else (fun _ => 0) t) 0 0) := hD
  refine lv_aload_n hx hb dX0_init_28 rfl (lv_at hl 0 rfl) ?_
  refine lv_bipush (v := nI 48) hx hb dX0_init_29 (by decide) ?_
  refine va_put (D := D) (ci := 0) (v := .int (nI 48)) (ty := .int) (C := RX0) (T := TX0) (N := 4) hx hb hts hin tyX0 tyX0_ok nmX0 hown hK hP hD hS 0 rfl rfl 2 (by decide) (hts (.fieldLink RX0 22 "FrameRow" "length" "I") (by decide +kernel)) (fun _ h9 => h9) rfl (by decide +kernel) rfl rfl (Nat.le_of_ble_eq_true rfl) dX0_init_31 (fun H locs hP hD hS => ?_)
  have hP : va_P D kC (wX h0 h1 h2 cI (fun _ => 0) (fun t => if t < 4 then nI 1 else (fun _ => 0) t) (nI 48) 0) H := hP
  have hD : va_D A (wX h0 h1 h2 cI (fun _ => 0) (fun t => if t < 4 then nI 1 else (fun _ => 0) t) (nI 48) 0) := hD
  refine lv_aload_n hx hb dX0_init_34 rfl (lv_at hl 0 rfl) ?_
  refine lv_iconst (v := nI 0) hx hb dX0_init_35 (by decide) ?_
  refine va_put (D := D) (ci := 0) (v := .int (nI 0)) (ty := .int) (C := RX0) (T := TX0) (N := 4) hx hb hts hin tyX0 tyX0_ok nmX0 hown hK hP hD hS 0 rfl rfl 3 (by decide) (hts (.fieldLink RX0 26 "FrameRow" "calls" "I") (by decide +kernel)) (fun _ h9 => h9) rfl (by decide +kernel) rfl rfl (Nat.le_of_ble_eq_true rfl) dX0_init_36 (fun H locs hP hD hS => ?_)
  have hP : va_P D kC (wX h0 h1 h2 cI (fun _ => 0) (fun t => if t < 4 then nI 1 else (fun _ => 0) t) (nI 48) (nI 0)) H := hP
  have hD : va_D A (wX h0 h1 h2 cI (fun _ => 0) (fun t => if t < 4 then nI 1 else (fun _ => 0) t) (nI 48) (nI 0)) := hD
  exact (kRetv hx hb hr hlocks dX0_init_39 (Nat.le_of_ble_eq_true rfl) (Nat.le_of_ble_eq_true rfl) hK hS hP hD ⟨h1, h2, rfl⟩)

set_option maxHeartbeats 4000000 in
set_option maxRecDepth 100000 in
theorem pX1_init (l : Launch) (D : va_G) (k0 : Nat) (cI : ClassId) : Mv l yX1_init wsX1_init rI1 D (tI cI) [.ref k0] ([(k0, .inr (1, [.int 0, .int 0, .int 0, .null, .null, .null, .int 0, .null, .null, .null]))]) (fun u => ∃ k1 k2 k3 k4 k5 k6, u = wM k0 k1 k2 k3 k4 k5 k6 cI 0 (nI 4) 0 (fun t => if t < 4 then nI t else 0) (fun _ => 0) (fun _ => 0) 0 (fun _ => 0) (fun _ => 0) (fun _ => 0)) := by
  refine Mv.of (cc := cX1_init) (maxL := 2) (by decide +kernel) rfl (Nat.le_of_ble_eq_true rfl) ?_
  rintro p e s m below meth c ls A ⟨hx, hb, hr, hml, hts, hown, hlocks, hnm, hP, hK, hD, hA, hS, hl⟩
  have hown : s.vm.findClass RX1 = some m.cls := hown
  have hl : lv_has ls 2 [(0, .ref k0)] := hl
  have hin : ∀ w ∈ wsX10, w ∈ wsX1_init := by decide +kernel
  have hP : va_P D kC ([(k0, .inr (1, [.int 0, .int 0, .int 0, .null, .null, .null, .int 0, .null, .null, .null]))]) s.heap := hP
  have hD : va_D A ([(k0, .inr (1, [.int 0, .int 0, .int 0, .null, .null, .null, .int 0, .null, .null, .null]))]) := hD
  refine lv_aload_n hx hb dX1_init_0 rfl (lv_at hl 0 rfl) ?_
  refine W.objInit hx hb hown (hts (.methodLink RX1 1 objectInit) (by decide +kernel)) (hts (.instanceMethod objectInit) (by decide +kernel)) (hts (.code objectInit ⟨#[0xb1]⟩ 1 none) (by decide +kernel)) rfl (by rw [hml]; exact hl.1) rfl dX1_init_1 (Nat.le_of_ble_eq_true rfl) (Nat.le_of_ble_eq_true rfl) ?_
  refine W.eq (g2 := F0 m 4 ls []) rfl ?_
  refine lv_aload_n hx hb dX1_init_4 rfl (lv_at hl 0 rfl) ?_
  refine lv_iconst (v := nI 4) hx hb dX1_init_5 (by decide) ?_
  refine va_put (D := D) (ci := 1) (v := .int (nI 4)) (ty := .int) (C := RX1) (T := TX1) (N := 10) hx hb hts hin tyX1 tyX1_ok nmX1 hown hK hP hD hS 0 rfl rfl 1 (by decide) (hts (.fieldLink RX1 7 "FrameRowModel" "frames" "I") (by decide +kernel)) (fun _ h9 => h9) rfl (by decide +kernel) rfl rfl (Nat.le_of_ble_eq_true rfl) dX1_init_6 (fun H locs hP hD hS => ?_)
  have hP : va_P D kC [(k0, .inr (1, [.int 0, .int (nI 4), .int 0, .null, .null, .null, .int 0, .null, .null, .null]))] H := hP
  have hD : va_D A [(k0, .inr (1, [.int 0, .int (nI 4), .int 0, .null, .null, .null, .int 0, .null, .null, .null]))] := hD
  refine lv_aload_n hx hb dX1_init_9 rfl (lv_at hl 0 rfl) ?_
  refine lv_sipush (v := nI 256) hx hb dX1_init_10 (by decide) ?_
  refine kNewI hx hb (hts (.arrayClass .int) (by decide +kernel)) hK 0 rfl hP hD hS hA (N := 256) (by decide) (Nat.le_of_ble_eq_true rfl) (Nat.le_of_ble_eq_true rfl) dX1_init_13 (fun k1 H hP hD hS => ?_)
  have hP : va_P D kC [(k0, .inr (1, [.int 0, .int (nI 4), .int 0, .null, .null, .null, .int 0, .null, .null, .null])), (k1, .inl (cI, 256, .inl (fun _ => 0)))] H := hP
  have hD : va_D A [(k0, .inr (1, [.int 0, .int (nI 4), .int 0, .null, .null, .null, .int 0, .null, .null, .null])), (k1, .inl (cI, 256, .inl (fun _ => 0)))] := hD
  refine va_putF (D := D) (ci := 1) (v := .ref k1) (ty := .array .int) (C := RX1) (T := TX1) (N := 10) hx hb hts hin tyX1 tyX1_ok nmX1 hown hK hP hD hS 0 rfl rfl 3 (by decide) (hts (.fieldLink RX1 13 "FrameRowModel" "owners" "[I") (by decide +kernel)) (fun _ h9 => h9) rfl hnm rfl (by decide +kernel) rfl rfl (Nat.le_of_ble_eq_true rfl) dX1_init_15 (fun H locs hP hD hS => ?_)
  have hP : va_P D kC [(k0, .inr (1, [.int 0, .int (nI 4), .int 0, .ref k1, .null, .null, .int 0, .null, .null, .null])), (k1, .inl (cI, 256, .inl (fun _ => 0)))] H := hP
  have hD : va_D A [(k0, .inr (1, [.int 0, .int (nI 4), .int 0, .ref k1, .null, .null, .int 0, .null, .null, .null])), (k1, .inl (cI, 256, .inl (fun _ => 0)))] := hD
  refine lv_aload_n hx hb dX1_init_18 rfl (lv_at hl 0 rfl) ?_
  refine lv_sipush (v := nI 2048) hx hb dX1_init_19 (by decide) ?_
  refine kNewI hx hb (hts (.arrayClass .int) (by decide +kernel)) hK 0 rfl hP hD hS hA (N := 2048) (by decide) (Nat.le_of_ble_eq_true rfl) (Nat.le_of_ble_eq_true rfl) dX1_init_22 (fun k2 H hP hD hS => ?_)
  have hP : va_P D kC [(k0, .inr (1, [.int 0, .int (nI 4), .int 0, .ref k1, .null, .null, .int 0, .null, .null, .null])), (k1, .inl (cI, 256, .inl (fun _ => 0))), (k2, .inl (cI, 2048, .inl (fun _ => 0)))] H := hP
  have hD : va_D A [(k0, .inr (1, [.int 0, .int (nI 4), .int 0, .ref k1, .null, .null, .int 0, .null, .null, .null])), (k1, .inl (cI, 256, .inl (fun _ => 0))), (k2, .inl (cI, 2048, .inl (fun _ => 0)))] := hD
  refine va_putF (D := D) (ci := 1) (v := .ref k2) (ty := .array .int) (C := RX1) (T := TX1) (N := 10) hx hb hts hin tyX1 tyX1_ok nmX1 hown hK hP hD hS 0 rfl rfl 4 (by decide) (hts (.fieldLink RX1 17 "FrameRowModel" "slots" "[I") (by decide +kernel)) (fun _ h9 => h9) rfl hnm rfl (by decide +kernel) rfl rfl (Nat.le_of_ble_eq_true rfl) dX1_init_24 (fun H locs hP hD hS => ?_)
  have hP : va_P D kC [(k0, .inr (1, [.int 0, .int (nI 4), .int 0, .ref k1, .ref k2, .null, .int 0, .null, .null, .null])), (k1, .inl (cI, 256, .inl (fun _ => 0))), (k2, .inl (cI, 2048, .inl (fun _ => 0)))] H := hP
  have hD : va_D A [(k0, .inr (1, [.int 0, .int (nI 4), .int 0, .ref k1, .ref k2, .null, .int 0, .null, .null, .null])), (k1, .inl (cI, 256, .inl (fun _ => 0))), (k2, .inl (cI, 2048, .inl (fun _ => 0)))] := hD
  refine lv_aload_n hx hb dX1_init_27 rfl (lv_at hl 0 rfl) ?_
  refine lv_bipush (v := nI 16) hx hb dX1_init_28 (by decide) ?_
  refine kNewI hx hb (hts (.arrayClass .int) (by decide +kernel)) hK 0 rfl hP hD hS hA (N := 16) (by decide) (Nat.le_of_ble_eq_true rfl) (Nat.le_of_ble_eq_true rfl) dX1_init_30 (fun k3 H hP hD hS => ?_)
  have hP : va_P D kC [(k0, .inr (1, [.int 0, .int (nI 4), .int 0, .ref k1, .ref k2, .null, .int 0, .null, .null, .null])), (k1, .inl (cI, 256, .inl (fun _ => 0))), (k2, .inl (cI, 2048, .inl (fun _ => 0))), (k3, .inl (cI, 16, .inl (fun _ => 0)))] H := hP
  have hD : va_D A [(k0, .inr (1, [.int 0, .int (nI 4), .int 0, .ref k1, .ref k2, .null, .int 0, .null, .null, .null])), (k1, .inl (cI, 256, .inl (fun _ => 0))), (k2, .inl (cI, 2048, .inl (fun _ => 0))), (k3, .inl (cI, 16, .inl (fun _ => 0)))] := hD
  refine va_putF (D := D) (ci := 1) (v := .ref k3) (ty := .array .int) (C := RX1) (T := TX1) (N := 10) hx hb hts hin tyX1 tyX1_ok nmX1 hown hK hP hD hS 0 rfl rfl 5 (by decide) (hts (.fieldLink RX1 20 "FrameRowModel" "globals" "[I") (by decide +kernel)) (fun _ h9 => h9) rfl hnm rfl (by decide +kernel) rfl rfl (Nat.le_of_ble_eq_true rfl) dX1_init_32 (fun H locs hP hD hS => ?_)
  have hP : va_P D kC [(k0, .inr (1, [.int 0, .int (nI 4), .int 0, .ref k1, .ref k2, .ref k3, .int 0, .null, .null, .null])), (k1, .inl (cI, 256, .inl (fun _ => 0))), (k2, .inl (cI, 2048, .inl (fun _ => 0))), (k3, .inl (cI, 16, .inl (fun _ => 0)))] H := hP
  have hD : va_D A [(k0, .inr (1, [.int 0, .int (nI 4), .int 0, .ref k1, .ref k2, .ref k3, .int 0, .null, .null, .null])), (k1, .inl (cI, 256, .inl (fun _ => 0))), (k2, .inl (cI, 2048, .inl (fun _ => 0))), (k3, .inl (cI, 16, .inl (fun _ => 0)))] := hD
  refine lv_aload_n hx hb dX1_init_35 rfl (lv_at hl 0 rfl) ?_
  refine lv_sipush (v := nI 2064) hx hb dX1_init_36 (by decide) ?_
  refine kNewI hx hb (hts (.arrayClass .int) (by decide +kernel)) hK 0 rfl hP hD hS hA (N := 2064) (by decide) (Nat.le_of_ble_eq_true rfl) (Nat.le_of_ble_eq_true rfl) dX1_init_39 (fun k4 H hP hD hS => ?_)
  have hP : va_P D kC [(k0, .inr (1, [.int 0, .int (nI 4), .int 0, .ref k1, .ref k2, .ref k3, .int 0, .null, .null, .null])), (k1, .inl (cI, 256, .inl (fun _ => 0))), (k2, .inl (cI, 2048, .inl (fun _ => 0))), (k3, .inl (cI, 16, .inl (fun _ => 0))), (k4, .inl (cI, 2064, .inl (fun _ => 0)))] H := hP
  have hD : va_D A [(k0, .inr (1, [.int 0, .int (nI 4), .int 0, .ref k1, .ref k2, .ref k3, .int 0, .null, .null, .null])), (k1, .inl (cI, 256, .inl (fun _ => 0))), (k2, .inl (cI, 2048, .inl (fun _ => 0))), (k3, .inl (cI, 16, .inl (fun _ => 0))), (k4, .inl (cI, 2064, .inl (fun _ => 0)))] := hD
  refine va_putF (D := D) (ci := 1) (v := .ref k4) (ty := .array .int) (C := RX1) (T := TX1) (N := 10) hx hb hts hin tyX1 tyX1_ok nmX1 hown hK hP hD hS 0 rfl rfl 7 (by decide) (hts (.fieldLink RX1 23 "FrameRowModel" "values" "[I") (by decide +kernel)) (fun _ h9 => h9) rfl hnm rfl (by decide +kernel) rfl rfl (Nat.le_of_ble_eq_true rfl) dX1_init_41 (fun H locs hP hD hS => ?_)
  have hP : va_P D kC [(k0, .inr (1, [.int 0, .int (nI 4), .int 0, .ref k1, .ref k2, .ref k3, .int 0, .ref k4, .null, .null])), (k1, .inl (cI, 256, .inl (fun _ => 0))), (k2, .inl (cI, 2048, .inl (fun _ => 0))), (k3, .inl (cI, 16, .inl (fun _ => 0))), (k4, .inl (cI, 2064, .inl (fun _ => 0)))] H := hP
  have hD : va_D A [(k0, .inr (1, [.int 0, .int (nI 4), .int 0, .ref k1, .ref k2, .ref k3, .int 0, .ref k4, .null, .null])), (k1, .inl (cI, 256, .inl (fun _ => 0))), (k2, .inl (cI, 2048, .inl (fun _ => 0))), (k3, .inl (cI, 16, .inl (fun _ => 0))), (k4, .inl (cI, 2064, .inl (fun _ => 0)))] := hD
  refine lv_aload_n hx hb dX1_init_44 rfl (lv_at hl 0 rfl) ?_
  refine lv_sipush (v := nI 4099) hx hb dX1_init_45 (by decide) ?_
  refine kNewI hx hb (hts (.arrayClass .int) (by decide +kernel)) hK 0 rfl hP hD hS hA (N := 4099) (by decide) (Nat.le_of_ble_eq_true rfl) (Nat.le_of_ble_eq_true rfl) dX1_init_48 (fun k5 H hP hD hS => ?_)
  have hP : va_P D kC [(k0, .inr (1, [.int 0, .int (nI 4), .int 0, .ref k1, .ref k2, .ref k3, .int 0, .ref k4, .null, .null])), (k1, .inl (cI, 256, .inl (fun _ => 0))), (k2, .inl (cI, 2048, .inl (fun _ => 0))), (k3, .inl (cI, 16, .inl (fun _ => 0))), (k4, .inl (cI, 2064, .inl (fun _ => 0))), (k5, .inl (cI, 4099, .inl (fun _ => 0)))] H := hP
  have hD : va_D A [(k0, .inr (1, [.int 0, .int (nI 4), .int 0, .ref k1, .ref k2, .ref k3, .int 0, .ref k4, .null, .null])), (k1, .inl (cI, 256, .inl (fun _ => 0))), (k2, .inl (cI, 2048, .inl (fun _ => 0))), (k3, .inl (cI, 16, .inl (fun _ => 0))), (k4, .inl (cI, 2064, .inl (fun _ => 0))), (k5, .inl (cI, 4099, .inl (fun _ => 0)))] := hD
  refine va_putF (D := D) (ci := 1) (v := .ref k5) (ty := .array .int) (C := RX1) (T := TX1) (N := 10) hx hb hts hin tyX1 tyX1_ok nmX1 hown hK hP hD hS 0 rfl rfl 8 (by decide) (hts (.fieldLink RX1 26 "FrameRowModel" "kinds" "[I") (by decide +kernel)) (fun _ h9 => h9) rfl hnm rfl (by decide +kernel) rfl rfl (Nat.le_of_ble_eq_true rfl) dX1_init_50 (fun H locs hP hD hS => ?_)
  have hP : va_P D kC [(k0, .inr (1, [.int 0, .int (nI 4), .int 0, .ref k1, .ref k2, .ref k3, .int 0, .ref k4, .ref k5, .null])), (k1, .inl (cI, 256, .inl (fun _ => 0))), (k2, .inl (cI, 2048, .inl (fun _ => 0))), (k3, .inl (cI, 16, .inl (fun _ => 0))), (k4, .inl (cI, 2064, .inl (fun _ => 0))), (k5, .inl (cI, 4099, .inl (fun _ => 0)))] H := hP
  have hD : va_D A [(k0, .inr (1, [.int 0, .int (nI 4), .int 0, .ref k1, .ref k2, .ref k3, .int 0, .ref k4, .ref k5, .null])), (k1, .inl (cI, 256, .inl (fun _ => 0))), (k2, .inl (cI, 2048, .inl (fun _ => 0))), (k3, .inl (cI, 16, .inl (fun _ => 0))), (k4, .inl (cI, 2064, .inl (fun _ => 0))), (k5, .inl (cI, 4099, .inl (fun _ => 0)))] := hD
  refine lv_aload_n hx hb dX1_init_53 rfl (lv_at hl 0 rfl) ?_
  refine lv_sipush (v := nI 4099) hx hb dX1_init_54 (by decide) ?_
  refine kNewI hx hb (hts (.arrayClass .int) (by decide +kernel)) hK 0 rfl hP hD hS hA (N := 4099) (by decide) (Nat.le_of_ble_eq_true rfl) (Nat.le_of_ble_eq_true rfl) dX1_init_57 (fun k6 H hP hD hS => ?_)
  have hP : va_P D kC [(k0, .inr (1, [.int 0, .int (nI 4), .int 0, .ref k1, .ref k2, .ref k3, .int 0, .ref k4, .ref k5, .null])), (k1, .inl (cI, 256, .inl (fun _ => 0))), (k2, .inl (cI, 2048, .inl (fun _ => 0))), (k3, .inl (cI, 16, .inl (fun _ => 0))), (k4, .inl (cI, 2064, .inl (fun _ => 0))), (k5, .inl (cI, 4099, .inl (fun _ => 0))), (k6, .inl (cI, 4099, .inl (fun _ => 0)))] H := hP
  have hD : va_D A [(k0, .inr (1, [.int 0, .int (nI 4), .int 0, .ref k1, .ref k2, .ref k3, .int 0, .ref k4, .ref k5, .null])), (k1, .inl (cI, 256, .inl (fun _ => 0))), (k2, .inl (cI, 2048, .inl (fun _ => 0))), (k3, .inl (cI, 16, .inl (fun _ => 0))), (k4, .inl (cI, 2064, .inl (fun _ => 0))), (k5, .inl (cI, 4099, .inl (fun _ => 0))), (k6, .inl (cI, 4099, .inl (fun _ => 0)))] := hD
  refine va_putF (D := D) (ci := 1) (v := .ref k6) (ty := .array .int) (C := RX1) (T := TX1) (N := 10) hx hb hts hin tyX1 tyX1_ok nmX1 hown hK hP hD hS 0 rfl rfl 9 (by decide) (hts (.fieldLink RX1 29 "FrameRowModel" "ranks" "[I") (by decide +kernel)) (fun _ h9 => h9) rfl hnm rfl (by decide +kernel) rfl rfl (Nat.le_of_ble_eq_true rfl) dX1_init_59 (fun H locs hP hD hS => ?_)
  have hP : va_P D kC [(k0, .inr (1, [.int 0, .int (nI 4), .int 0, .ref k1, .ref k2, .ref k3, .int 0, .ref k4, .ref k5, .ref k6])), (k1, .inl (cI, 256, .inl (fun _ => 0))), (k2, .inl (cI, 2048, .inl (fun _ => 0))), (k3, .inl (cI, 16, .inl (fun _ => 0))), (k4, .inl (cI, 2064, .inl (fun _ => 0))), (k5, .inl (cI, 4099, .inl (fun _ => 0))), (k6, .inl (cI, 4099, .inl (fun _ => 0)))] H := hP
  have hD : va_D A [(k0, .inr (1, [.int 0, .int (nI 4), .int 0, .ref k1, .ref k2, .ref k3, .int 0, .ref k4, .ref k5, .ref k6])), (k1, .inl (cI, 256, .inl (fun _ => 0))), (k2, .inl (cI, 2048, .inl (fun _ => 0))), (k3, .inl (cI, 16, .inl (fun _ => 0))), (k4, .inl (cI, 2064, .inl (fun _ => 0))), (k5, .inl (cI, 4099, .inl (fun _ => 0))), (k6, .inl (cI, 4099, .inl (fun _ => 0)))] := hD
  have hP : va_P D kC (wM k0 k1 k2 k3 k4 k5 k6 cI 0 (nI 4) 0 ((fun t => if t < 0 then nI t else 0)) (fun _ => 0) (fun _ => 0) 0 (fun _ => 0) (fun _ => 0) (fun _ => 0)) H := by rw [ow_start]; exact hP
  have hD : va_D A (wM k0 k1 k2 k3 k4 k5 k6 cI 0 (nI 4) 0 ((fun t => if t < 0 then nI t else 0)) (fun _ => 0) (fun _ => 0) 0 (fun _ => 0) (fun _ => 0) (fun _ => 0)) := by rw [ow_start]; exact hD
  refine lv_iconst (v := nI 0) hx hb dX1_init_62 (by decide) ?_
  refine lv_istore_n (lv' := [(1, .int (nI 0)), (0, .ref k0)]) hx hb dX1_init_63 rfl hl (by decide) rfl (fun ls hl => ?_)
  refine W.widen (k := 6) (n := 12582) (Nat.le_of_ble_eq_true rfl) (Nat.le_of_ble_eq_true rfl) ?_
  refine kLoop (Q := fun i => ∀  (ls : Array Slot) (H : Heap) (locs : List Loc), va_P D kC (wM k0 k1 k2 k3 k4 k5 k6 cI 0 (nI 4) 0 ((fun t => if t < i then nI t else 0)) (fun _ => 0) (fun _ => 0) 0 (fun _ => 0) (fun _ => 0) (fun _ => 0)) H → va_D A (wM k0 k1 k2 k3 k4 k5 k6 cI 0 (nI 4) 0 ((fun t => if t < i then nI t else 0)) (fun _ => 0) (fun _ => 0) 0 (fun _ => 0) (fun _ => 0) (fun _ => 0)) → va_S A s.heap H locs → lv_has ls 2 [(0, .ref k0), (1, .int (nI i))] → W p l e rI1 s m [.ref k0].toArray below meth c H locs 6 12582 (MQ below (va_Qv (fun u => ∃ k1 k2 k3 k4 k5 k6, u = wM k0 k1 k2 k3 k4 k5 k6 cI 0 (nI 4) 0 (fun t => if t < 4 then nI t else 0) (fun _ => 0) (fun _ => 0) 0 (fun _ => 0) (fun _ => 0) (fun _ => 0)) (kB D (tI cI) A) A) [.ref k0].toArray s rI1.cells rI1.slots A) (F0 m 64 ls [])) (4) ?_ (0) (Nat.zero_le _)  ls _ _  hP hD hS (lv_sub hl [1, 0] rfl)
  intro i hi ih  ls H locs  hP hD hS hl
  refine lv_iload_n hx hb dX1_init_64 rfl (lv_at hl 1 rfl) ?_
  refine lv_iconst (v := nI 4) hx hb dX1_init_65 (by decide) ?_
  refine kIge (a := i) (b := 4) (by omega) (by omega) (tgt := 82) hx hb dX1_init_66 (by decide) (fun c1 => ?_) (fun c1 => ?_)
  · skip
    have hi2 : i = 4 := by omega
    subst hi2
    exact (kRetv hx hb hr hlocks dX1_init_82 (Nat.le_of_ble_eq_true rfl) (Nat.le_of_ble_eq_true rfl) hK hS hP hD ⟨k1, k2, k3, k4, k5, k6, rfl⟩)
  · skip
    refine lv_aload_n hx hb dX1_init_69 rfl (lv_at hl 0 rfl) ?_
    refine va_get (D := D) (ci := 1) (v := .ref k1) (C := RX1) (T := TX1) (N := 10) hx hb hts hin hown hK hP 0 rfl rfl 3 (by decide) (hts (.fieldLink RX1 13 "FrameRowModel" "owners" "[I") (by decide +kernel)) (fun _ h9 => h9) rfl dX1_init_70 ?_
    refine lv_iload_n hx hb dX1_init_73 rfl (lv_at hl 1 rfl) ?_
    refine lv_iload_n hx hb dX1_init_74 rfl (lv_at hl 1 rfl) ?_
    refine kSt hx hb hK hP hD hS 1 0 rfl rfl (j := i) (by omega) (by decide) dX1_init_75 (fun H locs hP hD hS => ?_)
    have hP : va_P D kC (wM k0 k1 k2 k3 k4 k5 k6 cI 0 (nI 4) 0 (upd ((fun t => if t < i then nI t else 0)) i (nI i)) (fun _ => 0) (fun _ => 0) 0 (fun _ => 0) (fun _ => 0) (fun _ => 0)) H := hP
    have hD : va_D A (wM k0 k1 k2 k3 k4 k5 k6 cI 0 (nI 4) 0 (upd ((fun t => if t < i then nI t else 0)) i (nI i)) (fun _ => 0) (fun _ => 0) 0 (fun _ => 0) (fun _ => 0) (fun _ => 0)) := hD
    rw [ow_put] at hP hD
    refine lv_iinc (v := nI (i + 1)) (lv' := [(1, .int (nI (i + 1))), (0, .ref k0)]) hx hb dX1_init_76 hl (k := 1) rfl (kInc1 _) (by decide) rfl (fun ls hl => ?_)
    refine lv_goto (tgt := 64) hx hb dX1_init_79 (by decide) ?_
    exact ih c1  ls _ _  hP hD hS (lv_sub (l' := [(0, .ref k0), (1, .int (nI (i + 1)))]) hl [1, 0] rfl)
