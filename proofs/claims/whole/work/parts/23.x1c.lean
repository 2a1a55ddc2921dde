section PUREO
theorem rp_same {f : Nat → Int32} {i : Nat} {v w : Int32} (h : ¬ f i = v) : upd (fun t => if 0 ≤ t ∧ t < i ∧ f t = v then w else f t) i (f i) = (fun t => if 0 ≤ t ∧ t < i + 1 ∧ f t = v then w else f t) := by
  rw [← rp_keep h]
  funext t
  by_cases e : t = i
  · subst e; rw [pk_us, if_neg (by omega)]
  · rw [pk_un e]
theorem rkz {f : Nat → Int32} {D : List Int32} : (fun t => if t < 0 then rk D (f t) else f t) = f := by funext t; rw [if_neg (by omega)]
theorem rkp {f : Nat → Int32} {D : List Int32} {i : Nat} {x : Int32} (h : rk D (f i) = x) : upd (fun t => if t < i then rk D (f t) else f t) i x = (fun t => if t < i + 1 then rk D (f t) else f t) := by
  funext t
  by_cases e : t = i
  · subst e; rw [pk_us, if_pos (by omega), h]
  · rw [pk_un e]
    by_cases h2 : t < i
    · rw [if_pos h2, if_pos (by omega)]
    · rw [if_neg h2, if_neg (by omega)]
theorem row_gl {ow sl gl : Nat → Int32} {F j : Nat} (h : j < 16) : gl j ∈ rowL ow sl gl F := List.mem_append_right _ (rw_mem.mpr ⟨j, h, rfl⟩)
theorem bl_mem {ow sl : Nat → Int32} {x : Int32} {k s : Nat} (hs : s < 8) (ho : ow k = x) : ∀ {F : Nat}, k < F → sl (8 * k + s) ∈ bl ow sl x F
  | 0, h => absurd h (Nat.not_lt_zero k)
  | F + 1, h => by
    show _ ∈ bl ow sl x F ++ _
    rcases Nat.lt_or_ge k F with h1 | h1
    · exact List.mem_append_left _ (bl_mem hs ho h1)
    · have e : k = F := by omega
      subst e
      rw [if_pos ho]
      exact List.mem_append_right _ (rw_mem.mpr ⟨s, hs, rfl⟩)
theorem ct_mem {ow sl : Nat → Int32} {F j : Nat} {v : Int32} (h : v ∈ bl ow sl (nI j) F) : ∀ {m : Nat}, j < m → v ∈ ct ow sl F m
  | 0, h1 => absurd h1 (Nat.not_lt_zero j)
  | m + 1, h1 => by
    show _ ∈ ct ow sl F m ++ bl ow sl (nI m) F
    rcases Nat.lt_or_ge j m with h2 | h2
    · exact List.mem_append_left _ (ct_mem h h2)
    · have e : j = m := by omega
      subst e
      exact List.mem_append_right _ h
theorem row_sl {ow sl gl : Nat → Int32} {F t : Nat} (hO : okO ow F) (h : t < 8 * F) : sl t ∈ rowL ow sl gl F := by
  obtain ⟨j, hj, e⟩ := hO (t / 8) (by omega)
  have h1 := bl_mem (sl := sl) (s := t % 8) (Nat.mod_lt _ (by decide)) e (F := F) (by omega)
  rw [show 8 * (t / 8) + t % 8 = t by omega] at h1
  exact List.mem_append_left _ (ct_mem h1 hj)
end PUREO
set_option maxHeartbeats 4000000 in
set_option maxRecDepth 100000 in
theorem pX1_holds (l : Launch) (D : va_G) (k0 k1 k2 k3 k4 k5 k6 : Nat) (cI : ClassId) (th : Int32) (F : Nat) (ca : Int32) (ow sl gl : Nat → Int32) (mn : Int32) (va ki ra : Nat → Int32) (hF : F ≤ 256) (x : Int32) : Mi l yX1_holds wsX1_holds r2 D (tI cI) [.ref k0, .int x] (wM k0 k1 k2 k3 k4 k5 k6 cI th (nI F) ca ow sl gl mn va ki ra) (fun r u => ∃ (mn' : Int32) (va' ki' ra' : Nat → Int32), (inR x 1000001 ∧ u = wM k0 k1 k2 k3 k4 k5 k6 cI (nI 0) (nI F) ca ow sl gl mn' va' ki' ra' ∧ r = nI (if x = 0 then 8 * F + 16 - (ps (rowL ow sl gl F)).length else (ps (rowL ow sl gl F)).count x)) ∨ (¬ inR x 1000001 ∧ u = wM k0 k1 k2 k3 k4 k5 k6 cI (nI 1) (nI F) ca ow sl gl mn' va' ki' ra')) := by
  refine Mi.of (cc := cX1_holds) (maxL := 4) (ty := .int) (by decide +kernel) rfl (Nat.le_of_ble_eq_true rfl) ?_
  rintro p e s m below meth c ls A ⟨hx, hb, hr, hml, hts, hown, hlocks, hnm, hP, hK, hD, hA, hS, hl⟩
  have hown : s.vm.findClass RX1 = some m.cls := hown
  have hl : lv_has ls 4 [(0, .ref k0), (1, .int x)] := hl
  have hin : ∀ w ∈ wsX10, w ∈ wsX1_holds := by decide +kernel
  have hP : va_P D kC (wM k0 k1 k2 k3 k4 k5 k6 cI th (nI F) ca ow sl gl mn va ki ra) s.heap := hP
  have hD : va_D A (wM k0 k1 k2 k3 k4 k5 k6 cI th (nI F) ca ow sl gl mn va ki ra) := hD
  refine lv_aload_n hx hb dX1_holds_0 rfl (lv_at hl 0 rfl) ?_
  refine lv_iload_n hx hb dX1_holds_1 rfl (lv_at hl 1 rfl) ?_
  refine cSi (wr := wM k0 k1 k2 k3 k4 k5 k6 cI th (nI F) ca ow sl gl mn va ki ra) (As := [.int x]) (rest := [.ref k0]) ⟨hx, hb, hml, hown, hts⟩ (pX1_isValue l D cI x) (va_cwS 1 hts gX1_holds_X1_isValue rfl rfl rfl (by decide +kernel) ⟨(Nat.le_of_ble_eq_true rfl), (Nat.le_of_ble_eq_true rfl)⟩) hK hP hD hS hA [] [0, 1, 2, 3, 4, 5, 6] rfl rfl (by decide) (by decide) (by decide) rfl hl.1 rfl (Nat.le_of_ble_eq_true rfl) dX1_holds_2 ⟨(Nat.le_of_ble_eq_true rfl), (Nat.le_of_ble_eq_true rfl)⟩ (fun r u H locs hw hP hD hS => ?_)
  obtain ⟨rfl, hw⟩ := hw
  have hP : va_P D kC (wM k0 k1 k2 k3 k4 k5 k6 cI th (nI F) ca ow sl gl mn va ki ra) H := hP
  have hD : va_D A (wM k0 k1 k2 k3 k4 k5 k6 cI th (nI F) ca ow sl gl mn va ki ra) := hD
  rcases hw with ⟨hx9, rfl⟩ | ⟨hx9, rfl⟩
  · skip
    refine lv_iconst (v := nI 1) hx hb dX1_holds_5 (by decide) ?_
    refine cVi (wr := []) (As := [.int (nI 1), .int (nI 1)]) (rest := []) ⟨hx, hb, hml, hown, hts⟩ (pX1_goes l D k0 k1 k2 k3 k4 k5 k6 cI th F ca ow sl gl mn va ki ra 1 1 (by decide) (by decide)) (cwV 2 hts gX1_holds_X1_goes rfl rfl rfl (by decide +kernel) ⟨(Nat.le_of_ble_eq_true rfl), (Nat.le_of_ble_eq_true rfl)⟩) hK hP hD hS hA [0, 1, 2, 3, 4, 5, 6] [] rfl rfl (by decide) (by decide) (by decide) 0 rfl rfl rfl hl.1 rfl (Nat.le_of_ble_eq_true rfl) dX1_holds_6 ⟨(Nat.le_of_ble_eq_true rfl), (Nat.le_of_ble_eq_true rfl)⟩ (fun r u H locs hw hP hD hS => ?_)
    obtain ⟨rfl, rfl⟩ := hw
    have hP : va_P D kC (wM k0 k1 k2 k3 k4 k5 k6 cI (nI 0) (nI F) ca ow sl gl mn va ki ra) H := hP
    have hD : va_D A (wM k0 k1 k2 k3 k4 k5 k6 cI (nI 0) (nI F) ca ow sl gl mn va ki ra) := hD
    refine kTop (v' := nI 1) rfl ?_
    refine kNe0 (a := 1) (by omega) (tgt := 14) hx hb dX1_holds_9 (by decide) (fun c8 => ?_) (fun c8 => ?_)
    · skip
      refine lv_aload_n hx hb dX1_holds_14 rfl (lv_at hl 0 rfl) ?_
      refine cVv (wr := []) (As := []) (rest := []) ⟨hx, hb, hml, hown, hts⟩ (pX1_gather l D k0 k1 k2 k3 k4 k5 k6 cI (nI 0) F ca ow sl gl mn va ki ra hF) (cwV 0 hts gX1_holds_X1_gather rfl rfl rfl (by decide +kernel) ⟨(Nat.le_of_ble_eq_true rfl), (Nat.le_of_ble_eq_true rfl)⟩) hK hP hD hS hA [0, 1, 2, 3, 4, 5, 6] [] rfl rfl (by decide) (by decide) (by decide) 0 rfl rfl rfl hl.1 rfl (Nat.le_of_ble_eq_true rfl) dX1_holds_15 ⟨(Nat.le_of_ble_eq_true rfl), (Nat.le_of_ble_eq_true rfl)⟩ (fun u H locs hw hP hD hS => ?_)
      obtain ⟨va, rfl, hva⟩ := hw
      have hP : va_P D kC (wM k0 k1 k2 k3 k4 k5 k6 cI (nI 0) (nI F) ca ow sl gl (nI (ps (rowL ow sl gl F)).length) va ki ra) H := hP
      have hD : va_D A (wM k0 k1 k2 k3 k4 k5 k6 cI (nI 0) (nI F) ca ow sl gl (nI (ps (rowL ow sl gl F)).length) va ki ra) := hD
      have hpl := ps_le (rowL ow sl gl F)
      have hrl := rowL_le ow sl gl F
      refine lv_iconst (v := nI 0) hx hb dX1_holds_18 (by decide) ?_
      refine lv_istore_n (lv' := [(2, .int (nI 0)), (0, .ref k0), (1, .int x)]) hx hb dX1_holds_19 rfl hl (by decide) rfl (fun ls hl => ?_)
      refine lv_iconst (v := nI 0) hx hb dX1_holds_20 (by decide) ?_
      refine lv_istore_n (lv' := [(3, .int (nI 0)), (2, .int (nI 0)), (0, .ref k0), (1, .int x)]) hx hb dX1_holds_21 rfl hl (by decide) rfl (fun ls hl => ?_)
      refine kLoop (Q := fun i => ∀  (ls : Array Slot) (H : Heap) (locs : List Loc), va_P D kC (wM k0 k1 k2 k3 k4 k5 k6 cI (nI 0) (nI F) ca ow sl gl (nI (ps (rowL ow sl gl F)).length) va ki ra) H → va_D A (wM k0 k1 k2 k3 k4 k5 k6 cI (nI 0) (nI F) ca ow sl gl (nI (ps (rowL ow sl gl F)).length) va ki ra) → va_S A s.heap H locs → lv_has ls 4 [(0, .ref k0), (1, .int x), (2, .int (nI ((rw_ va i).count x))), (3, .int (nI i))] → W p l e r2 s m [.ref k0, .int x].toArray below meth c H locs 0 0 (MQ below (va_Qi (fun r u => ∃ (mn' : Int32) (va' ki' ra' : Nat → Int32), (inR x 1000001 ∧ u = wM k0 k1 k2 k3 k4 k5 k6 cI (nI 0) (nI F) ca ow sl gl mn' va' ki' ra' ∧ r = nI (if x = 0 then 8 * F + 16 - (ps (rowL ow sl gl F)).length else (ps (rowL ow sl gl F)).count x)) ∨ (¬ inR x 1000001 ∧ u = wM k0 k1 k2 k3 k4 k5 k6 cI (nI 1) (nI F) ca ow sl gl mn' va' ki' ra')) (kB D (tI cI) A) A) [.ref k0, .int x].toArray s r2.cells r2.slots A) (F0 m 22 ls [])) ((ps (rowL ow sl gl F)).length) ?_ (0) (Nat.zero_le _)  ls _ _  hP hD hS (lv_sub hl [2, 3, 1, 0] rfl)
      intro i hi ih  ls H locs  hP hD hS hl
      have hc := rw_count_le va i x
      refine lv_iload_n hx hb dX1_holds_22 rfl (lv_at hl 3 rfl) ?_
      refine lv_aload_n hx hb dX1_holds_23 rfl (lv_at hl 0 rfl) ?_
      refine va_get (D := D) (ci := 1) (v := .int (nI ((ps (rowL ow sl gl F)).length))) (C := RX1) (T := TX1) (N := 10) hx hb hts hin hown hK hP 0 rfl rfl 6 (by decide) (hts (.fieldLink RX1 69 "FrameRowModel" "many" "I") (by decide +kernel)) (fun _ h9 => h9) rfl dX1_holds_24 ?_
      refine kIge (a := i) (b := (ps (rowL ow sl gl F)).length) (by omega) (by omega) (tgt := 54) hx hb dX1_holds_27 (by decide) (fun c1 => ?_) (fun c1 => ?_)
      · skip
        have hi2 : i = (ps (rowL ow sl gl F)).length := by omega
        refine lv_iload_n hx hb dX1_holds_54 rfl (lv_at hl 1 rfl) ?_
        refine lv_if_ne (tgt := 76) hx hb dX1_holds_55 (by decide) (fun c2 => ?_) (fun c2 => ?_)
        · skip
          refine lv_iload_n hx hb dX1_holds_76 rfl (lv_at hl 2 rfl) ?_
          exact (kReti hx hb hr hlocks dX1_holds_77 (Nat.le_of_ble_eq_true rfl) (Nat.le_of_ble_eq_true rfl) hK hS hP hD ⟨_, _, _, _, Or.inl ⟨hx9, rfl, by rw [if_neg c2, hi2, hva]⟩⟩)
        · skip
          refine lv_bipush (v := nI 8) hx hb dX1_holds_58 (by decide) ?_
          refine lv_aload_n hx hb dX1_holds_60 rfl (lv_at hl 0 rfl) ?_
          refine va_get (D := D) (ci := 1) (v := .int (nI F)) (C := RX1) (T := TX1) (N := 10) hx hb hts hin hown hK hP 0 rfl rfl 1 (by decide) (hts (.fieldLink RX1 7 "FrameRowModel" "frames" "I") (by decide +kernel)) (fun _ h9 => h9) rfl dX1_holds_61 ?_
          refine kMul hx hb dX1_holds_64 ?_
          refine lv_bipush (v := nI 16) hx hb dX1_holds_65 (by decide) ?_
          refine kAdd hx hb dX1_holds_67 ?_
          refine lv_aload_n hx hb dX1_holds_68 rfl (lv_at hl 0 rfl) ?_
          refine va_get (D := D) (ci := 1) (v := .int (nI ((ps (rowL ow sl gl F)).length))) (C := RX1) (T := TX1) (N := 10) hx hb hts hin hown hK hP 0 rfl rfl 6 (by decide) (hts (.fieldLink RX1 69 "FrameRowModel" "many" "I") (by decide +kernel)) (fun _ h9 => h9) rfl dX1_holds_69 ?_
          refine kSub (by omega) hx hb dX1_holds_72 ?_
          refine lv_goto (tgt := 77) hx hb dX1_holds_73 (by decide) ?_
          exact (kReti hx hb hr hlocks dX1_holds_77 (Nat.le_of_ble_eq_true rfl) (Nat.le_of_ble_eq_true rfl) hK hS hP hD ⟨_, _, _, _, Or.inl ⟨hx9, rfl, by rw [if_pos c2]⟩⟩)
      · skip
        refine lv_aload_n hx hb dX1_holds_30 rfl (lv_at hl 0 rfl) ?_
        refine va_get (D := D) (ci := 1) (v := .ref k4) (C := RX1) (T := TX1) (N := 10) hx hb hts hin hown hK hP 0 rfl rfl 7 (by decide) (hts (.fieldLink RX1 23 "FrameRowModel" "values" "[I") (by decide +kernel)) (fun _ h9 => h9) rfl dX1_holds_31 ?_
        refine lv_iload_n hx hb dX1_holds_34 rfl (lv_at hl 3 rfl) ?_
        refine kLd hx hb hK hP 4 0 rfl rfl (j := i) (by omega) (by decide) dX1_holds_35 ?_
        refine lv_iload_n hx hb dX1_holds_36 rfl (lv_at hl 1 rfl) ?_
        refine lv_icmp_ne (tgt := 46) hx hb dX1_holds_37 (by decide) (fun c2 => ?_) (fun c2 => ?_)
        · skip
          refine lv_iload_n hx hb dX1_holds_46 rfl (lv_at hl 2 rfl) ?_
          refine lv_istore_n (lv' := [(2, .int (nI ((rw_ va i).count x))), (0, .ref k0), (1, .int x), (3, .int (nI i))]) hx hb dX1_holds_47 rfl hl (by decide) rfl (fun ls hl => ?_)
          refine lv_iinc (v := nI (i + 1)) (lv' := [(3, .int (nI (i + 1))), (2, .int (nI ((rw_ va i).count x))), (0, .ref k0), (1, .int x)]) hx hb dX1_holds_48 hl (k := 3) rfl (kInc1 _) (by decide) rfl (fun ls hl => ?_)
          refine lv_goto (tgt := 22) hx hb dX1_holds_51 (by decide) ?_
          exact ih c1  ls _ _  hP hD hS (by have h := (lv_sub (l' := [(0, .ref k0), (1, .int x), (2, .int (nI ((rw_ va i).count x))), (3, .int (nI (i + 1)))]) hl [2, 3, 1, 0] rfl); rw [show (rw_ va (i + 1)).count x = (rw_ va i).count x by rw [cn_succ, if_neg c2]; rfl]; exact h)
        · skip
          refine lv_iload_n hx hb dX1_holds_40 rfl (lv_at hl 2 rfl) ?_
          refine lv_iconst (v := nI 1) hx hb dX1_holds_41 (by decide) ?_
          refine kAdd hx hb dX1_holds_42 ?_
          refine lv_goto (tgt := 47) hx hb dX1_holds_43 (by decide) ?_
          refine lv_istore_n (lv' := [(2, .int (nI (((rw_ va i).count x) + 1))), (0, .ref k0), (1, .int x), (3, .int (nI i))]) hx hb dX1_holds_47 rfl hl (by decide) rfl (fun ls hl => ?_)
          refine lv_iinc (v := nI (i + 1)) (lv' := [(3, .int (nI (i + 1))), (2, .int (nI (((rw_ va i).count x) + 1))), (0, .ref k0), (1, .int x)]) hx hb dX1_holds_48 hl (k := 3) rfl (kInc1 _) (by decide) rfl (fun ls hl => ?_)
          refine lv_goto (tgt := 22) hx hb dX1_holds_51 (by decide) ?_
          exact ih c1  ls _ _  hP hD hS (by have h := (lv_sub (l' := [(0, .ref k0), (1, .int x), (2, .int (nI (((rw_ va i).count x) + 1))), (3, .int (nI (i + 1)))]) hl [2, 3, 1, 0] rfl); rw [show (rw_ va (i + 1)).count x = (rw_ va i).count x + 1 by rw [cn_succ, if_pos c2]]; exact h)
    · skip
      exact absurd c8 (by decide)
  · skip
    refine lv_iconst (v := nI 1) hx hb dX1_holds_5 (by decide) ?_
    refine cVi (wr := []) (As := [.int (nI 0), .int (nI 1)]) (rest := []) ⟨hx, hb, hml, hown, hts⟩ (pX1_goes l D k0 k1 k2 k3 k4 k5 k6 cI th F ca ow sl gl mn va ki ra 0 1 (by decide) (by decide)) (cwV 2 hts gX1_holds_X1_goes rfl rfl rfl (by decide +kernel) ⟨(Nat.le_of_ble_eq_true rfl), (Nat.le_of_ble_eq_true rfl)⟩) hK hP hD hS hA [0, 1, 2, 3, 4, 5, 6] [] rfl rfl (by decide) (by decide) (by decide) 0 rfl rfl rfl hl.1 rfl (Nat.le_of_ble_eq_true rfl) dX1_holds_6 ⟨(Nat.le_of_ble_eq_true rfl), (Nat.le_of_ble_eq_true rfl)⟩ (fun r u H locs hw hP hD hS => ?_)
    obtain ⟨rfl, rfl⟩ := hw
    have hP : va_P D kC (wM k0 k1 k2 k3 k4 k5 k6 cI (nI 1) (nI F) ca ow sl gl mn va ki ra) H := hP
    have hD : va_D A (wM k0 k1 k2 k3 k4 k5 k6 cI (nI 1) (nI F) ca ow sl gl mn va ki ra) := hD
    refine kTop (v' := nI 0) rfl ?_
    refine kNe0 (a := 0) (by omega) (tgt := 14) hx hb dX1_holds_9 (by decide) (fun c8 => ?_) (fun c8 => ?_)
    · skip
      exact absurd c8 (by decide)
    · skip
      refine lv_iconst (v := nI 0) hx hb dX1_holds_12 (by decide) ?_
      exact (kReti hx hb hr hlocks dX1_holds_13 (Nat.le_of_ble_eq_true rfl) (Nat.le_of_ble_eq_true rfl) hK hS hP hD ⟨_, _, _, _, Or.inr ⟨hx9, rfl⟩⟩)

set_option maxHeartbeats 4000000 in
set_option maxRecDepth 100000 in
theorem pX1_root (l : Launch) (D : va_G) (k0 k1 k2 k3 k4 k5 k6 : Nat) (cI : ClassId) (th : Int32) (F : Nat) (ca : Int32) (ow sl gl : Nat → Int32) (mn : Int32) (va ki ra : Nat → Int32) (hF : F ≤ 256) (x : Int32) : Mi l yX1_root wsX1_root r2 D (tI cI) [.ref k0, .int x] (wM k0 k1 k2 k3 k4 k5 k6 cI th (nI F) ca ow sl gl mn va ki ra) (fun r u => ∃ (mn' : Int32) (va' ki' ra' : Nat → Int32), (¬ x < 0 ∧ u = wM k0 k1 k2 k3 k4 k5 k6 cI (nI 0) (nI F) ca ow sl gl mn' va' ki' ra' ∧ ∃ k9, k9 < 2147483648 ∧ x = nI k9 ∧ r = (ps (rowL ow sl gl F)).getD k9 0) ∨ (x < 0 ∧ u = wM k0 k1 k2 k3 k4 k5 k6 cI (nI 1) (nI F) ca ow sl gl mn' va' ki' ra')) := by
  refine Mi.of (cc := cX1_root) (maxL := 2) (ty := .int) (by decide +kernel) rfl (Nat.le_of_ble_eq_true rfl) ?_
  rintro p e s m below meth c ls A ⟨hx, hb, hr, hml, hts, hown, hlocks, hnm, hP, hK, hD, hA, hS, hl⟩
  have hown : s.vm.findClass RX1 = some m.cls := hown
  have hl : lv_has ls 2 [(0, .ref k0), (1, .int x)] := hl
  have hin : ∀ w ∈ wsX10, w ∈ wsX1_root := by decide +kernel
  have hP : va_P D kC (wM k0 k1 k2 k3 k4 k5 k6 cI th (nI F) ca ow sl gl mn va ki ra) s.heap := hP
  have hD : va_D A (wM k0 k1 k2 k3 k4 k5 k6 cI th (nI F) ca ow sl gl mn va ki ra) := hD
  refine lv_aload_n hx hb dX1_root_0 rfl (lv_at hl 0 rfl) ?_
  refine lv_iload_n hx hb dX1_root_1 rfl (lv_at hl 1 rfl) ?_
  refine lv_if_lt (tgt := 9) hx hb dX1_root_2 (by decide) (fun c0 => ?_) (fun c0 => ?_)
  · skip
    refine lv_iconst (v := nI 0) hx hb dX1_root_9 (by decide) ?_
    refine lv_iconst (v := nI 1) hx hb dX1_root_10 (by decide) ?_
    refine cVi (wr := []) (As := [.int (nI 0), .int (nI 1)]) (rest := []) ⟨hx, hb, hml, hown, hts⟩ (pX1_goes l D k0 k1 k2 k3 k4 k5 k6 cI th F ca ow sl gl mn va ki ra 0 1 (by decide) (by decide)) (cwV 2 hts gX1_root_X1_goes rfl rfl rfl (by decide +kernel) ⟨(Nat.le_of_ble_eq_true rfl), (Nat.le_of_ble_eq_true rfl)⟩) hK hP hD hS hA [0, 1, 2, 3, 4, 5, 6] [] rfl rfl (by decide) (by decide) (by decide) 0 rfl rfl rfl hl.1 rfl (Nat.le_of_ble_eq_true rfl) dX1_root_11 ⟨(Nat.le_of_ble_eq_true rfl), (Nat.le_of_ble_eq_true rfl)⟩ (fun r u H locs hw hP hD hS => ?_)
    obtain ⟨rfl, rfl⟩ := hw
    have hP : va_P D kC (wM k0 k1 k2 k3 k4 k5 k6 cI (nI 1) (nI F) ca ow sl gl mn va ki ra) H := hP
    have hD : va_D A (wM k0 k1 k2 k3 k4 k5 k6 cI (nI 1) (nI F) ca ow sl gl mn va ki ra) := hD
    refine kTop (v' := nI 0) rfl ?_
    refine kNe0 (a := 0) (by omega) (tgt := 19) hx hb dX1_root_14 (by decide) (fun c8 => ?_) (fun c8 => ?_)
    · skip
      exact absurd c8 (by decide)
    · skip
      refine lv_iconst (v := nI 0) hx hb dX1_root_17 (by decide) ?_
      exact (kReti hx hb hr hlocks dX1_root_18 (Nat.le_of_ble_eq_true rfl) (Nat.le_of_ble_eq_true rfl) hK hS hP hD ⟨_, _, _, _, Or.inr ⟨c0, rfl⟩⟩)
  · skip
    obtain ⟨k, hk, rfl⟩ := nI_of c0
    refine lv_iconst (v := nI 1) hx hb dX1_root_5 (by decide) ?_
    refine lv_goto (tgt := 10) hx hb dX1_root_6 (by decide) ?_
    refine lv_iconst (v := nI 1) hx hb dX1_root_10 (by decide) ?_
    refine cVi (wr := []) (As := [.int (nI 1), .int (nI 1)]) (rest := []) ⟨hx, hb, hml, hown, hts⟩ (pX1_goes l D k0 k1 k2 k3 k4 k5 k6 cI th F ca ow sl gl mn va ki ra 1 1 (by decide) (by decide)) (cwV 2 hts gX1_root_X1_goes rfl rfl rfl (by decide +kernel) ⟨(Nat.le_of_ble_eq_true rfl), (Nat.le_of_ble_eq_true rfl)⟩) hK hP hD hS hA [0, 1, 2, 3, 4, 5, 6] [] rfl rfl (by decide) (by decide) (by decide) 0 rfl rfl rfl hl.1 rfl (Nat.le_of_ble_eq_true rfl) dX1_root_11 ⟨(Nat.le_of_ble_eq_true rfl), (Nat.le_of_ble_eq_true rfl)⟩ (fun r u H locs hw hP hD hS => ?_)
    obtain ⟨rfl, rfl⟩ := hw
    have hP : va_P D kC (wM k0 k1 k2 k3 k4 k5 k6 cI (nI 0) (nI F) ca ow sl gl mn va ki ra) H := hP
    have hD : va_D A (wM k0 k1 k2 k3 k4 k5 k6 cI (nI 0) (nI F) ca ow sl gl mn va ki ra) := hD
    refine kTop (v' := nI 1) rfl ?_
    refine kNe0 (a := 1) (by omega) (tgt := 19) hx hb dX1_root_14 (by decide) (fun c8 => ?_) (fun c8 => ?_)
    · skip
      refine lv_aload_n hx hb dX1_root_19 rfl (lv_at hl 0 rfl) ?_
      refine cVv (wr := []) (As := []) (rest := []) ⟨hx, hb, hml, hown, hts⟩ (pX1_gather l D k0 k1 k2 k3 k4 k5 k6 cI (nI 0) F ca ow sl gl mn va ki ra hF) (cwV 0 hts gX1_root_X1_gather rfl rfl rfl (by decide +kernel) ⟨(Nat.le_of_ble_eq_true rfl), (Nat.le_of_ble_eq_true rfl)⟩) hK hP hD hS hA [0, 1, 2, 3, 4, 5, 6] [] rfl rfl (by decide) (by decide) (by decide) 0 rfl rfl rfl hl.1 rfl (Nat.le_of_ble_eq_true rfl) dX1_root_20 ⟨(Nat.le_of_ble_eq_true rfl), (Nat.le_of_ble_eq_true rfl)⟩ (fun u H locs hw hP hD hS => ?_)
      obtain ⟨va, rfl, hva⟩ := hw
      have hP : va_P D kC (wM k0 k1 k2 k3 k4 k5 k6 cI (nI 0) (nI F) ca ow sl gl (nI (ps (rowL ow sl gl F)).length) va ki ra) H := hP
      have hD : va_D A (wM k0 k1 k2 k3 k4 k5 k6 cI (nI 0) (nI F) ca ow sl gl (nI (ps (rowL ow sl gl F)).length) va ki ra) := hD
      have hpl := ps_le (rowL ow sl gl F)
      have hrl := rowL_le ow sl gl F
      refine lv_iload_n hx hb dX1_root_23 rfl (lv_at hl 1 rfl) ?_
      refine lv_aload_n hx hb dX1_root_24 rfl (lv_at hl 0 rfl) ?_
      refine va_get (D := D) (ci := 1) (v := .int (nI ((ps (rowL ow sl gl F)).length))) (C := RX1) (T := TX1) (N := 10) hx hb hts hin hown hK hP 0 rfl rfl 6 (by decide) (hts (.fieldLink RX1 69 "FrameRowModel" "many" "I") (by decide +kernel)) (fun _ h9 => h9) rfl dX1_root_25 ?_
      refine kIge (a := k) (b := (ps (rowL ow sl gl F)).length) (by omega) (by omega) (tgt := 40) hx hb dX1_root_28 (by decide) (fun c1 => ?_) (fun c1 => ?_)
      · skip
        refine lv_iconst (v := nI 0) hx hb dX1_root_40 (by decide) ?_
        exact (kReti hx hb hr hlocks dX1_root_41 (Nat.le_of_ble_eq_true rfl) (Nat.le_of_ble_eq_true rfl) hK hS hP hD ⟨_, _, _, _, Or.inl ⟨c0, rfl, k, hk, rfl, (getD_out c1).symm⟩⟩)
      · skip
        refine lv_aload_n hx hb dX1_root_31 rfl (lv_at hl 0 rfl) ?_
        refine va_get (D := D) (ci := 1) (v := .ref k4) (C := RX1) (T := TX1) (N := 10) hx hb hts hin hown hK hP 0 rfl rfl 7 (by decide) (hts (.fieldLink RX1 23 "FrameRowModel" "values" "[I") (by decide +kernel)) (fun _ h9 => h9) rfl dX1_root_32 ?_
        refine lv_iload_n hx hb dX1_root_35 rfl (lv_at hl 1 rfl) ?_
        refine kLd hx hb hK hP 4 0 rfl rfl (j := k) (by omega) (by decide) dX1_root_36 ?_
        refine lv_goto (tgt := 41) hx hb dX1_root_37 (by decide) ?_
        exact (kReti hx hb hr hlocks dX1_root_41 (Nat.le_of_ble_eq_true rfl) (Nat.le_of_ble_eq_true rfl) hK hS hP hD ⟨_, _, _, _, Or.inl ⟨c0, rfl, k, hk, rfl, by rw [← hva, List.getD_eq_getElem?_getD, rw_get c1]; rfl⟩⟩)
    · skip
      exact absurd c8 (by decide)

set_option maxHeartbeats 4000000 in
set_option maxRecDepth 100000 in
theorem pX1_turn (l : Launch) (D : va_G) (k0 k1 k2 k3 k4 k5 k6 : Nat) (cI : ClassId) (th : Int32) (F : Nat) (ca : Int32) (ow sl gl : Nat → Int32) (mn : Int32) (va ki ra : Nat → Int32) (hF : F ≤ 256) (x y : Int32) : Mi l yX1_turn wsX1_turn r2 D (tI cI) [.ref k0, .int x, .int y] (wM k0 k1 k2 k3 k4 k5 k6 cI th (nI F) ca ow sl gl mn va ki ra) (fun r u => ((0 < x ∧ inR x 1000001 ∧ inR y 1000001) ∧ u = wM k0 k1 k2 k3 k4 k5 k6 cI (nI 0) (nI F) ca ow ((fun t => if 0 ≤ t ∧ t < 8 * F ∧ sl t = x then y else sl t)) ((fun t => if 0 ≤ t ∧ t < 16 ∧ gl t = x then y else gl t)) mn va ki ra ∧ r = nI ((rw_ sl (8 * F)).count x + (rw_ gl 16).count x)) ∨ (¬ (0 < x ∧ inR x 1000001 ∧ inR y 1000001) ∧ u = wM k0 k1 k2 k3 k4 k5 k6 cI (nI 1) (nI F) ca ow sl gl mn va ki ra)) := by
  refine Mi.of (cc := cX1_turn) (maxL := 5) (ty := .int) (by decide +kernel) rfl (Nat.le_of_ble_eq_true rfl) ?_
  rintro p e s m below meth c ls A ⟨hx, hb, hr, hml, hts, hown, hlocks, hnm, hP, hK, hD, hA, hS, hl⟩
  have hown : s.vm.findClass RX1 = some m.cls := hown
  have hl : lv_has ls 5 [(0, .ref k0), (1, .int x), (2, .int y)] := hl
  have hin : ∀ w ∈ wsX10, w ∈ wsX1_turn := by decide +kernel
  have hP : va_P D kC (wM k0 k1 k2 k3 k4 k5 k6 cI th (nI F) ca ow sl gl mn va ki ra) s.heap := hP
  have hD : va_D A (wM k0 k1 k2 k3 k4 k5 k6 cI th (nI F) ca ow sl gl mn va ki ra) := hD
  refine lv_aload_n hx hb dX1_turn_0 rfl (lv_at hl 0 rfl) ?_
  refine lv_iload_n hx hb dX1_turn_1 rfl (lv_at hl 1 rfl) ?_
  refine lv_if_le (tgt := 23) hx hb dX1_turn_2 (by decide) (fun c0 => ?_) (fun c0 => ?_)
  · skip
    refine lv_iconst (v := nI 0) hx hb dX1_turn_23 (by decide) ?_
    refine lv_iconst (v := nI 1) hx hb dX1_turn_24 (by decide) ?_
    refine cVi (wr := []) (As := [.int (nI 0), .int (nI 1)]) (rest := []) ⟨hx, hb, hml, hown, hts⟩ (pX1_goes l D k0 k1 k2 k3 k4 k5 k6 cI th F ca ow sl gl mn va ki ra 0 1 (by decide) (by decide)) (cwV 2 hts gX1_turn_X1_goes rfl rfl rfl (by decide +kernel) ⟨(Nat.le_of_ble_eq_true rfl), (Nat.le_of_ble_eq_true rfl)⟩) hK hP hD hS hA [0, 1, 2, 3, 4, 5, 6] [] rfl rfl (by decide) (by decide) (by decide) 0 rfl rfl rfl hl.1 rfl (Nat.le_of_ble_eq_true rfl) dX1_turn_25 ⟨(Nat.le_of_ble_eq_true rfl), (Nat.le_of_ble_eq_true rfl)⟩ (fun r u H locs hw hP hD hS => ?_)
    obtain ⟨rfl, rfl⟩ := hw
    have hP : va_P D kC (wM k0 k1 k2 k3 k4 k5 k6 cI (nI 1) (nI F) ca ow sl gl mn va ki ra) H := hP
    have hD : va_D A (wM k0 k1 k2 k3 k4 k5 k6 cI (nI 1) (nI F) ca ow sl gl mn va ki ra) := hD
    refine kTop (v' := nI 0) rfl ?_
    refine kNe0 (a := 0) (by omega) (tgt := 33) hx hb dX1_turn_28 (by decide) (fun c8 => ?_) (fun c8 => ?_)
    · skip
      exact absurd c8 (by decide)
    · skip
      refine lv_iconst (v := nI 0) hx hb dX1_turn_31 (by decide) ?_
      exact (kReti hx hb hr hlocks dX1_turn_32 (Nat.le_of_ble_eq_true rfl) (Nat.le_of_ble_eq_true rfl) hK hS hP hD (Or.inr ⟨fun h => Int32.not_lt.mpr c0 h.1, rfl⟩))
  · skip
    have hx0 : 0 < x := Int32.not_le.mp c0
    refine lv_iload_n hx hb dX1_turn_5 rfl (lv_at hl 1 rfl) ?_
    refine cSi (wr := wM k0 k1 k2 k3 k4 k5 k6 cI th (nI F) ca ow sl gl mn va ki ra) (As := [.int x]) (rest := [.ref k0]) ⟨hx, hb, hml, hown, hts⟩ (pX1_isValue l D cI x) (va_cwS 1 hts gX1_turn_X1_isValue rfl rfl rfl (by decide +kernel) ⟨(Nat.le_of_ble_eq_true rfl), (Nat.le_of_ble_eq_true rfl)⟩) hK hP hD hS hA [] [0, 1, 2, 3, 4, 5, 6] rfl rfl (by decide) (by decide) (by decide) rfl hl.1 rfl (Nat.le_of_ble_eq_true rfl) dX1_turn_6 ⟨(Nat.le_of_ble_eq_true rfl), (Nat.le_of_ble_eq_true rfl)⟩ (fun r u H locs hw hP hD hS => ?_)
    obtain ⟨rfl, hw⟩ := hw
    have hP : va_P D kC (wM k0 k1 k2 k3 k4 k5 k6 cI th (nI F) ca ow sl gl mn va ki ra) H := hP
    have hD : va_D A (wM k0 k1 k2 k3 k4 k5 k6 cI th (nI F) ca ow sl gl mn va ki ra) := hD
    rcases hw with ⟨hx9, rfl⟩ | ⟨hx9, rfl⟩
    · skip
      refine kEq0 (a := 1) (by omega) (tgt := 23) hx hb dX1_turn_9 (by decide) (fun c1 => ?_) (fun c1 => ?_)
      · skip
        exact absurd c1 (by decide)
      · skip
        refine lv_iload_n hx hb dX1_turn_12 rfl (lv_at hl 2 rfl) ?_
        refine cSi (wr := wM k0 k1 k2 k3 k4 k5 k6 cI th (nI F) ca ow sl gl mn va ki ra) (As := [.int y]) (rest := [.ref k0]) ⟨hx, hb, hml, hown, hts⟩ (pX1_isValue l D cI y) (va_cwS 1 hts gX1_turn_X1_isValue rfl rfl rfl (by decide +kernel) ⟨(Nat.le_of_ble_eq_true rfl), (Nat.le_of_ble_eq_true rfl)⟩) hK hP hD hS hA [] [0, 1, 2, 3, 4, 5, 6] rfl rfl (by decide) (by decide) (by decide) rfl hl.1 rfl (Nat.le_of_ble_eq_true rfl) dX1_turn_13 ⟨(Nat.le_of_ble_eq_true rfl), (Nat.le_of_ble_eq_true rfl)⟩ (fun r u H locs hw hP hD hS => ?_)
        obtain ⟨rfl, hw⟩ := hw
        have hP : va_P D kC (wM k0 k1 k2 k3 k4 k5 k6 cI th (nI F) ca ow sl gl mn va ki ra) H := hP
        have hD : va_D A (wM k0 k1 k2 k3 k4 k5 k6 cI th (nI F) ca ow sl gl mn va ki ra) := hD
        rcases hw with ⟨hy9, rfl⟩ | ⟨hy9, rfl⟩
        · skip
          refine kEq0 (a := 1) (by omega) (tgt := 23) hx hb dX1_turn_16 (by decide) (fun c2 => ?_) (fun c2 => ?_)
          · skip
            exact absurd c2 (by decide)
          · skip
            refine lv_iconst (v := nI 1) hx hb dX1_turn_19 (by decide) ?_
            refine lv_goto (tgt := 24) hx hb dX1_turn_20 (by decide) ?_
            refine lv_iconst (v := nI 1) hx hb dX1_turn_24 (by decide) ?_
            refine cVi (wr := []) (As := [.int (nI 1), .int (nI 1)]) (rest := []) ⟨hx, hb, hml, hown, hts⟩ (pX1_goes l D k0 k1 k2 k3 k4 k5 k6 cI th F ca ow sl gl mn va ki ra 1 1 (by decide) (by decide)) (cwV 2 hts gX1_turn_X1_goes rfl rfl rfl (by decide +kernel) ⟨(Nat.le_of_ble_eq_true rfl), (Nat.le_of_ble_eq_true rfl)⟩) hK hP hD hS hA [0, 1, 2, 3, 4, 5, 6] [] rfl rfl (by decide) (by decide) (by decide) 0 rfl rfl rfl hl.1 rfl (Nat.le_of_ble_eq_true rfl) dX1_turn_25 ⟨(Nat.le_of_ble_eq_true rfl), (Nat.le_of_ble_eq_true rfl)⟩ (fun r u H locs hw hP hD hS => ?_)
            obtain ⟨rfl, rfl⟩ := hw
            have hP : va_P D kC (wM k0 k1 k2 k3 k4 k5 k6 cI (nI 0) (nI F) ca ow sl gl mn va ki ra) H := hP
            have hD : va_D A (wM k0 k1 k2 k3 k4 k5 k6 cI (nI 0) (nI F) ca ow sl gl mn va ki ra) := hD
            refine kTop (v' := nI 1) rfl ?_
            refine kNe0 (a := 1) (by omega) (tgt := 33) hx hb dX1_turn_28 (by decide) (fun c8 => ?_) (fun c8 => ?_)
            · skip
              refine lv_iconst (v := nI 0) hx hb dX1_turn_33 (by decide) ?_
              refine lv_istore_n (lv' := [(3, .int (nI 0)), (0, .ref k0), (1, .int x), (2, .int y)]) hx hb dX1_turn_34 rfl hl (by decide) rfl (fun ls hl => ?_)
              refine lv_iconst (v := nI 0) hx hb dX1_turn_35 (by decide) ?_
              refine lv_istore (lv' := [(4, .int (nI 0)), (3, .int (nI 0)), (0, .ref k0), (1, .int x), (2, .int y)]) hx hb dX1_turn_36 hl (by decide) rfl (fun ls hl => ?_)
              have hP : va_P D kC (wM k0 k1 k2 k3 k4 k5 k6 cI (nI 0) (nI F) ca ow ((fun t => if 0 ≤ t ∧ t < 0 ∧ sl t = x then y else sl t)) gl mn va ki ra) H := by rw [rp_start]; exact hP
              have hD : va_D A (wM k0 k1 k2 k3 k4 k5 k6 cI (nI 0) (nI F) ca ow ((fun t => if 0 ≤ t ∧ t < 0 ∧ sl t = x then y else sl t)) gl mn va ki ra) := by rw [rp_start]; exact hD
              refine kLoop (Q := fun i => ∀  (ls : Array Slot) (H : Heap) (locs : List Loc), va_P D kC (wM k0 k1 k2 k3 k4 k5 k6 cI (nI 0) (nI F) ca ow ((fun t => if 0 ≤ t ∧ t < i ∧ sl t = x then y else sl t)) gl mn va ki ra) H → va_D A (wM k0 k1 k2 k3 k4 k5 k6 cI (nI 0) (nI F) ca ow ((fun t => if 0 ≤ t ∧ t < i ∧ sl t = x then y else sl t)) gl mn va ki ra) → va_S A s.heap H locs → lv_has ls 5 [(0, .ref k0), (1, .int x), (2, .int y), (3, .int (nI ((rw_ sl i).count x))), (4, .int (nI i))] → W p l e r2 s m [.ref k0, .int x, .int y].toArray below meth c H locs 0 0 (MQ below (va_Qi (fun r u => ((0 < x ∧ inR x 1000001 ∧ inR y 1000001) ∧ u = wM k0 k1 k2 k3 k4 k5 k6 cI (nI 0) (nI F) ca ow ((fun t => if 0 ≤ t ∧ t < 8 * F ∧ sl t = x then y else sl t)) ((fun t => if 0 ≤ t ∧ t < 16 ∧ gl t = x then y else gl t)) mn va ki ra ∧ r = nI ((rw_ sl (8 * F)).count x + (rw_ gl 16).count x)) ∨ (¬ (0 < x ∧ inR x 1000001 ∧ inR y 1000001) ∧ u = wM k0 k1 k2 k3 k4 k5 k6 cI (nI 1) (nI F) ca ow sl gl mn va ki ra)) (kB D (tI cI) A) A) [.ref k0, .int x, .int y].toArray s r2.cells r2.slots A) (F0 m 38 ls [])) (8 * F) ?_ (0) (Nat.zero_le _)  ls _ _  hP hD hS (lv_sub hl [2, 3, 4, 1, 0] rfl)
              intro i hi ih  ls H locs  hP hD hS hl
              have hc := rw_count_le sl i x
              refine lv_iload hx hb dX1_turn_38 (lv_at hl 4 rfl) ?_
              refine lv_bipush (v := nI 8) hx hb dX1_turn_40 (by decide) ?_
              refine lv_aload_n hx hb dX1_turn_42 rfl (lv_at hl 0 rfl) ?_
              refine va_get (D := D) (ci := 1) (v := .int (nI F)) (C := RX1) (T := TX1) (N := 10) hx hb hts hin hown hK hP 0 rfl rfl 1 (by decide) (hts (.fieldLink RX1 7 "FrameRowModel" "frames" "I") (by decide +kernel)) (fun _ h9 => h9) rfl dX1_turn_43 ?_
              refine kMul hx hb dX1_turn_46 ?_
              refine kIge (a := i) (b := 8 * F) (by omega) (by omega) (tgt := 104) hx hb dX1_turn_47 (by decide) (fun c3 => ?_) (fun c3 => ?_)
              · skip
                have hi2 : i = 8 * F := by omega
                subst hi2
                refine lv_iconst (v := nI 0) hx hb dX1_turn_104 (by decide) ?_
                refine lv_istore (lv' := [(4, .int (nI 0)), (0, .ref k0), (1, .int x), (2, .int y), (3, .int (nI ((rw_ sl (8 * F)).count x)))]) hx hb dX1_turn_105 hl (by decide) rfl (fun ls hl => ?_)
                have hP : va_P D kC (wM k0 k1 k2 k3 k4 k5 k6 cI (nI 0) (nI F) ca ow ((fun t => if 0 ≤ t ∧ t < 8 * F ∧ sl t = x then y else sl t)) ((fun t => if 0 ≤ t ∧ t < 0 ∧ gl t = x then y else gl t)) mn va ki ra) H := by rw [rp_start (f := gl)]; exact hP
                have hD : va_D A (wM k0 k1 k2 k3 k4 k5 k6 cI (nI 0) (nI F) ca ow ((fun t => if 0 ≤ t ∧ t < 8 * F ∧ sl t = x then y else sl t)) ((fun t => if 0 ≤ t ∧ t < 0 ∧ gl t = x then y else gl t)) mn va ki ra) := by rw [rp_start (f := gl)]; exact hD
                refine kLoop (Q := fun j => ∀  (ls : Array Slot) (H : Heap) (locs : List Loc), va_P D kC (wM k0 k1 k2 k3 k4 k5 k6 cI (nI 0) (nI F) ca ow ((fun t => if 0 ≤ t ∧ t < 8 * F ∧ sl t = x then y else sl t)) ((fun t => if 0 ≤ t ∧ t < j ∧ gl t = x then y else gl t)) mn va ki ra) H → va_D A (wM k0 k1 k2 k3 k4 k5 k6 cI (nI 0) (nI F) ca ow ((fun t => if 0 ≤ t ∧ t < 8 * F ∧ sl t = x then y else sl t)) ((fun t => if 0 ≤ t ∧ t < j ∧ gl t = x then y else gl t)) mn va ki ra) → va_S A s.heap H locs → lv_has ls 5 [(0, .ref k0), (1, .int x), (2, .int y), (3, .int (nI ((rw_ sl (8 * F)).count x + (rw_ gl j).count x))), (4, .int (nI j))] → W p l e r2 s m [.ref k0, .int x, .int y].toArray below meth c H locs 0 0 (MQ below (va_Qi (fun r u => ((0 < x ∧ inR x 1000001 ∧ inR y 1000001) ∧ u = wM k0 k1 k2 k3 k4 k5 k6 cI (nI 0) (nI F) ca ow ((fun t => if 0 ≤ t ∧ t < 8 * F ∧ sl t = x then y else sl t)) ((fun t => if 0 ≤ t ∧ t < 16 ∧ gl t = x then y else gl t)) mn va ki ra ∧ r = nI ((rw_ sl (8 * F)).count x + (rw_ gl 16).count x)) ∨ (¬ (0 < x ∧ inR x 1000001 ∧ inR y 1000001) ∧ u = wM k0 k1 k2 k3 k4 k5 k6 cI (nI 1) (nI F) ca ow sl gl mn va ki ra)) (kB D (tI cI) A) A) [.ref k0, .int x, .int y].toArray s r2.cells r2.slots A) (F0 m 107 ls [])) (16) ?_ (0) (Nat.zero_le _)  ls _ _  hP hD hS (lv_sub hl [1, 2, 3, 4, 0] rfl)
                intro j hj ihj  ls H locs  hP hD hS hl
                have hcj := rw_count_le gl j x
                refine lv_iload hx hb dX1_turn_107 (lv_at hl 4 rfl) ?_
                refine lv_bipush (v := nI 16) hx hb dX1_turn_109 (by decide) ?_
                refine kIge (a := j) (b := 16) (by omega) (by omega) (tgt := 168) hx hb dX1_turn_111 (by decide) (fun c4 => ?_) (fun c4 => ?_)
                · skip
                  have hj2 : j = 16 := by omega
                  subst hj2
                  refine lv_iload_n hx hb dX1_turn_168 rfl (lv_at hl 3 rfl) ?_
                  exact (kReti hx hb hr hlocks dX1_turn_169 (Nat.le_of_ble_eq_true rfl) (Nat.le_of_ble_eq_true rfl) hK hS hP hD (Or.inl ⟨⟨hx0, hx9, hy9⟩, rfl, rfl⟩))
                · skip
                  refine lv_aload_n hx hb dX1_turn_114 rfl (lv_at hl 0 rfl) ?_
                  refine va_get (D := D) (ci := 1) (v := .ref k3) (C := RX1) (T := TX1) (N := 10) hx hb hts hin hown hK hP 0 rfl rfl 5 (by decide) (hts (.fieldLink RX1 20 "FrameRowModel" "globals" "[I") (by decide +kernel)) (fun _ h9 => h9) rfl dX1_turn_115 ?_
                  refine lv_iload hx hb dX1_turn_118 (lv_at hl 4 rfl) ?_
                  refine kLd hx hb hK hP 3 0 rfl rfl (j := j) (by omega) (by decide) dX1_turn_120 ?_
                  refine kTop (v' := gl j) (if_neg (by omega)) ?_
                  refine lv_iload_n hx hb dX1_turn_121 rfl (lv_at hl 1 rfl) ?_
                  refine lv_icmp_ne (tgt := 131) hx hb dX1_turn_122 (by decide) (fun c5 => ?_) (fun c5 => ?_)
                  · skip
                    refine lv_iload_n hx hb dX1_turn_131 rfl (lv_at hl 3 rfl) ?_
                    refine lv_istore_n (lv' := [(3, .int (nI ((rw_ sl (8 * F)).count x + (rw_ gl j).count x))), (0, .ref k0), (1, .int x), (2, .int y), (4, .int (nI j))]) hx hb dX1_turn_132 rfl hl (by decide) rfl (fun ls hl => ?_)
                    refine lv_aload_n hx hb dX1_turn_133 rfl (lv_at hl 1 rfl) ?_
                    refine va_get (D := D) (ci := 1) (v := .ref k3) (C := RX1) (T := TX1) (N := 10) hx hb hts hin hown hK hP 0 rfl rfl 5 (by decide) (hts (.fieldLink RX1 20 "FrameRowModel" "globals" "[I") (by decide +kernel)) (fun _ h9 => h9) rfl dX1_turn_134 ?_
                    refine lv_iload hx hb dX1_turn_137 (lv_at hl 4 rfl) ?_
                    refine lv_aload_n hx hb dX1_turn_139 rfl (lv_at hl 1 rfl) ?_
                    refine va_get (D := D) (ci := 1) (v := .ref k3) (C := RX1) (T := TX1) (N := 10) hx hb hts hin hown hK hP 0 rfl rfl 5 (by decide) (hts (.fieldLink RX1 20 "FrameRowModel" "globals" "[I") (by decide +kernel)) (fun _ h9 => h9) rfl dX1_turn_140 ?_
                    refine lv_iload hx hb dX1_turn_143 (lv_at hl 4 rfl) ?_
                    refine kLd hx hb hK hP 3 0 rfl rfl (j := j) (by omega) (by decide) dX1_turn_145 ?_
                    refine kTop (v' := gl j) (if_neg (by omega)) ?_
                    refine lv_iload_n hx hb dX1_turn_146 rfl (lv_at hl 2 rfl) ?_
                    refine lv_icmp_ne (tgt := 154) hx hb dX1_turn_147 (by decide) (fun c6 => ?_) (fun c6 => ?_)
                    · skip
                      refine lv_aload_n hx hb dX1_turn_154 rfl (lv_at hl 1 rfl) ?_
                      refine va_get (D := D) (ci := 1) (v := .ref k3) (C := RX1) (T := TX1) (N := 10) hx hb hts hin hown hK hP 0 rfl rfl 5 (by decide) (hts (.fieldLink RX1 20 "FrameRowModel" "globals" "[I") (by decide +kernel)) (fun _ h9 => h9) rfl dX1_turn_155 ?_
                      refine lv_iload hx hb dX1_turn_158 (lv_at hl 4 rfl) ?_
                      refine kLd hx hb hK hP 3 0 rfl rfl (j := j) (by omega) (by decide) dX1_turn_160 ?_
                      refine kTop (v' := gl j) (if_neg (by omega)) ?_
                      refine kSt hx hb hK hP hD hS 3 0 rfl rfl (j := j) (by omega) (by decide) dX1_turn_161 (fun H locs hP hD hS => ?_)
                      have hP : va_P D kC (wM k0 k1 k2 k3 k4 k5 k6 cI (nI 0) (nI F) ca ow ((fun t => if 0 ≤ t ∧ t < 8 * F ∧ sl t = x then y else sl t)) (upd ((fun t => if 0 ≤ t ∧ t < j ∧ gl t = x then y else gl t)) j (gl j)) mn va ki ra) H := hP
                      have hD : va_D A (wM k0 k1 k2 k3 k4 k5 k6 cI (nI 0) (nI F) ca ow ((fun t => if 0 ≤ t ∧ t < 8 * F ∧ sl t = x then y else sl t)) (upd ((fun t => if 0 ≤ t ∧ t < j ∧ gl t = x then y else gl t)) j (gl j)) mn va ki ra) := hD
                      rw [show upd (fun t => if 0 ≤ t ∧ t < j ∧ gl t = x then y else gl t) j (gl j) = (fun t => if 0 ≤ t ∧ t < j + 1 ∧ gl t = x then y else gl t) from rp_same c5] at hP hD
                      refine lv_iinc (v := nI (j + 1)) (lv' := [(4, .int (nI (j + 1))), (3, .int (nI ((rw_ sl (8 * F)).count x + (rw_ gl j).count x))), (0, .ref k0), (1, .int x), (2, .int y)]) hx hb dX1_turn_162 hl (k := 4) rfl (kInc1 _) (by decide) rfl (fun ls hl => ?_)
                      refine lv_goto (tgt := 107) hx hb dX1_turn_165 (by decide) ?_
                      exact ihj c4  ls _ _  hP hD hS (by have h := (lv_sub (l' := [(0, .ref k0), (1, .int x), (2, .int y), (3, .int (nI ((rw_ sl (8 * F)).count x + (rw_ gl j).count x))), (4, .int (nI (j + 1)))]) hl [2, 3, 4, 1, 0] rfl); rw [show (rw_ gl (j + 1)).count x = (rw_ gl j).count x by rw [cn_succ, if_neg c5]; rfl]; exact h)
                    · skip
                      exact absurd c6 c5
                  · skip
                    refine lv_iload_n hx hb dX1_turn_125 rfl (lv_at hl 3 rfl) ?_
                    refine lv_iconst (v := nI 1) hx hb dX1_turn_126 (by decide) ?_
                    refine kAdd hx hb dX1_turn_127 ?_
                    refine lv_goto (tgt := 132) hx hb dX1_turn_128 (by decide) ?_
                    refine lv_istore_n (lv' := [(3, .int (nI (((rw_ sl (8 * F)).count x + (rw_ gl j).count x) + 1))), (0, .ref k0), (1, .int x), (2, .int y), (4, .int (nI j))]) hx hb dX1_turn_132 rfl hl (by decide) rfl (fun ls hl => ?_)
                    refine lv_aload_n hx hb dX1_turn_133 rfl (lv_at hl 1 rfl) ?_
                    refine va_get (D := D) (ci := 1) (v := .ref k3) (C := RX1) (T := TX1) (N := 10) hx hb hts hin hown hK hP 0 rfl rfl 5 (by decide) (hts (.fieldLink RX1 20 "FrameRowModel" "globals" "[I") (by decide +kernel)) (fun _ h9 => h9) rfl dX1_turn_134 ?_
                    refine lv_iload hx hb dX1_turn_137 (lv_at hl 4 rfl) ?_
                    refine lv_aload_n hx hb dX1_turn_139 rfl (lv_at hl 1 rfl) ?_
                    refine va_get (D := D) (ci := 1) (v := .ref k3) (C := RX1) (T := TX1) (N := 10) hx hb hts hin hown hK hP 0 rfl rfl 5 (by decide) (hts (.fieldLink RX1 20 "FrameRowModel" "globals" "[I") (by decide +kernel)) (fun _ h9 => h9) rfl dX1_turn_140 ?_
                    refine lv_iload hx hb dX1_turn_143 (lv_at hl 4 rfl) ?_
                    refine kLd hx hb hK hP 3 0 rfl rfl (j := j) (by omega) (by decide) dX1_turn_145 ?_
                    refine kTop (v' := gl j) (if_neg (by omega)) ?_
                    refine lv_iload_n hx hb dX1_turn_146 rfl (lv_at hl 2 rfl) ?_
                    refine lv_icmp_ne (tgt := 154) hx hb dX1_turn_147 (by decide) (fun c6 => ?_) (fun c6 => ?_)
                    · skip
                      exact absurd c5 c6
                    · skip
                      refine lv_iload_n hx hb dX1_turn_150 rfl (lv_at hl 3 rfl) ?_
                      refine lv_goto (tgt := 161) hx hb dX1_turn_151 (by decide) ?_
                      refine kSt hx hb hK hP hD hS 3 0 rfl rfl (j := j) (by omega) (by decide) dX1_turn_161 (fun H locs hP hD hS => ?_)
                      have hP : va_P D kC (wM k0 k1 k2 k3 k4 k5 k6 cI (nI 0) (nI F) ca ow ((fun t => if 0 ≤ t ∧ t < 8 * F ∧ sl t = x then y else sl t)) (upd ((fun t => if 0 ≤ t ∧ t < j ∧ gl t = x then y else gl t)) j y) mn va ki ra) H := hP
                      have hD : va_D A (wM k0 k1 k2 k3 k4 k5 k6 cI (nI 0) (nI F) ca ow ((fun t => if 0 ≤ t ∧ t < 8 * F ∧ sl t = x then y else sl t)) (upd ((fun t => if 0 ≤ t ∧ t < j ∧ gl t = x then y else gl t)) j y) mn va ki ra) := hD
                      rw [rp_put (Nat.zero_le _) c5] at hP hD
                      refine lv_iinc (v := nI (j + 1)) (lv' := [(4, .int (nI (j + 1))), (3, .int (nI (((rw_ sl (8 * F)).count x + (rw_ gl j).count x) + 1))), (0, .ref k0), (1, .int x), (2, .int y)]) hx hb dX1_turn_162 hl (k := 4) rfl (kInc1 _) (by decide) rfl (fun ls hl => ?_)
                      refine lv_goto (tgt := 107) hx hb dX1_turn_165 (by decide) ?_
                      exact ihj c4  ls _ _  hP hD hS (by have h := (lv_sub (l' := [(0, .ref k0), (1, .int x), (2, .int y), (3, .int (nI (((rw_ sl (8 * F)).count x + (rw_ gl j).count x) + 1))), (4, .int (nI (j + 1)))]) hl [2, 3, 4, 1, 0] rfl); rw [show (rw_ sl (8 * F)).count x + (rw_ gl (j + 1)).count x = (rw_ sl (8 * F)).count x + (rw_ gl j).count x + 1 by rw [cn_succ, if_pos c5]; rfl]; exact h)
              · skip
                refine lv_aload_n hx hb dX1_turn_50 rfl (lv_at hl 0 rfl) ?_
                refine va_get (D := D) (ci := 1) (v := .ref k2) (C := RX1) (T := TX1) (N := 10) hx hb hts hin hown hK hP 0 rfl rfl 4 (by decide) (hts (.fieldLink RX1 17 "FrameRowModel" "slots" "[I") (by decide +kernel)) (fun _ h9 => h9) rfl dX1_turn_51 ?_
                refine lv_iload hx hb dX1_turn_54 (lv_at hl 4 rfl) ?_
                refine kLd hx hb hK hP 2 0 rfl rfl (j := i) (by omega) (by decide) dX1_turn_56 ?_
                refine kTop (v' := sl i) (if_neg (by omega)) ?_
                refine lv_iload_n hx hb dX1_turn_57 rfl (lv_at hl 1 rfl) ?_
                refine lv_icmp_ne (tgt := 67) hx hb dX1_turn_58 (by decide) (fun c5 => ?_) (fun c5 => ?_)
                · skip
                  refine lv_iload_n hx hb dX1_turn_67 rfl (lv_at hl 3 rfl) ?_
                  refine lv_istore_n (lv' := [(3, .int (nI ((rw_ sl i).count x))), (0, .ref k0), (1, .int x), (2, .int y), (4, .int (nI i))]) hx hb dX1_turn_68 rfl hl (by decide) rfl (fun ls hl => ?_)
                  refine lv_aload_n hx hb dX1_turn_69 rfl (lv_at hl 1 rfl) ?_
                  refine va_get (D := D) (ci := 1) (v := .ref k2) (C := RX1) (T := TX1) (N := 10) hx hb hts hin hown hK hP 0 rfl rfl 4 (by decide) (hts (.fieldLink RX1 17 "FrameRowModel" "slots" "[I") (by decide +kernel)) (fun _ h9 => h9) rfl dX1_turn_70 ?_
                  refine lv_iload hx hb dX1_turn_73 (lv_at hl 4 rfl) ?_
                  refine lv_aload_n hx hb dX1_turn_75 rfl (lv_at hl 1 rfl) ?_
                  refine va_get (D := D) (ci := 1) (v := .ref k2) (C := RX1) (T := TX1) (N := 10) hx hb hts hin hown hK hP 0 rfl rfl 4 (by decide) (hts (.fieldLink RX1 17 "FrameRowModel" "slots" "[I") (by decide +kernel)) (fun _ h9 => h9) rfl dX1_turn_76 ?_
                  refine lv_iload hx hb dX1_turn_79 (lv_at hl 4 rfl) ?_
                  refine kLd hx hb hK hP 2 0 rfl rfl (j := i) (by omega) (by decide) dX1_turn_81 ?_
                  refine kTop (v' := sl i) (if_neg (by omega)) ?_
                  refine lv_iload_n hx hb dX1_turn_82 rfl (lv_at hl 2 rfl) ?_
                  refine lv_icmp_ne (tgt := 90) hx hb dX1_turn_83 (by decide) (fun c6 => ?_) (fun c6 => ?_)
                  · skip
                    refine lv_aload_n hx hb dX1_turn_90 rfl (lv_at hl 1 rfl) ?_
                    refine va_get (D := D) (ci := 1) (v := .ref k2) (C := RX1) (T := TX1) (N := 10) hx hb hts hin hown hK hP 0 rfl rfl 4 (by decide) (hts (.fieldLink RX1 17 "FrameRowModel" "slots" "[I") (by decide +kernel)) (fun _ h9 => h9) rfl dX1_turn_91 ?_
                    refine lv_iload hx hb dX1_turn_94 (lv_at hl 4 rfl) ?_
                    refine kLd hx hb hK hP 2 0 rfl rfl (j := i) (by omega) (by decide) dX1_turn_96 ?_
                    refine kTop (v' := sl i) (if_neg (by omega)) ?_
                    refine kSt hx hb hK hP hD hS 2 0 rfl rfl (j := i) (by omega) (by decide) dX1_turn_97 (fun H locs hP hD hS => ?_)
                    have hP : va_P D kC (wM k0 k1 k2 k3 k4 k5 k6 cI (nI 0) (nI F) ca ow (upd ((fun t => if 0 ≤ t ∧ t < i ∧ sl t = x then y else sl t)) i (sl i)) gl mn va ki ra) H := hP
                    have hD : va_D A (wM k0 k1 k2 k3 k4 k5 k6 cI (nI 0) (nI F) ca ow (upd ((fun t => if 0 ≤ t ∧ t < i ∧ sl t = x then y else sl t)) i (sl i)) gl mn va ki ra) := hD
                    rw [show upd (fun t => if 0 ≤ t ∧ t < i ∧ sl t = x then y else sl t) i (sl i) = (fun t => if 0 ≤ t ∧ t < i + 1 ∧ sl t = x then y else sl t) from rp_same c5] at hP hD
                    refine lv_iinc (v := nI (i + 1)) (lv' := [(4, .int (nI (i + 1))), (3, .int (nI ((rw_ sl i).count x))), (0, .ref k0), (1, .int x), (2, .int y)]) hx hb dX1_turn_98 hl (k := 4) rfl (kInc1 _) (by decide) rfl (fun ls hl => ?_)
                    refine lv_goto (tgt := 38) hx hb dX1_turn_101 (by decide) ?_
                    exact ih c3  ls _ _  hP hD hS (by have h := (lv_sub (l' := [(0, .ref k0), (1, .int x), (2, .int y), (3, .int (nI ((rw_ sl i).count x))), (4, .int (nI (i + 1)))]) hl [2, 3, 4, 1, 0] rfl); rw [show (rw_ sl (i + 1)).count x = (rw_ sl i).count x by rw [cn_succ, if_neg c5]; rfl]; exact h)
                  · skip
                    exact absurd c6 c5
                · skip
                  refine lv_iload_n hx hb dX1_turn_61 rfl (lv_at hl 3 rfl) ?_
                  refine lv_iconst (v := nI 1) hx hb dX1_turn_62 (by decide) ?_
                  refine kAdd hx hb dX1_turn_63 ?_
                  refine lv_goto (tgt := 68) hx hb dX1_turn_64 (by decide) ?_
                  refine lv_istore_n (lv' := [(3, .int (nI (((rw_ sl i).count x) + 1))), (0, .ref k0), (1, .int x), (2, .int y), (4, .int (nI i))]) hx hb dX1_turn_68 rfl hl (by decide) rfl (fun ls hl => ?_)
                  refine lv_aload_n hx hb dX1_turn_69 rfl (lv_at hl 1 rfl) ?_
                  refine va_get (D := D) (ci := 1) (v := .ref k2) (C := RX1) (T := TX1) (N := 10) hx hb hts hin hown hK hP 0 rfl rfl 4 (by decide) (hts (.fieldLink RX1 17 "FrameRowModel" "slots" "[I") (by decide +kernel)) (fun _ h9 => h9) rfl dX1_turn_70 ?_
                  refine lv_iload hx hb dX1_turn_73 (lv_at hl 4 rfl) ?_
                  refine lv_aload_n hx hb dX1_turn_75 rfl (lv_at hl 1 rfl) ?_
                  refine va_get (D := D) (ci := 1) (v := .ref k2) (C := RX1) (T := TX1) (N := 10) hx hb hts hin hown hK hP 0 rfl rfl 4 (by decide) (hts (.fieldLink RX1 17 "FrameRowModel" "slots" "[I") (by decide +kernel)) (fun _ h9 => h9) rfl dX1_turn_76 ?_
                  refine lv_iload hx hb dX1_turn_79 (lv_at hl 4 rfl) ?_
                  refine kLd hx hb hK hP 2 0 rfl rfl (j := i) (by omega) (by decide) dX1_turn_81 ?_
                  refine kTop (v' := sl i) (if_neg (by omega)) ?_
                  refine lv_iload_n hx hb dX1_turn_82 rfl (lv_at hl 2 rfl) ?_
                  refine lv_icmp_ne (tgt := 90) hx hb dX1_turn_83 (by decide) (fun c6 => ?_) (fun c6 => ?_)
                  · skip
                    exact absurd c5 c6
                  · skip
                    refine lv_iload_n hx hb dX1_turn_86 rfl (lv_at hl 3 rfl) ?_
                    refine lv_goto (tgt := 97) hx hb dX1_turn_87 (by decide) ?_
                    refine kSt hx hb hK hP hD hS 2 0 rfl rfl (j := i) (by omega) (by decide) dX1_turn_97 (fun H locs hP hD hS => ?_)
                    have hP : va_P D kC (wM k0 k1 k2 k3 k4 k5 k6 cI (nI 0) (nI F) ca ow (upd ((fun t => if 0 ≤ t ∧ t < i ∧ sl t = x then y else sl t)) i y) gl mn va ki ra) H := hP
                    have hD : va_D A (wM k0 k1 k2 k3 k4 k5 k6 cI (nI 0) (nI F) ca ow (upd ((fun t => if 0 ≤ t ∧ t < i ∧ sl t = x then y else sl t)) i y) gl mn va ki ra) := hD
                    rw [rp_put (Nat.zero_le _) c5] at hP hD
                    refine lv_iinc (v := nI (i + 1)) (lv' := [(4, .int (nI (i + 1))), (3, .int (nI (((rw_ sl i).count x) + 1))), (0, .ref k0), (1, .int x), (2, .int y)]) hx hb dX1_turn_98 hl (k := 4) rfl (kInc1 _) (by decide) rfl (fun ls hl => ?_)
                    refine lv_goto (tgt := 38) hx hb dX1_turn_101 (by decide) ?_
                    exact ih c3  ls _ _  hP hD hS (by have h := (lv_sub (l' := [(0, .ref k0), (1, .int x), (2, .int y), (3, .int (nI (((rw_ sl i).count x) + 1))), (4, .int (nI (i + 1)))]) hl [2, 3, 4, 1, 0] rfl); rw [show (rw_ sl (i + 1)).count x = (rw_ sl i).count x + 1 by rw [cn_succ, if_pos c5]]; exact h)
            · skip
              exact absurd c8 (by decide)
        · skip
          refine kEq0 (a := 0) (by omega) (tgt := 23) hx hb dX1_turn_16 (by decide) (fun c2 => ?_) (fun c2 => ?_)
          · skip
            refine lv_iconst (v := nI 0) hx hb dX1_turn_23 (by decide) ?_
            refine lv_iconst (v := nI 1) hx hb dX1_turn_24 (by decide) ?_
            refine cVi (wr := []) (As := [.int (nI 0), .int (nI 1)]) (rest := []) ⟨hx, hb, hml, hown, hts⟩ (pX1_goes l D k0 k1 k2 k3 k4 k5 k6 cI th F ca ow sl gl mn va ki ra 0 1 (by decide) (by decide)) (cwV 2 hts gX1_turn_X1_goes rfl rfl rfl (by decide +kernel) ⟨(Nat.le_of_ble_eq_true rfl), (Nat.le_of_ble_eq_true rfl)⟩) hK hP hD hS hA [0, 1, 2, 3, 4, 5, 6] [] rfl rfl (by decide) (by decide) (by decide) 0 rfl rfl rfl hl.1 rfl (Nat.le_of_ble_eq_true rfl) dX1_turn_25 ⟨(Nat.le_of_ble_eq_true rfl), (Nat.le_of_ble_eq_true rfl)⟩ (fun r u H locs hw hP hD hS => ?_)
            obtain ⟨rfl, rfl⟩ := hw
            have hP : va_P D kC (wM k0 k1 k2 k3 k4 k5 k6 cI (nI 1) (nI F) ca ow sl gl mn va ki ra) H := hP
            have hD : va_D A (wM k0 k1 k2 k3 k4 k5 k6 cI (nI 1) (nI F) ca ow sl gl mn va ki ra) := hD
            refine kTop (v' := nI 0) rfl ?_
            refine kNe0 (a := 0) (by omega) (tgt := 33) hx hb dX1_turn_28 (by decide) (fun c8 => ?_) (fun c8 => ?_)
            · skip
              exact absurd c8 (by decide)
            · skip
              refine lv_iconst (v := nI 0) hx hb dX1_turn_31 (by decide) ?_
              exact (kReti hx hb hr hlocks dX1_turn_32 (Nat.le_of_ble_eq_true rfl) (Nat.le_of_ble_eq_true rfl) hK hS hP hD (Or.inr ⟨fun h => hy9 h.2.2, rfl⟩))
          · skip
            exact absurd c2 (by decide)
    · skip
      refine kEq0 (a := 0) (by omega) (tgt := 23) hx hb dX1_turn_9 (by decide) (fun c1 => ?_) (fun c1 => ?_)
      · skip
        refine lv_iconst (v := nI 0) hx hb dX1_turn_23 (by decide) ?_
        refine lv_iconst (v := nI 1) hx hb dX1_turn_24 (by decide) ?_
        refine cVi (wr := []) (As := [.int (nI 0), .int (nI 1)]) (rest := []) ⟨hx, hb, hml, hown, hts⟩ (pX1_goes l D k0 k1 k2 k3 k4 k5 k6 cI th F ca ow sl gl mn va ki ra 0 1 (by decide) (by decide)) (cwV 2 hts gX1_turn_X1_goes rfl rfl rfl (by decide +kernel) ⟨(Nat.le_of_ble_eq_true rfl), (Nat.le_of_ble_eq_true rfl)⟩) hK hP hD hS hA [0, 1, 2, 3, 4, 5, 6] [] rfl rfl (by decide) (by decide) (by decide) 0 rfl rfl rfl hl.1 rfl (Nat.le_of_ble_eq_true rfl) dX1_turn_25 ⟨(Nat.le_of_ble_eq_true rfl), (Nat.le_of_ble_eq_true rfl)⟩ (fun r u H locs hw hP hD hS => ?_)
        obtain ⟨rfl, rfl⟩ := hw
        have hP : va_P D kC (wM k0 k1 k2 k3 k4 k5 k6 cI (nI 1) (nI F) ca ow sl gl mn va ki ra) H := hP
        have hD : va_D A (wM k0 k1 k2 k3 k4 k5 k6 cI (nI 1) (nI F) ca ow sl gl mn va ki ra) := hD
        refine kTop (v' := nI 0) rfl ?_
        refine kNe0 (a := 0) (by omega) (tgt := 33) hx hb dX1_turn_28 (by decide) (fun c8 => ?_) (fun c8 => ?_)
        · skip
          exact absurd c8 (by decide)
        · skip
          refine lv_iconst (v := nI 0) hx hb dX1_turn_31 (by decide) ?_
          exact (kReti hx hb hr hlocks dX1_turn_32 (Nat.le_of_ble_eq_true rfl) (Nat.le_of_ble_eq_true rfl) hK hS hP hD (Or.inr ⟨fun h => hx9 h.2.1, rfl⟩))
      · skip
        exact absurd c1 (by decide)

set_option maxHeartbeats 4000000 in
set_option maxRecDepth 100000 in
theorem pX1_renew (l : Launch) (D : va_G) (k0 k1 k2 k3 k4 k5 k6 : Nat) (cI : ClassId) (th : Int32) (F : Nat) (ca : Int32) (ow sl gl : Nat → Int32) (mn : Int32) (va ki ra : Nat → Int32) (hF : F ≤ 256) (hO : okO ow F) (hs0 : ∀ t, t < 8 * F → ¬ sl t < 0) (hg0 : ∀ t, t < 16 → ¬ gl t < 0) : Mi l yX1_renew wsX1_renew r3 D (tI cI) [.ref k0] (wM k0 k1 k2 k3 k4 k5 k6 cI th (nI F) ca ow sl gl mn va ki ra) (fun r u => r = nI (dd (ps (rowL ow sl gl F))).length ∧ ∃ (mn' : Int32) (va' ki' ra' : Nat → Int32), u = wM k0 k1 k2 k3 k4 k5 k6 cI (nI 0) (nI F) ca ow ((fun t => if t < 8 * F then rk (dd (ps (rowL ow sl gl F))) (sl t) else sl t)) ((fun t => if t < 16 then rk (dd (ps (rowL ow sl gl F))) (gl t) else gl t)) mn' va' ki' ra') := by
  refine Mi.of (cc := cX1_renew) (maxL := 3) (ty := .int) (by decide +kernel) rfl (Nat.le_of_ble_eq_true rfl) ?_
  rintro p e s m below meth c ls A ⟨hx, hb, hr, hml, hts, hown, hlocks, hnm, hP, hK, hD, hA, hS, hl⟩
  have hown : s.vm.findClass RX1 = some m.cls := hown
  have hl : lv_has ls 3 [(0, .ref k0)] := hl
  have hin : ∀ w ∈ wsX10, w ∈ wsX1_renew := by decide +kernel
  have hP : va_P D kC (wM k0 k1 k2 k3 k4 k5 k6 cI th (nI F) ca ow sl gl mn va ki ra) s.heap := hP
  have hD : va_D A (wM k0 k1 k2 k3 k4 k5 k6 cI th (nI F) ca ow sl gl mn va ki ra) := hD
  refine lv_aload_n hx hb dX1_renew_0 rfl (lv_at hl 0 rfl) ?_
  refine lv_iconst (v := nI 0) hx hb dX1_renew_1 (by decide) ?_
  refine va_put (D := D) (ci := 1) (v := .int (nI 0)) (ty := .int) (C := RX1) (T := TX1) (N := 10) hx hb hts hin tyX1 tyX1_ok nmX1 hown hK hP hD hS 0 rfl rfl 0 (by decide) (hts (.fieldLink RX1 32 "FrameRowModel" "thrown" "I") (by decide +kernel)) (fun _ h9 => h9) rfl (by decide +kernel) rfl rfl (Nat.le_of_ble_eq_true rfl) dX1_renew_2 (fun H locs hP hD hS => ?_)
  have hP : va_P D kC (wM k0 k1 k2 k3 k4 k5 k6 cI (nI 0) (nI F) ca ow sl gl mn va ki ra) H := hP
  have hD : va_D A (wM k0 k1 k2 k3 k4 k5 k6 cI (nI 0) (nI F) ca ow sl gl mn va ki ra) := hD
  refine lv_aload_n hx hb dX1_renew_5 rfl (lv_at hl 0 rfl) ?_
  refine cVv (wr := []) (As := []) (rest := []) ⟨hx, hb, hml, hown, hts⟩ (pX1_gather l D k0 k1 k2 k3 k4 k5 k6 cI (nI 0) F ca ow sl gl mn va ki ra hF) (cwV 0 hts gX1_renew_X1_gather rfl rfl rfl (by decide +kernel) ⟨(Nat.le_of_ble_eq_true rfl), (Nat.le_of_ble_eq_true rfl)⟩) hK hP hD hS hA [0, 1, 2, 3, 4, 5, 6] [] rfl rfl (by decide) (by decide) (by decide) 0 rfl rfl rfl hl.1 rfl (Nat.le_of_ble_eq_true rfl) dX1_renew_6 ⟨(Nat.le_of_ble_eq_true rfl), (Nat.le_of_ble_eq_true rfl)⟩ (fun u H locs hw hP hD hS => ?_)
  obtain ⟨va, rfl, hva⟩ := hw
  have hP : va_P D kC (wM k0 k1 k2 k3 k4 k5 k6 cI (nI 0) (nI F) ca ow sl gl (nI (ps (rowL ow sl gl F)).length) va ki ra) H := hP
  have hD : va_D A (wM k0 k1 k2 k3 k4 k5 k6 cI (nI 0) (nI F) ca ow sl gl (nI (ps (rowL ow sl gl F)).length) va ki ra) := hD
  have hpl := ps_le (rowL ow sl gl F)
  have hrl := rowL_le ow sl gl F
  refine lv_aload_n hx hb dX1_renew_9 rfl (lv_at hl 0 rfl) ?_
  refine cVi (wr := []) (As := []) (rest := []) ⟨hx, hb, hml, hown, hts⟩ (pX1_findFirsts l D k0 k1 k2 k3 k4 k5 k6 cI (nI 0) F ca ow sl gl (nI (ps (rowL ow sl gl F)).length) va ki ra (ps (rowL ow sl gl F)) rfl hva (fun x hx => (ps_mem.mp hx).2) (by omega)) (cwV 0 hts gX1_renew_X1_findFirsts rfl rfl rfl (by decide +kernel) ⟨(Nat.le_of_ble_eq_true rfl), (Nat.le_of_ble_eq_true rfl)⟩) hK hP hD hS hA [0, 1, 2, 3, 4, 5, 6] [] rfl rfl (by decide) (by decide) (by decide) 0 rfl rfl rfl hl.1 rfl (Nat.le_of_ble_eq_true rfl) dX1_renew_10 ⟨(Nat.le_of_ble_eq_true rfl), (Nat.le_of_ble_eq_true rfl)⟩ (fun r u H locs hw hP hD hS => ?_)
  obtain ⟨rfl, ki, ra, rfl, hT⟩ := hw
  have hP : va_P D kC (wM k0 k1 k2 k3 k4 k5 k6 cI (nI 0) (nI F) ca ow sl gl (nI (ps (rowL ow sl gl F)).length) va ki ra) H := hP
  have hD : va_D A (wM k0 k1 k2 k3 k4 k5 k6 cI (nI 0) (nI F) ca ow sl gl (nI (ps (rowL ow sl gl F)).length) va ki ra) := hD
  have hdl := dd_len (ps (rowL ow sl gl F))
  have hrk : ∀ v, v ∈ rowL ow sl gl F → ¬ v < 0 → ¬ v = 0 → 0 < v ∧ v ∈ (dd (ps (rowL ow sl gl F))) := fun v h1 h2 h3 => by have h4 : 0 < v := Int32.lt_of_le_of_ne (Int32.not_lt.mp h2) (fun h => h3 h.symm); exact ⟨h4, (dd_mem _ v).mpr (ps_mem.mpr ⟨h1, h4⟩)⟩
  refine lv_istore_n (lv' := [(1, .int (nI ((dd (ps (rowL ow sl gl F))).length))), (0, .ref k0)]) hx hb dX1_renew_13 rfl hl (by decide) rfl (fun ls hl => ?_)
  refine lv_iconst (v := nI 0) hx hb dX1_renew_14 (by decide) ?_
  refine lv_istore_n (lv' := [(2, .int (nI 0)), (1, .int (nI ((dd (ps (rowL ow sl gl F))).length))), (0, .ref k0)]) hx hb dX1_renew_15 rfl hl (by decide) rfl (fun ls hl => ?_)
  have hP : va_P D kC (wM k0 k1 k2 k3 k4 k5 k6 cI (nI 0) (nI F) ca ow ((fun t => if t < 0 then rk (dd (ps (rowL ow sl gl F))) (sl t) else sl t)) gl (nI (ps (rowL ow sl gl F)).length) va ki ra) H := by rw [rkz]; exact hP
  have hD : va_D A (wM k0 k1 k2 k3 k4 k5 k6 cI (nI 0) (nI F) ca ow ((fun t => if t < 0 then rk (dd (ps (rowL ow sl gl F))) (sl t) else sl t)) gl (nI (ps (rowL ow sl gl F)).length) va ki ra) := by rw [rkz]; exact hD
  refine kLoop (Q := fun i => ∀  (ls : Array Slot) (H : Heap) (locs : List Loc), va_P D kC (wM k0 k1 k2 k3 k4 k5 k6 cI (nI 0) (nI F) ca ow ((fun t => if t < i then rk (dd (ps (rowL ow sl gl F))) (sl t) else sl t)) gl (nI (ps (rowL ow sl gl F)).length) va ki ra) H → va_D A (wM k0 k1 k2 k3 k4 k5 k6 cI (nI 0) (nI F) ca ow ((fun t => if t < i then rk (dd (ps (rowL ow sl gl F))) (sl t) else sl t)) gl (nI (ps (rowL ow sl gl F)).length) va ki ra) → va_S A s.heap H locs → lv_has ls 3 [(0, .ref k0), (1, .int (nI ((dd (ps (rowL ow sl gl F))).length))), (2, .int (nI i))] → W p l e r3 s m [.ref k0].toArray below meth c H locs 0 0 (MQ below (va_Qi (fun r u => r = nI (dd (ps (rowL ow sl gl F))).length ∧ ∃ (mn' : Int32) (va' ki' ra' : Nat → Int32), u = wM k0 k1 k2 k3 k4 k5 k6 cI (nI 0) (nI F) ca ow ((fun t => if t < 8 * F then rk (dd (ps (rowL ow sl gl F))) (sl t) else sl t)) ((fun t => if t < 16 then rk (dd (ps (rowL ow sl gl F))) (gl t) else gl t)) mn' va' ki' ra') (kB D (tI cI) A) A) [.ref k0].toArray s r3.cells r3.slots A) (F0 m 16 ls [])) (8 * F) ?_ (0) (Nat.zero_le _)  ls _ _  hP hD hS (lv_sub hl [2, 1, 0] rfl)
  intro i hi ih  ls H locs  hP hD hS hl
  refine lv_iload_n hx hb dX1_renew_16 rfl (lv_at hl 2 rfl) ?_
  refine lv_bipush (v := nI 8) hx hb dX1_renew_17 (by decide) ?_
  refine lv_aload_n hx hb dX1_renew_19 rfl (lv_at hl 0 rfl) ?_
  refine va_get (D := D) (ci := 1) (v := .int (nI F)) (C := RX1) (T := TX1) (N := 10) hx hb hts hin hown hK hP 0 rfl rfl 1 (by decide) (hts (.fieldLink RX1 7 "FrameRowModel" "frames" "I") (by decide +kernel)) (fun _ h9 => h9) rfl dX1_renew_20 ?_
  refine kMul hx hb dX1_renew_23 ?_
  refine kIge (a := i) (b := 8 * F) (by omega) (by omega) (tgt := 62) hx hb dX1_renew_24 (by decide) (fun c3 => ?_) (fun c3 => ?_)
  · skip
    have hi2 : i = 8 * F := by omega
    subst hi2
    refine lv_iconst (v := nI 0) hx hb dX1_renew_62 (by decide) ?_
    refine lv_istore_n (lv' := [(2, .int (nI 0)), (0, .ref k0), (1, .int (nI ((dd (ps (rowL ow sl gl F))).length)))]) hx hb dX1_renew_63 rfl hl (by decide) rfl (fun ls hl => ?_)
    have hP : va_P D kC (wM k0 k1 k2 k3 k4 k5 k6 cI (nI 0) (nI F) ca ow ((fun t => if t < 8 * F then rk (dd (ps (rowL ow sl gl F))) (sl t) else sl t)) ((fun t => if t < 0 then rk (dd (ps (rowL ow sl gl F))) (gl t) else gl t)) (nI (ps (rowL ow sl gl F)).length) va ki ra) H := by rw [rkz (f := gl)]; exact hP
    have hD : va_D A (wM k0 k1 k2 k3 k4 k5 k6 cI (nI 0) (nI F) ca ow ((fun t => if t < 8 * F then rk (dd (ps (rowL ow sl gl F))) (sl t) else sl t)) ((fun t => if t < 0 then rk (dd (ps (rowL ow sl gl F))) (gl t) else gl t)) (nI (ps (rowL ow sl gl F)).length) va ki ra) := by rw [rkz (f := gl)]; exact hD
    refine kLoop (Q := fun j => ∀  (ls : Array Slot) (H : Heap) (locs : List Loc), va_P D kC (wM k0 k1 k2 k3 k4 k5 k6 cI (nI 0) (nI F) ca ow ((fun t => if t < 8 * F then rk (dd (ps (rowL ow sl gl F))) (sl t) else sl t)) ((fun t => if t < j then rk (dd (ps (rowL ow sl gl F))) (gl t) else gl t)) (nI (ps (rowL ow sl gl F)).length) va ki ra) H → va_D A (wM k0 k1 k2 k3 k4 k5 k6 cI (nI 0) (nI F) ca ow ((fun t => if t < 8 * F then rk (dd (ps (rowL ow sl gl F))) (sl t) else sl t)) ((fun t => if t < j then rk (dd (ps (rowL ow sl gl F))) (gl t) else gl t)) (nI (ps (rowL ow sl gl F)).length) va ki ra) → va_S A s.heap H locs → lv_has ls 3 [(0, .ref k0), (1, .int (nI ((dd (ps (rowL ow sl gl F))).length))), (2, .int (nI j))] → W p l e r3 s m [.ref k0].toArray below meth c H locs 0 0 (MQ below (va_Qi (fun r u => r = nI (dd (ps (rowL ow sl gl F))).length ∧ ∃ (mn' : Int32) (va' ki' ra' : Nat → Int32), u = wM k0 k1 k2 k3 k4 k5 k6 cI (nI 0) (nI F) ca ow ((fun t => if t < 8 * F then rk (dd (ps (rowL ow sl gl F))) (sl t) else sl t)) ((fun t => if t < 16 then rk (dd (ps (rowL ow sl gl F))) (gl t) else gl t)) mn' va' ki' ra') (kB D (tI cI) A) A) [.ref k0].toArray s r3.cells r3.slots A) (F0 m 64 ls [])) (16) ?_ (0) (Nat.zero_le _)  ls _ _  hP hD hS (lv_sub hl [1, 2, 0] rfl)
    intro j hj ihj  ls H locs  hP hD hS hl
    refine lv_iload_n hx hb dX1_renew_64 rfl (lv_at hl 2 rfl) ?_
    refine lv_bipush (v := nI 16) hx hb dX1_renew_65 (by decide) ?_
    refine kIge (a := j) (b := 16) (by omega) (by omega) (tgt := 105) hx hb dX1_renew_67 (by decide) (fun c4 => ?_) (fun c4 => ?_)
    · skip
      have hj2 : j = 16 := by omega
      subst hj2
      refine lv_iload_n hx hb dX1_renew_105 rfl (lv_at hl 1 rfl) ?_
      exact (kReti hx hb hr hlocks dX1_renew_106 (Nat.le_of_ble_eq_true rfl) (Nat.le_of_ble_eq_true rfl) hK hS hP hD ⟨rfl, _, _, _, _, rfl⟩)
    · skip
      refine lv_aload_n hx hb dX1_renew_70 rfl (lv_at hl 0 rfl) ?_
      refine va_get (D := D) (ci := 1) (v := .ref k3) (C := RX1) (T := TX1) (N := 10) hx hb hts hin hown hK hP 0 rfl rfl 5 (by decide) (hts (.fieldLink RX1 20 "FrameRowModel" "globals" "[I") (by decide +kernel)) (fun _ h9 => h9) rfl dX1_renew_71 ?_
      refine lv_iload_n hx hb dX1_renew_74 rfl (lv_at hl 2 rfl) ?_
      refine lv_aload_n hx hb dX1_renew_75 rfl (lv_at hl 0 rfl) ?_
      refine va_get (D := D) (ci := 1) (v := .ref k3) (C := RX1) (T := TX1) (N := 10) hx hb hts hin hown hK hP 0 rfl rfl 5 (by decide) (hts (.fieldLink RX1 20 "FrameRowModel" "globals" "[I") (by decide +kernel)) (fun _ h9 => h9) rfl dX1_renew_76 ?_
      refine lv_iload_n hx hb dX1_renew_79 rfl (lv_at hl 2 rfl) ?_
      refine kLd hx hb hK hP 3 0 rfl rfl (j := j) (by omega) (by decide) dX1_renew_80 ?_
      refine kTop (v' := gl j) (if_neg (by omega)) ?_
      refine lv_if_ne (tgt := 88) hx hb dX1_renew_81 (by decide) (fun c5 => ?_) (fun c5 => ?_)
      · skip
        refine lv_aload_n hx hb dX1_renew_88 rfl (lv_at hl 0 rfl) ?_
        refine lv_aload_n hx hb dX1_renew_89 rfl (lv_at hl 0 rfl) ?_
        refine va_get (D := D) (ci := 1) (v := .ref k3) (C := RX1) (T := TX1) (N := 10) hx hb hts hin hown hK hP 0 rfl rfl 5 (by decide) (hts (.fieldLink RX1 20 "FrameRowModel" "globals" "[I") (by decide +kernel)) (fun _ h9 => h9) rfl dX1_renew_90 ?_
        refine lv_iload_n hx hb dX1_renew_93 rfl (lv_at hl 2 rfl) ?_
        refine kLd hx hb hK hP 3 0 rfl rfl (j := j) (by omega) (by decide) dX1_renew_94 ?_
        refine kTop (v' := gl j) (if_neg (by omega)) ?_
        obtain ⟨hv1, hv2⟩ := hrk _ (row_gl c4) (hg0 _ c4) c5
        refine cVi (wr := []) (As := [.int (gl j)]) (rest := [.int (nI j), .ref k3]) ⟨hx, hb, hml, hown, hts⟩ (pX1_rank l D k0 k1 k2 k3 k4 k5 k6 cI (nI 0) F ca ow (fun t => if t < 8 * F then rk (dd (ps (rowL ow sl gl F))) (sl t) else sl t) (fun t => if t < j then rk (dd (ps (rowL ow sl gl F))) (gl t) else gl t) (nI (ps (rowL ow sl gl F)).length) va ki ra (dd (ps (rowL ow sl gl F))) hT (by omega) (gl j) hv1 hv2) (cwV 1 hts gX1_renew_X1_rank rfl rfl rfl (by decide +kernel) ⟨(Nat.le_of_ble_eq_true rfl), (Nat.le_of_ble_eq_true rfl)⟩) hK hP hD hS hA [0, 1, 2, 3, 4, 5, 6] [] rfl rfl (by decide) (by decide) (by decide) 0 rfl rfl rfl hl.1 rfl (Nat.le_of_ble_eq_true rfl) dX1_renew_95 ⟨(Nat.le_of_ble_eq_true rfl), (Nat.le_of_ble_eq_true rfl)⟩ (fun r u H locs hw hP hD hS => ?_)
        obtain ⟨rfl, rfl⟩ := hw
        have hP : va_P D kC (wM k0 k1 k2 k3 k4 k5 k6 cI (nI 0) (nI F) ca ow ((fun t => if t < 8 * F then rk (dd (ps (rowL ow sl gl F))) (sl t) else sl t)) ((fun t => if t < j then rk (dd (ps (rowL ow sl gl F))) (gl t) else gl t)) (nI (ps (rowL ow sl gl F)).length) va ki ra) H := hP
        have hD : va_D A (wM k0 k1 k2 k3 k4 k5 k6 cI (nI 0) (nI F) ca ow ((fun t => if t < 8 * F then rk (dd (ps (rowL ow sl gl F))) (sl t) else sl t)) ((fun t => if t < j then rk (dd (ps (rowL ow sl gl F))) (gl t) else gl t)) (nI (ps (rowL ow sl gl F)).length) va ki ra) := hD
        refine kSt hx hb hK hP hD hS 3 0 rfl rfl (j := j) (by omega) (by decide) dX1_renew_98 (fun H locs hP hD hS => ?_)
        have hP : va_P D kC (wM k0 k1 k2 k3 k4 k5 k6 cI (nI 0) (nI F) ca ow ((fun t => if t < 8 * F then rk (dd (ps (rowL ow sl gl F))) (sl t) else sl t)) (upd ((fun t => if t < j then rk (dd (ps (rowL ow sl gl F))) (gl t) else gl t)) j (nI ((dd (ps (rowL ow sl gl F))).idxOf (gl j) + 1))) (nI (ps (rowL ow sl gl F)).length) va ki ra) H := hP
        have hD : va_D A (wM k0 k1 k2 k3 k4 k5 k6 cI (nI 0) (nI F) ca ow ((fun t => if t < 8 * F then rk (dd (ps (rowL ow sl gl F))) (sl t) else sl t)) (upd ((fun t => if t < j then rk (dd (ps (rowL ow sl gl F))) (gl t) else gl t)) j (nI ((dd (ps (rowL ow sl gl F))).idxOf (gl j) + 1))) (nI (ps (rowL ow sl gl F)).length) va ki ra) := hD
        rw [rkp (if_neg c5)] at hP hD
        refine lv_iinc (v := nI (j + 1)) (lv' := [(2, .int (nI (j + 1))), (0, .ref k0), (1, .int (nI ((dd (ps (rowL ow sl gl F))).length)))]) hx hb dX1_renew_99 hl (k := 2) rfl (kInc1 _) (by decide) rfl (fun ls hl => ?_)
        refine lv_goto (tgt := 64) hx hb dX1_renew_102 (by decide) ?_
        exact ihj c4  ls _ _  hP hD hS (lv_sub (l' := [(0, .ref k0), (1, .int (nI ((dd (ps (rowL ow sl gl F))).length))), (2, .int (nI (j + 1)))]) hl [1, 2, 0] rfl)
      · skip
        refine lv_iconst (v := nI 0) hx hb dX1_renew_84 (by decide) ?_
        refine lv_goto (tgt := 98) hx hb dX1_renew_85 (by decide) ?_
        refine kSt hx hb hK hP hD hS 3 0 rfl rfl (j := j) (by omega) (by decide) dX1_renew_98 (fun H locs hP hD hS => ?_)
        have hP : va_P D kC (wM k0 k1 k2 k3 k4 k5 k6 cI (nI 0) (nI F) ca ow ((fun t => if t < 8 * F then rk (dd (ps (rowL ow sl gl F))) (sl t) else sl t)) (upd ((fun t => if t < j then rk (dd (ps (rowL ow sl gl F))) (gl t) else gl t)) j (nI 0)) (nI (ps (rowL ow sl gl F)).length) va ki ra) H := hP
        have hD : va_D A (wM k0 k1 k2 k3 k4 k5 k6 cI (nI 0) (nI F) ca ow ((fun t => if t < 8 * F then rk (dd (ps (rowL ow sl gl F))) (sl t) else sl t)) (upd ((fun t => if t < j then rk (dd (ps (rowL ow sl gl F))) (gl t) else gl t)) j (nI 0)) (nI (ps (rowL ow sl gl F)).length) va ki ra) := hD
        rw [rkp ((if_pos c5).trans nI_0.symm)] at hP hD
        refine lv_iinc (v := nI (j + 1)) (lv' := [(2, .int (nI (j + 1))), (0, .ref k0), (1, .int (nI ((dd (ps (rowL ow sl gl F))).length)))]) hx hb dX1_renew_99 hl (k := 2) rfl (kInc1 _) (by decide) rfl (fun ls hl => ?_)
        refine lv_goto (tgt := 64) hx hb dX1_renew_102 (by decide) ?_
        exact ihj c4  ls _ _  hP hD hS (lv_sub (l' := [(0, .ref k0), (1, .int (nI ((dd (ps (rowL ow sl gl F))).length))), (2, .int (nI (j + 1)))]) hl [1, 2, 0] rfl)
  · skip
    refine lv_aload_n hx hb dX1_renew_27 rfl (lv_at hl 0 rfl) ?_
    refine va_get (D := D) (ci := 1) (v := .ref k2) (C := RX1) (T := TX1) (N := 10) hx hb hts hin hown hK hP 0 rfl rfl 4 (by decide) (hts (.fieldLink RX1 17 "FrameRowModel" "slots" "[I") (by decide +kernel)) (fun _ h9 => h9) rfl dX1_renew_28 ?_
    refine lv_iload_n hx hb dX1_renew_31 rfl (lv_at hl 2 rfl) ?_
    refine lv_aload_n hx hb dX1_renew_32 rfl (lv_at hl 0 rfl) ?_
    refine va_get (D := D) (ci := 1) (v := .ref k2) (C := RX1) (T := TX1) (N := 10) hx hb hts hin hown hK hP 0 rfl rfl 4 (by decide) (hts (.fieldLink RX1 17 "FrameRowModel" "slots" "[I") (by decide +kernel)) (fun _ h9 => h9) rfl dX1_renew_33 ?_
    refine lv_iload_n hx hb dX1_renew_36 rfl (lv_at hl 2 rfl) ?_
    refine kLd hx hb hK hP 2 0 rfl rfl (j := i) (by omega) (by decide) dX1_renew_37 ?_
    refine kTop (v' := sl i) (if_neg (by omega)) ?_
    refine lv_if_ne (tgt := 45) hx hb dX1_renew_38 (by decide) (fun c5 => ?_) (fun c5 => ?_)
    · skip
      refine lv_aload_n hx hb dX1_renew_45 rfl (lv_at hl 0 rfl) ?_
      refine lv_aload_n hx hb dX1_renew_46 rfl (lv_at hl 0 rfl) ?_
      refine va_get (D := D) (ci := 1) (v := .ref k2) (C := RX1) (T := TX1) (N := 10) hx hb hts hin hown hK hP 0 rfl rfl 4 (by decide) (hts (.fieldLink RX1 17 "FrameRowModel" "slots" "[I") (by decide +kernel)) (fun _ h9 => h9) rfl dX1_renew_47 ?_
      refine lv_iload_n hx hb dX1_renew_50 rfl (lv_at hl 2 rfl) ?_
      refine kLd hx hb hK hP 2 0 rfl rfl (j := i) (by omega) (by decide) dX1_renew_51 ?_
      refine kTop (v' := sl i) (if_neg (by omega)) ?_
      obtain ⟨hv1, hv2⟩ := hrk _ (row_sl hO c3) (hs0 _ c3) c5
      refine cVi (wr := []) (As := [.int (sl i)]) (rest := [.int (nI i), .ref k2]) ⟨hx, hb, hml, hown, hts⟩ (pX1_rank l D k0 k1 k2 k3 k4 k5 k6 cI (nI 0) F ca ow (fun t => if t < i then rk (dd (ps (rowL ow sl gl F))) (sl t) else sl t) gl (nI (ps (rowL ow sl gl F)).length) va ki ra (dd (ps (rowL ow sl gl F))) hT (by omega) (sl i) hv1 hv2) (cwV 1 hts gX1_renew_X1_rank rfl rfl rfl (by decide +kernel) ⟨(Nat.le_of_ble_eq_true rfl), (Nat.le_of_ble_eq_true rfl)⟩) hK hP hD hS hA [0, 1, 2, 3, 4, 5, 6] [] rfl rfl (by decide) (by decide) (by decide) 0 rfl rfl rfl hl.1 rfl (Nat.le_of_ble_eq_true rfl) dX1_renew_52 ⟨(Nat.le_of_ble_eq_true rfl), (Nat.le_of_ble_eq_true rfl)⟩ (fun r u H locs hw hP hD hS => ?_)
      obtain ⟨rfl, rfl⟩ := hw
      have hP : va_P D kC (wM k0 k1 k2 k3 k4 k5 k6 cI (nI 0) (nI F) ca ow ((fun t => if t < i then rk (dd (ps (rowL ow sl gl F))) (sl t) else sl t)) gl (nI (ps (rowL ow sl gl F)).length) va ki ra) H := hP
      have hD : va_D A (wM k0 k1 k2 k3 k4 k5 k6 cI (nI 0) (nI F) ca ow ((fun t => if t < i then rk (dd (ps (rowL ow sl gl F))) (sl t) else sl t)) gl (nI (ps (rowL ow sl gl F)).length) va ki ra) := hD
      refine kSt hx hb hK hP hD hS 2 0 rfl rfl (j := i) (by omega) (by decide) dX1_renew_55 (fun H locs hP hD hS => ?_)
      have hP : va_P D kC (wM k0 k1 k2 k3 k4 k5 k6 cI (nI 0) (nI F) ca ow (upd ((fun t => if t < i then rk (dd (ps (rowL ow sl gl F))) (sl t) else sl t)) i (nI ((dd (ps (rowL ow sl gl F))).idxOf (sl i) + 1))) gl (nI (ps (rowL ow sl gl F)).length) va ki ra) H := hP
      have hD : va_D A (wM k0 k1 k2 k3 k4 k5 k6 cI (nI 0) (nI F) ca ow (upd ((fun t => if t < i then rk (dd (ps (rowL ow sl gl F))) (sl t) else sl t)) i (nI ((dd (ps (rowL ow sl gl F))).idxOf (sl i) + 1))) gl (nI (ps (rowL ow sl gl F)).length) va ki ra) := hD
      rw [rkp (if_neg c5)] at hP hD
      refine lv_iinc (v := nI (i + 1)) (lv' := [(2, .int (nI (i + 1))), (0, .ref k0), (1, .int (nI ((dd (ps (rowL ow sl gl F))).length)))]) hx hb dX1_renew_56 hl (k := 2) rfl (kInc1 _) (by decide) rfl (fun ls hl => ?_)
      refine lv_goto (tgt := 16) hx hb dX1_renew_59 (by decide) ?_
      exact ih c3  ls _ _  hP hD hS (lv_sub (l' := [(0, .ref k0), (1, .int (nI ((dd (ps (rowL ow sl gl F))).length))), (2, .int (nI (i + 1)))]) hl [1, 2, 0] rfl)
    · skip
      refine lv_iconst (v := nI 0) hx hb dX1_renew_41 (by decide) ?_
      refine lv_goto (tgt := 55) hx hb dX1_renew_42 (by decide) ?_
      refine kSt hx hb hK hP hD hS 2 0 rfl rfl (j := i) (by omega) (by decide) dX1_renew_55 (fun H locs hP hD hS => ?_)
      have hP : va_P D kC (wM k0 k1 k2 k3 k4 k5 k6 cI (nI 0) (nI F) ca ow (upd ((fun t => if t < i then rk (dd (ps (rowL ow sl gl F))) (sl t) else sl t)) i (nI 0)) gl (nI (ps (rowL ow sl gl F)).length) va ki ra) H := hP
      have hD : va_D A (wM k0 k1 k2 k3 k4 k5 k6 cI (nI 0) (nI F) ca ow (upd ((fun t => if t < i then rk (dd (ps (rowL ow sl gl F))) (sl t) else sl t)) i (nI 0)) gl (nI (ps (rowL ow sl gl F)).length) va ki ra) := hD
      rw [rkp ((if_pos c5).trans nI_0.symm)] at hP hD
      refine lv_iinc (v := nI (i + 1)) (lv' := [(2, .int (nI (i + 1))), (0, .ref k0), (1, .int (nI ((dd (ps (rowL ow sl gl F))).length)))]) hx hb dX1_renew_56 hl (k := 2) rfl (kInc1 _) (by decide) rfl (fun ls hl => ?_)
      refine lv_goto (tgt := 16) hx hb dX1_renew_59 (by decide) ?_
      exact ih c3  ls _ _  hP hD hS (lv_sub (l' := [(0, .ref k0), (1, .int (nI ((dd (ps (rowL ow sl gl F))).length))), (2, .int (nI (i + 1)))]) hl [1, 2, 0] rfl)

set_option maxHeartbeats 4000000 in
set_option maxRecDepth 100000 in
theorem pX1_count (l : Launch) (D : va_G) (k0 k1 k2 k3 k4 k5 k6 : Nat) (cI : ClassId) (th : Int32) (F : Nat) (ca : Int32) (ow sl gl : Nat → Int32) (mn : Int32) (va ki ra : Nat → Int32) (hF : F ≤ 256) (x : Int32) : Mi l yX1_count wsX1_count r3 D (tI cI) [.ref k0, .int x] (wM k0 k1 k2 k3 k4 k5 k6 cI th (nI F) ca ow sl gl mn va ki ra) (fun r u => ∃ (mn' : Int32) (va' ki' ra' : Nat → Int32), (u = wM k0 k1 k2 k3 k4 k5 k6 cI (nI 0) (nI F) ca ow sl gl mn' va' ki' ra' ∧ ((x = 0 ∧ r = nI F) ∨ (x = 1 ∧ r = nI (ps (rowL ow sl gl F)).length) ∨ (x = 2 ∧ r = nI (mxN (cnts ow F) 4)) ∨ (x = 3 ∧ r = ca) ∨ (x = 4 ∧ r = nI (dd (ps (rowL ow sl gl F))).length))) ∨ (¬ inR x 5 ∧ u = wM k0 k1 k2 k3 k4 k5 k6 cI (nI 1) (nI F) ca ow sl gl mn' va' ki' ra')) := by
  refine Mi.of (cc := cX1_count) (maxL := 4) (ty := .int) (by decide +kernel) rfl (Nat.le_of_ble_eq_true rfl) ?_
  rintro p e s m below meth c ls A ⟨hx, hb, hr, hml, hts, hown, hlocks, hnm, hP, hK, hD, hA, hS, hl⟩
  have hown : s.vm.findClass RX1 = some m.cls := hown
  have hl : lv_has ls 4 [(0, .ref k0), (1, .int x)] := hl
  have hin : ∀ w ∈ wsX10, w ∈ wsX1_count := by decide +kernel
  have hP : va_P D kC (wM k0 k1 k2 k3 k4 k5 k6 cI th (nI F) ca ow sl gl mn va ki ra) s.heap := hP
  have hD : va_D A (wM k0 k1 k2 k3 k4 k5 k6 cI th (nI F) ca ow sl gl mn va ki ra) := hD
  refine lv_aload_n hx hb dX1_count_0 rfl (lv_at hl 0 rfl) ?_
  refine lv_iload_n hx hb dX1_count_1 rfl (lv_at hl 1 rfl) ?_
  refine lv_if_lt (tgt := 14) hx hb dX1_count_2 (by decide) (fun c0 => ?_) (fun c0 => ?_)
  · skip
    refine lv_iconst (v := nI 0) hx hb dX1_count_14 (by decide) ?_
    refine lv_iconst (v := nI 1) hx hb dX1_count_15 (by decide) ?_
    refine cVi (wr := []) (As := [.int (nI 0), .int (nI 1)]) (rest := []) ⟨hx, hb, hml, hown, hts⟩ (pX1_goes l D k0 k1 k2 k3 k4 k5 k6 cI th F ca ow sl gl mn va ki ra 0 1 (by decide) (by decide)) (cwV 2 hts gX1_count_X1_goes rfl rfl rfl (by decide +kernel) ⟨(Nat.le_of_ble_eq_true rfl), (Nat.le_of_ble_eq_true rfl)⟩) hK hP hD hS hA [0, 1, 2, 3, 4, 5, 6] [] rfl rfl (by decide) (by decide) (by decide) 0 rfl rfl rfl hl.1 rfl (Nat.le_of_ble_eq_true rfl) dX1_count_16 ⟨(Nat.le_of_ble_eq_true rfl), (Nat.le_of_ble_eq_true rfl)⟩ (fun r u H locs hw hP hD hS => ?_)
    obtain ⟨rfl, rfl⟩ := hw
    have hP : va_P D kC (wM k0 k1 k2 k3 k4 k5 k6 cI (nI 1) (nI F) ca ow sl gl mn va ki ra) H := hP
    have hD : va_D A (wM k0 k1 k2 k3 k4 k5 k6 cI (nI 1) (nI F) ca ow sl gl mn va ki ra) := hD
    refine kTop (v' := nI 0) rfl ?_
    refine kNe0 (a := 0) (by omega) (tgt := 24) hx hb dX1_count_19 (by decide) (fun c8 => ?_) (fun c8 => ?_)
    · skip
      exact absurd c8 (by decide)
    · skip
      refine lv_iconst (v := nI 0) hx hb dX1_count_22 (by decide) ?_
      exact (kReti hx hb hr hlocks dX1_count_23 (Nat.le_of_ble_eq_true rfl) (Nat.le_of_ble_eq_true rfl) hK hS hP hD ⟨_, _, _, _, Or.inr ⟨fun h => ((inR_iff (by decide)).mp h).1 c0, rfl⟩⟩)
  · skip
    refine lv_iload_n hx hb dX1_count_5 rfl (lv_at hl 1 rfl) ?_
    refine lv_iconst (v := nI 4) hx hb dX1_count_6 (by decide) ?_
    refine lv_icmp_gt (tgt := 14) hx hb dX1_count_7 (by decide) (fun c1 => ?_) (fun c1 => ?_)
    · skip
      refine lv_iconst (v := nI 0) hx hb dX1_count_14 (by decide) ?_
      refine lv_iconst (v := nI 1) hx hb dX1_count_15 (by decide) ?_
      refine cVi (wr := []) (As := [.int (nI 0), .int (nI 1)]) (rest := []) ⟨hx, hb, hml, hown, hts⟩ (pX1_goes l D k0 k1 k2 k3 k4 k5 k6 cI th F ca ow sl gl mn va ki ra 0 1 (by decide) (by decide)) (cwV 2 hts gX1_count_X1_goes rfl rfl rfl (by decide +kernel) ⟨(Nat.le_of_ble_eq_true rfl), (Nat.le_of_ble_eq_true rfl)⟩) hK hP hD hS hA [0, 1, 2, 3, 4, 5, 6] [] rfl rfl (by decide) (by decide) (by decide) 0 rfl rfl rfl hl.1 rfl (Nat.le_of_ble_eq_true rfl) dX1_count_16 ⟨(Nat.le_of_ble_eq_true rfl), (Nat.le_of_ble_eq_true rfl)⟩ (fun r u H locs hw hP hD hS => ?_)
      obtain ⟨rfl, rfl⟩ := hw
      have hP : va_P D kC (wM k0 k1 k2 k3 k4 k5 k6 cI (nI 1) (nI F) ca ow sl gl mn va ki ra) H := hP
      have hD : va_D A (wM k0 k1 k2 k3 k4 k5 k6 cI (nI 1) (nI F) ca ow sl gl mn va ki ra) := hD
      refine kTop (v' := nI 0) rfl ?_
      refine kNe0 (a := 0) (by omega) (tgt := 24) hx hb dX1_count_19 (by decide) (fun c8 => ?_) (fun c8 => ?_)
      · skip
        exact absurd c8 (by decide)
      · skip
        refine lv_iconst (v := nI 0) hx hb dX1_count_22 (by decide) ?_
        exact (kReti hx hb hr hlocks dX1_count_23 (Nat.le_of_ble_eq_true rfl) (Nat.le_of_ble_eq_true rfl) hK hS hP hD ⟨_, _, _, _, Or.inr ⟨fun h => Int32.not_lt.mpr ((inR_le (n := 4) (by decide)).mp h).2 c1, rfl⟩⟩)
    · skip
      obtain ⟨q, hq, rfl⟩ : inR x 5 := (inR_le (n := 4) (by decide)).mpr ⟨c0, Int32.not_lt.mp c1⟩
      refine lv_iconst (v := nI 1) hx hb dX1_count_10 (by decide) ?_
      refine lv_goto (tgt := 15) hx hb dX1_count_11 (by decide) ?_
      refine lv_iconst (v := nI 1) hx hb dX1_count_15 (by decide) ?_
      refine cVi (wr := []) (As := [.int (nI 1), .int (nI 1)]) (rest := []) ⟨hx, hb, hml, hown, hts⟩ (pX1_goes l D k0 k1 k2 k3 k4 k5 k6 cI th F ca ow sl gl mn va ki ra 1 1 (by decide) (by decide)) (cwV 2 hts gX1_count_X1_goes rfl rfl rfl (by decide +kernel) ⟨(Nat.le_of_ble_eq_true rfl), (Nat.le_of_ble_eq_true rfl)⟩) hK hP hD hS hA [0, 1, 2, 3, 4, 5, 6] [] rfl rfl (by decide) (by decide) (by decide) 0 rfl rfl rfl hl.1 rfl (Nat.le_of_ble_eq_true rfl) dX1_count_16 ⟨(Nat.le_of_ble_eq_true rfl), (Nat.le_of_ble_eq_true rfl)⟩ (fun r u H locs hw hP hD hS => ?_)
      obtain ⟨rfl, rfl⟩ := hw
      have hP : va_P D kC (wM k0 k1 k2 k3 k4 k5 k6 cI (nI 0) (nI F) ca ow sl gl mn va ki ra) H := hP
      have hD : va_D A (wM k0 k1 k2 k3 k4 k5 k6 cI (nI 0) (nI F) ca ow sl gl mn va ki ra) := hD
      refine kTop (v' := nI 1) rfl ?_
      refine kNe0 (a := 1) (by omega) (tgt := 24) hx hb dX1_count_19 (by decide) (fun c8 => ?_) (fun c8 => ?_)
      · skip
        refine lv_aload_n hx hb dX1_count_24 rfl (lv_at hl 0 rfl) ?_
        refine cVv (wr := []) (As := []) (rest := []) ⟨hx, hb, hml, hown, hts⟩ (pX1_gather l D k0 k1 k2 k3 k4 k5 k6 cI (nI 0) F ca ow sl gl mn va ki ra hF) (cwV 0 hts gX1_count_X1_gather rfl rfl rfl (by decide +kernel) ⟨(Nat.le_of_ble_eq_true rfl), (Nat.le_of_ble_eq_true rfl)⟩) hK hP hD hS hA [0, 1, 2, 3, 4, 5, 6] [] rfl rfl (by decide) (by decide) (by decide) 0 rfl rfl rfl hl.1 rfl (Nat.le_of_ble_eq_true rfl) dX1_count_25 ⟨(Nat.le_of_ble_eq_true rfl), (Nat.le_of_ble_eq_true rfl)⟩ (fun u H locs hw hP hD hS => ?_)
        obtain ⟨va, rfl, hva⟩ := hw
        have hP : va_P D kC (wM k0 k1 k2 k3 k4 k5 k6 cI (nI 0) (nI F) ca ow sl gl (nI (ps (rowL ow sl gl F)).length) va ki ra) H := hP
        have hD : va_D A (wM k0 k1 k2 k3 k4 k5 k6 cI (nI 0) (nI F) ca ow sl gl (nI (ps (rowL ow sl gl F)).length) va ki ra) := hD
        have hpl := ps_le (rowL ow sl gl F)
        have hrl := rowL_le ow sl gl F
        refine lv_iconst (v := nI 0) hx hb dX1_count_28 (by decide) ?_
        refine lv_istore_n (lv' := [(2, .int (nI 0)), (0, .ref k0), (1, .int (nI q))]) hx hb dX1_count_29 rfl hl (by decide) rfl (fun ls hl => ?_)
        refine lv_iconst (v := nI 0) hx hb dX1_count_30 (by decide) ?_
        refine lv_istore_n (lv' := [(3, .int (nI 0)), (2, .int (nI 0)), (0, .ref k0), (1, .int (nI q))]) hx hb dX1_count_31 rfl hl (by decide) rfl (fun ls hl => ?_)
        refine kLoop (Q := fun i => ∀  (ls : Array Slot) (H : Heap) (locs : List Loc), va_P D kC (wM k0 k1 k2 k3 k4 k5 k6 cI (nI 0) (nI F) ca ow sl gl (nI (ps (rowL ow sl gl F)).length) va ki ra) H → va_D A (wM k0 k1 k2 k3 k4 k5 k6 cI (nI 0) (nI F) ca ow sl gl (nI (ps (rowL ow sl gl F)).length) va ki ra) → va_S A s.heap H locs → lv_has ls 4 [(0, .ref k0), (1, .int (nI q)), (2, .int (nI (mxN (cnts ow F) i))), (3, .int (nI i))] → W p l e r3 s m [.ref k0, .int (nI q)].toArray below meth c H locs 0 0 (MQ below (va_Qi (fun r u => ∃ (mn' : Int32) (va' ki' ra' : Nat → Int32), (u = wM k0 k1 k2 k3 k4 k5 k6 cI (nI 0) (nI F) ca ow sl gl mn' va' ki' ra' ∧ (((nI q) = 0 ∧ r = nI F) ∨ ((nI q) = 1 ∧ r = nI (ps (rowL ow sl gl F)).length) ∨ ((nI q) = 2 ∧ r = nI (mxN (cnts ow F) 4)) ∨ ((nI q) = 3 ∧ r = ca) ∨ ((nI q) = 4 ∧ r = nI (dd (ps (rowL ow sl gl F))).length))) ∨ (¬ inR (nI q) 5 ∧ u = wM k0 k1 k2 k3 k4 k5 k6 cI (nI 1) (nI F) ca ow sl gl mn' va' ki' ra')) (kB D (tI cI) A) A) [.ref k0, .int (nI q)].toArray s r3.cells r3.slots A) (F0 m 32 ls [])) (4) ?_ (0) (Nat.zero_le _)  ls _ _  hP hD hS (lv_sub hl [2, 3, 1, 0] rfl)
        intro i hi ih  ls H locs  hP hD hS hl
        have hmx : mxN (cnts ow F) i ≤ F := mxN_le (fun j _ => rw_count_le ow F (nI j))
        refine lv_iload_n hx hb dX1_count_32 rfl (lv_at hl 3 rfl) ?_
        refine lv_iconst (v := nI 4) hx hb dX1_count_33 (by decide) ?_
        refine kIge (a := i) (b := 4) (by omega) (by omega) (tgt := 62) hx hb dX1_count_34 (by decide) (fun c2 => ?_) (fun c2 => ?_)
        · skip
          have hi2 : i = 4 := by omega
          subst hi2
          refine lv_iload_n hx hb dX1_count_62 rfl (lv_at hl 1 rfl) ?_
          rcases (show q = 0 ∨ q = 1 ∨ q = 2 ∨ q = 3 ∨ q = 4 by omega) with rfl | rfl | rfl | rfl | rfl
          · skip
            refine lv_tableIn (tgt := 92) hx hb dX1_count_63 (by decide) (by decide) (off := 29) (by decide) (by decide) ?_
            refine lv_aload_n hx hb dX1_count_92 rfl (lv_at hl 0 rfl) ?_
            refine va_get (D := D) (ci := 1) (v := .int (nI F)) (C := RX1) (T := TX1) (N := 10) hx hb hts hin hown hK hP 0 rfl rfl 1 (by decide) (hts (.fieldLink RX1 7 "FrameRowModel" "frames" "I") (by decide +kernel)) (fun _ h9 => h9) rfl dX1_count_93 ?_
            exact (kReti hx hb hr hlocks dX1_count_96 (Nat.le_of_ble_eq_true rfl) (Nat.le_of_ble_eq_true rfl) hK hS hP hD ⟨_, _, _, _, Or.inl ⟨rfl, Or.inl ⟨rfl, rfl⟩⟩⟩)
          · skip
            refine lv_tableIn (tgt := 97) hx hb dX1_count_63 (by decide) (by decide) (off := 34) (by decide) (by decide) ?_
            refine lv_aload_n hx hb dX1_count_97 rfl (lv_at hl 0 rfl) ?_
            refine va_get (D := D) (ci := 1) (v := .int (nI ((ps (rowL ow sl gl F)).length))) (C := RX1) (T := TX1) (N := 10) hx hb hts hin hown hK hP 0 rfl rfl 6 (by decide) (hts (.fieldLink RX1 69 "FrameRowModel" "many" "I") (by decide +kernel)) (fun _ h9 => h9) rfl dX1_count_98 ?_
            exact (kReti hx hb hr hlocks dX1_count_101 (Nat.le_of_ble_eq_true rfl) (Nat.le_of_ble_eq_true rfl) hK hS hP hD ⟨_, _, _, _, Or.inl ⟨rfl, Or.inr (Or.inl ⟨rfl, rfl⟩)⟩⟩)
          · skip
            refine lv_tableIn (tgt := 102) hx hb dX1_count_63 (by decide) (by decide) (off := 39) (by decide) (by decide) ?_
            refine lv_iload_n hx hb dX1_count_102 rfl (lv_at hl 2 rfl) ?_
            exact (kReti hx hb hr hlocks dX1_count_103 (Nat.le_of_ble_eq_true rfl) (Nat.le_of_ble_eq_true rfl) hK hS hP hD ⟨_, _, _, _, Or.inl ⟨rfl, Or.inr (Or.inr (Or.inl ⟨rfl, rfl⟩))⟩⟩)
          · skip
            refine lv_tableIn (tgt := 104) hx hb dX1_count_63 (by decide) (by decide) (off := 41) (by decide) (by decide) ?_
            refine lv_aload_n hx hb dX1_count_104 rfl (lv_at hl 0 rfl) ?_
            refine va_get (D := D) (ci := 1) (v := .int ca) (C := RX1) (T := TX1) (N := 10) hx hb hts hin hown hK hP 0 rfl rfl 2 (by decide) (hts (.fieldLink RX1 48 "FrameRowModel" "calls" "I") (by decide +kernel)) (fun _ h9 => h9) rfl dX1_count_105 ?_
            exact (kReti hx hb hr hlocks dX1_count_108 (Nat.le_of_ble_eq_true rfl) (Nat.le_of_ble_eq_true rfl) hK hS hP hD ⟨_, _, _, _, Or.inl ⟨rfl, Or.inr (Or.inr (Or.inr (Or.inl ⟨rfl, rfl⟩)))⟩⟩)
          · skip
            refine lv_tableOut (tgt := 109) hx hb dX1_count_63 (by decide) (by decide) ?_
            refine lv_aload_n hx hb dX1_count_109 rfl (lv_at hl 0 rfl) ?_
            refine cVi (wr := []) (As := []) (rest := []) ⟨hx, hb, hml, hown, hts⟩ (pX1_findFirsts l D k0 k1 k2 k3 k4 k5 k6 cI (nI 0) F ca ow sl gl (nI (ps (rowL ow sl gl F)).length) va ki ra (ps (rowL ow sl gl F)) rfl hva (fun x hx => (ps_mem.mp hx).2) (by omega)) (cwV 0 hts gX1_count_X1_findFirsts rfl rfl rfl (by decide +kernel) ⟨(Nat.le_of_ble_eq_true rfl), (Nat.le_of_ble_eq_true rfl)⟩) hK hP hD hS hA [0, 1, 2, 3, 4, 5, 6] [] rfl rfl (by decide) (by decide) (by decide) 0 rfl rfl rfl hl.1 rfl (Nat.le_of_ble_eq_true rfl) dX1_count_110 ⟨(Nat.le_of_ble_eq_true rfl), (Nat.le_of_ble_eq_true rfl)⟩ (fun r u H locs hw hP hD hS => ?_)
            obtain ⟨rfl, ki, ra, rfl, hT⟩ := hw
            have hP : va_P D kC (wM k0 k1 k2 k3 k4 k5 k6 cI (nI 0) (nI F) ca ow sl gl (nI (ps (rowL ow sl gl F)).length) va ki ra) H := hP
            have hD : va_D A (wM k0 k1 k2 k3 k4 k5 k6 cI (nI 0) (nI F) ca ow sl gl (nI (ps (rowL ow sl gl F)).length) va ki ra) := hD
            exact (kReti hx hb hr hlocks dX1_count_113 (Nat.le_of_ble_eq_true rfl) (Nat.le_of_ble_eq_true rfl) hK hS hP hD ⟨_, _, _, _, Or.inl ⟨rfl, Or.inr (Or.inr (Or.inr (Or.inr ⟨rfl, rfl⟩)))⟩⟩)
        · skip
          have hcc : cnts ow F i ≤ F := rw_count_le ow F (nI i)
          refine lv_aload_n hx hb dX1_count_37 rfl (lv_at hl 0 rfl) ?_
          refine lv_iload_n hx hb dX1_count_38 rfl (lv_at hl 3 rfl) ?_
          refine cVi (wr := []) (As := [.int (nI i)]) (rest := []) ⟨hx, hb, hml, hown, hts⟩ (pX1_framesOf l D k0 k1 k2 k3 k4 k5 k6 cI (nI 0) F ca ow sl gl (nI (ps (rowL ow sl gl F)).length) va ki ra hF (nI i)) (cwV 1 hts gX1_count_X1_framesOf rfl rfl rfl (by decide +kernel) ⟨(Nat.le_of_ble_eq_true rfl), (Nat.le_of_ble_eq_true rfl)⟩) hK hP hD hS hA [0, 1, 2, 3, 4, 5, 6] [] rfl rfl (by decide) (by decide) (by decide) 0 rfl rfl rfl hl.1 rfl (Nat.le_of_ble_eq_true rfl) dX1_count_39 ⟨(Nat.le_of_ble_eq_true rfl), (Nat.le_of_ble_eq_true rfl)⟩ (fun r u H locs hw hP hD hS => ?_)
          obtain ⟨rfl, rfl⟩ := hw
          have hP : va_P D kC (wM k0 k1 k2 k3 k4 k5 k6 cI (nI 0) (nI F) ca ow sl gl (nI (ps (rowL ow sl gl F)).length) va ki ra) H := hP
          have hD : va_D A (wM k0 k1 k2 k3 k4 k5 k6 cI (nI 0) (nI F) ca ow sl gl (nI (ps (rowL ow sl gl F)).length) va ki ra) := hD
          refine kTop (v' := nI (cnts ow F i)) rfl ?_
          refine lv_iload_n hx hb dX1_count_42 rfl (lv_at hl 2 rfl) ?_
          refine kIle (a := cnts ow F i) (b := mxN (cnts ow F) i) (by omega) (by omega) (tgt := 54) hx hb dX1_count_43 (by decide) (fun c3 => ?_) (fun c3 => ?_)
          · skip
            refine lv_iload_n hx hb dX1_count_54 rfl (lv_at hl 2 rfl) ?_
            refine lv_istore_n (lv' := [(2, .int (nI (mxN (cnts ow F) i))), (0, .ref k0), (1, .int (nI q)), (3, .int (nI i))]) hx hb dX1_count_55 rfl hl (by decide) rfl (fun ls hl => ?_)
            refine lv_iinc (v := nI (i + 1)) (lv' := [(3, .int (nI (i + 1))), (2, .int (nI (mxN (cnts ow F) i))), (0, .ref k0), (1, .int (nI q))]) hx hb dX1_count_56 hl (k := 3) rfl (kInc1 _) (by decide) rfl (fun ls hl => ?_)
            refine lv_goto (tgt := 32) hx hb dX1_count_59 (by decide) ?_
            exact ih c2  ls _ _  hP hD hS (by have h := (lv_sub (l' := [(0, .ref k0), (1, .int (nI q)), (2, .int (nI (mxN (cnts ow F) i))), (3, .int (nI (i + 1)))]) hl [2, 3, 1, 0] rfl); rw [show mxN (cnts ow F) (i + 1) = mxN (cnts ow F) i from if_neg (by omega)]; exact h)
          · skip
            refine lv_aload_n hx hb dX1_count_46 rfl (lv_at hl 0 rfl) ?_
            refine lv_iload_n hx hb dX1_count_47 rfl (lv_at hl 3 rfl) ?_
            refine cVi (wr := []) (As := [.int (nI i)]) (rest := []) ⟨hx, hb, hml, hown, hts⟩ (pX1_framesOf l D k0 k1 k2 k3 k4 k5 k6 cI (nI 0) F ca ow sl gl (nI (ps (rowL ow sl gl F)).length) va ki ra hF (nI i)) (cwV 1 hts gX1_count_X1_framesOf rfl rfl rfl (by decide +kernel) ⟨(Nat.le_of_ble_eq_true rfl), (Nat.le_of_ble_eq_true rfl)⟩) hK hP hD hS hA [0, 1, 2, 3, 4, 5, 6] [] rfl rfl (by decide) (by decide) (by decide) 0 rfl rfl rfl hl.1 rfl (Nat.le_of_ble_eq_true rfl) dX1_count_48 ⟨(Nat.le_of_ble_eq_true rfl), (Nat.le_of_ble_eq_true rfl)⟩ (fun r u H locs hw hP hD hS => ?_)
            obtain ⟨rfl, rfl⟩ := hw
            have hP : va_P D kC (wM k0 k1 k2 k3 k4 k5 k6 cI (nI 0) (nI F) ca ow sl gl (nI (ps (rowL ow sl gl F)).length) va ki ra) H := hP
            have hD : va_D A (wM k0 k1 k2 k3 k4 k5 k6 cI (nI 0) (nI F) ca ow sl gl (nI (ps (rowL ow sl gl F)).length) va ki ra) := hD
            refine kTop (v' := nI (cnts ow F i)) rfl ?_
            refine lv_goto (tgt := 55) hx hb dX1_count_51 (by decide) ?_
            refine lv_istore_n (lv' := [(2, .int (nI (cnts ow F i))), (0, .ref k0), (1, .int (nI q)), (3, .int (nI i))]) hx hb dX1_count_55 rfl hl (by decide) rfl (fun ls hl => ?_)
            refine lv_iinc (v := nI (i + 1)) (lv' := [(3, .int (nI (i + 1))), (2, .int (nI (cnts ow F i))), (0, .ref k0), (1, .int (nI q))]) hx hb dX1_count_56 hl (k := 3) rfl (kInc1 _) (by decide) rfl (fun ls hl => ?_)
            refine lv_goto (tgt := 32) hx hb dX1_count_59 (by decide) ?_
            exact ih c2  ls _ _  hP hD hS (by have h := (lv_sub (l' := [(0, .ref k0), (1, .int (nI q)), (2, .int (nI (cnts ow F i))), (3, .int (nI (i + 1)))]) hl [2, 3, 1, 0] rfl); rw [show mxN (cnts ow F) (i + 1) = cnts ow F i from if_pos c3]; exact h)
      · skip
        exact absurd c8 (by decide)
