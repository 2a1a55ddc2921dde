section PUREB
theorem fl_start {f : Nat → Int32} {v : Int32} : (fun t => if t < 0 then v else f t) = f := by funext t; rw [if_neg (by omega)]
theorem fl_put {f : Nat → Int32} {i : Nat} {v : Int32} : upd (fun t => if t < i then v else f t) i v = (fun t => if t < i + 1 then v else f t) := by
  funext t
  by_cases h : t = i
  · subst h; rw [pk_us, if_pos (by omega)]
  · rw [pk_un h]
    by_cases h2 : t < i
    · rw [if_pos h2, if_pos (by omega)]
    · rw [if_neg h2, if_neg (by omega)]
theorem ft_start {f : Nat → Int32} {a : Nat} {v : Int32} : (fun t => if a ≤ t ∧ t < a then v else f t) = f := by funext t; rw [if_neg (by omega)]
theorem ft_put {f : Nat → Int32} {a i : Nat} {v : Int32} (h : a ≤ i) : upd (fun t => if a ≤ t ∧ t < i then v else f t) i v = (fun t => if a ≤ t ∧ t < i + 1 then v else f t) := by
  funext t
  by_cases h1 : t = i
  · subst h1; rw [pk_us, if_pos (by omega)]
  · rw [pk_un h1]
    by_cases h2 : a ≤ t ∧ t < i
    · rw [if_pos h2, if_pos (by omega)]
    · rw [if_neg h2, if_neg (by omega)]
/-- eight places of 0 put in at st -/
def insF (f : Nat → Int32) (st t : Nat) : Int32 := if t < st then f t else if t < st + 8 then 0 else f (t - 8)
/-- d places taken out at st -/
def delF (f : Nat → Int32) (st d t : Nat) : Int32 := if t < st then f t else f (t + d)
theorem ins_ok {f : Nat → Int32} {st L t : Nat} (hs : st ≤ L) (ht : t < L + 8) : (if st ≤ t ∧ t < st + 8 then nI 0 else va_cpy f f st (st + 8) (L - st) t) = insF f st t := by
  unfold insF
  by_cases h1 : t < st
  · rw [if_neg (by omega), if_pos h1, pk_cpy_out (by omega)]
  · rw [if_neg h1]
    by_cases h2 : t < st + 8
    · rw [if_pos (by omega), if_pos h2]; exact nI_0
    · rw [if_neg (by omega), if_neg h2, pk_cpy_in (by omega) (by omega)]
      congr 1; omega
theorem del_ok {f : Nat → Int32} {st en L t : Nat} (hs : st ≤ en) (he : en ≤ L) (ht : t < L - (en - st)) : va_cpy f f en st (L - en) t = delF f st (en - st) t := by
  unfold delF
  by_cases h1 : t < st
  · rw [if_pos h1, pk_cpy_out (by omega)]
  · rw [if_neg h1, pk_cpy_in (by omega) (by omega)]
    congr 1; omega
end PUREB
set_option maxHeartbeats 4000000 in
set_option maxRecDepth 100000 in
theorem pJ7_rangeCheck (l : Launch) (D : va_G) (cI : ClassId) (N a b : Nat) (hab : a ≤ b) (hbN : b ≤ N) (hN : N < 2147483648) : Mv l yJ7_rangeCheck_23922 wsJ7_rangeCheck_23922 r0 D (tI cI) [.int (nI N), .int (nI a), .int (nI b)] ([]) (fun u => u = []) := by
  refine Mv.of (cc := cJ7_rangeCheck_23922) (maxL := 3) (by decide +kernel) rfl (Nat.le_of_ble_eq_true rfl) ?_
  rintro p e s m below meth c ls A ⟨hx, hb, hr, hml, hts, hown, hlocks, hnm, hP, hK, hD, hA, hS, hl⟩
  have hown : s.vm.findClass RJ7 = some m.cls := hown
  have hl : lv_has ls 3 [(0, .int (nI N)), (1, .int (nI a)), (2, .int (nI b))] := hl
  refine lv_iload_n hx hb dJ7_rangeCheck_23922_0 rfl (lv_at hl 1 rfl) ?_
  refine lv_iload_n hx hb dJ7_rangeCheck_23922_1 rfl (lv_at hl 2 rfl) ?_
  refine kIle (a := a) (b := b) (by omega) (by omega) (tgt := 46) hx hb dJ7_rangeCheck_23922_2 (by decide) (fun c1 => ?_) (fun c1 => ?_)
  · skip
    refine lv_iload_n hx hb dJ7_rangeCheck_23922_46 rfl (lv_at hl 1 rfl) ?_
    refine lv_if_ge (tgt := 59) hx hb dJ7_rangeCheck_23922_47 (by decide) (fun c2 => ?_) (fun c2 => ?_)
    · skip
      refine lv_iload_n hx hb dJ7_rangeCheck_23922_59 rfl (lv_at hl 2 rfl) ?_
      refine lv_iload_n hx hb dJ7_rangeCheck_23922_60 rfl (lv_at hl 0 rfl) ?_
      refine kIle (a := b) (b := N) (by omega) (by omega) (tgt := 73) hx hb dJ7_rangeCheck_23922_61 (by decide) (fun c3 => ?_) (fun c3 => ?_)
      · skip
        exact (kRetv hx hb hr hlocks dJ7_rangeCheck_23922_73 (Nat.le_of_ble_eq_true rfl) (Nat.le_of_ble_eq_true rfl) hK hS hP hD rfl)
      · skip
        exact absurd c3 (by omega)
    · skip
      exact absurd (nI_pos' (n := a) (by omega)) c2
  · skip
    exact absurd c1 (by omega)

set_option maxHeartbeats 4000000 in
set_option maxRecDepth 100000 in
theorem pJ7_fill (l : Launch) (D : va_G) (cI : ClassId) (q N : Nat) (f : Nat → Int32) (v : Int32) (hN : N < 2147483648) : Mv l yJ7_fill_53178 wsJ7_fill_53178 r0 D (tI cI) [.ref q, .int v] ([(q, .inl (cI, N, .inl (f)))]) (fun u => u = [(q, .inl (cI, N, .inl (fun t => if t < N then v else f t)))]) := by
  refine Mv.of (cc := cJ7_fill_53178) (maxL := 4) (by decide +kernel) rfl (Nat.le_of_ble_eq_true rfl) ?_
  rintro p e s m below meth c ls A ⟨hx, hb, hr, hml, hts, hown, hlocks, hnm, hP, hK, hD, hA, hS, hl⟩
  have hown : s.vm.findClass RJ7 = some m.cls := hown
  have hl : lv_has ls 4 [(0, .ref q), (1, .int v)] := hl
  have hP : va_P D kC ([(q, .inl (cI, N, .inl (f)))]) s.heap := hP
  have hD : va_D A ([(q, .inl (cI, N, .inl (f)))]) := hD
  refine lv_iconst (v := nI 0) hx hb dJ7_fill_53178_0 (by decide) ?_
  refine lv_istore_n (lv' := [(2, .int (nI 0)), (0, .ref q), (1, .int v)]) hx hb dJ7_fill_53178_1 rfl hl (by decide) rfl (fun ls hl => ?_)
  refine lv_aload_n hx hb dJ7_fill_53178_2 rfl (lv_at hl 1 rfl) ?_
  refine va_alen hx hb hK hP 0 0 rfl rfl (v := nI N) rfl dJ7_fill_53178_3 ?_
  refine lv_istore_n (lv' := [(3, .int (nI N)), (2, .int (nI 0)), (0, .ref q), (1, .int v)]) hx hb dJ7_fill_53178_4 rfl hl (by decide) rfl (fun ls hl => ?_)
  have hP : va_P D kC ([(q, .inl (cI, N, .inl (fun t => if t < 0 then v else f t)))]) s.heap := by rw [fl_start]; exact hP
  have hD : va_D A ([(q, .inl (cI, N, .inl (fun t => if t < 0 then v else f t)))]) := by rw [fl_start]; exact hD
  refine kLoop (Q := fun i => ∀  (ls : Array Slot) (H : Heap) (locs : List Loc), va_P D kC ([(q, .inl (cI, N, .inl (fun t => if t < i then v else f t)))]) H → va_D A ([(q, .inl (cI, N, .inl (fun t => if t < i then v else f t)))]) → va_S A s.heap H locs → lv_has ls 4 [(0, .ref q), (1, .int v), (2, .int (nI i)), (3, .int (nI N))] → W p l e r0 s m [.ref q, .int v].toArray below meth c H locs 0 0 (MQ below (va_Qv (fun u => u = [(q, .inl (cI, N, .inl (fun t => if t < N then v else f t)))]) (kB D (tI cI) A) A) [.ref q, .int v].toArray s r0.cells r0.slots A) (F0 m 5 ls [])) (N) ?_ (0) (Nat.zero_le _)  ls _ _  hP hD hS (lv_sub hl [2, 3, 1, 0] rfl)
  intro i hi ih  ls H locs  hP hD hS hl
  refine lv_iload_n hx hb dJ7_fill_53178_5 rfl (lv_at hl 2 rfl) ?_
  refine lv_iload_n hx hb dJ7_fill_53178_6 rfl (lv_at hl 3 rfl) ?_
  refine kIge (a := i) (b := N) (by omega) (by omega) (tgt := 20) hx hb dJ7_fill_53178_7 (by decide) (fun c1 => ?_) (fun c1 => ?_)
  · skip
    have hi2 : i = N := by omega
    subst hi2
    exact (kRetv hx hb hr hlocks dJ7_fill_53178_20 (Nat.le_of_ble_eq_true rfl) (Nat.le_of_ble_eq_true rfl) hK hS hP hD rfl)
  · skip
    refine lv_aload_n hx hb dJ7_fill_53178_10 rfl (lv_at hl 0 rfl) ?_
    refine lv_iload_n hx hb dJ7_fill_53178_11 rfl (lv_at hl 2 rfl) ?_
    refine lv_iload_n hx hb dJ7_fill_53178_12 rfl (lv_at hl 1 rfl) ?_
    refine kSt hx hb hK hP hD hS 0 0 rfl rfl (j := i) (by omega) hN dJ7_fill_53178_13 (fun H locs hP hD hS => ?_)
    have hP : va_P D kC ([(q, .inl (cI, N, .inl (upd (fun t => if t < i then v else f t) i v)))]) H := hP
    have hD : va_D A ([(q, .inl (cI, N, .inl (upd (fun t => if t < i then v else f t) i v)))]) := hD
    rw [fl_put] at hP hD
    refine lv_iinc (v := nI (i + 1)) (lv' := [(2, .int (nI (i + 1))), (0, .ref q), (1, .int v), (3, .int (nI N))]) hx hb dJ7_fill_53178_14 hl (k := 2) rfl (kInc1 _) (by decide) rfl (fun ls hl => ?_)
    refine lv_goto (tgt := 5) hx hb dJ7_fill_53178_17 (by decide) ?_
    exact ih c1  ls _ _  hP hD hS (lv_sub (l' := [(0, .ref q), (1, .int v), (2, .int (nI (i + 1))), (3, .int (nI N))]) hl [1, 2, 0, 3] rfl)

set_option maxHeartbeats 4000000 in
set_option maxRecDepth 100000 in
theorem pJ7_fill3 (l : Launch) (D : va_G) (cI : ClassId) (q N : Nat) (f : Nat → Int32) (a b : Nat) (v : Int32) (hab : a ≤ b) (hbN : b ≤ N) (hN : N < 2147483648) : Mv l yJ7_fill_fda19 wsJ7_fill_fda19 r1 D (tI cI) [.ref q, .int (nI a), .int (nI b), .int v] ([(q, .inl (cI, N, .inl (f)))]) (fun u => u = [(q, .inl (cI, N, .inl (fun t => if a ≤ t ∧ t < b then v else f t)))]) := by
  refine Mv.of (cc := cJ7_fill_fda19) (maxL := 5) (by decide +kernel) rfl (Nat.le_of_ble_eq_true rfl) ?_
  rintro p e s m below meth c ls A ⟨hx, hb, hr, hml, hts, hown, hlocks, hnm, hP, hK, hD, hA, hS, hl⟩
  have hown : s.vm.findClass RJ7 = some m.cls := hown
  have hl : lv_has ls 5 [(0, .ref q), (1, .int (nI a)), (2, .int (nI b)), (3, .int v)] := hl
  have hP : va_P D kC ([(q, .inl (cI, N, .inl (f)))]) s.heap := hP
  have hD : va_D A ([(q, .inl (cI, N, .inl (f)))]) := hD
  refine lv_aload_n hx hb dJ7_fill_fda19_0 rfl (lv_at hl 0 rfl) ?_
  refine va_alen hx hb hK hP 0 0 rfl rfl (v := nI N) rfl dJ7_fill_fda19_1 ?_
  refine lv_iload_n hx hb dJ7_fill_fda19_2 rfl (lv_at hl 1 rfl) ?_
  refine lv_iload_n hx hb dJ7_fill_fda19_3 rfl (lv_at hl 2 rfl) ?_
  refine cSv (wr := [(q, .inl (cI, N, .inl (f)))]) (As := [.int (nI N), .int (nI a), .int (nI b)]) (rest := []) ⟨hx, hb, hml, hown, hts⟩ (pJ7_rangeCheck l D cI N a b hab hbN hN) (va_cwS 3 hts gJ7_fill_fda19_J7_rangeCheck_23922 rfl rfl rfl (by decide +kernel) ⟨(Nat.le_of_ble_eq_true rfl), (Nat.le_of_ble_eq_true rfl)⟩) hK hP hD hS hA [] [0] rfl rfl (by decide) (by decide) (by decide) rfl hl.1 rfl (Nat.le_of_ble_eq_true rfl) dJ7_fill_fda19_4 ⟨(Nat.le_of_ble_eq_true rfl), (Nat.le_of_ble_eq_true rfl)⟩ (fun u H locs hw hP hD hS => ?_)
  obtain rfl := hw
  have hP : va_P D kC ([(q, .inl (cI, N, .inl (f)))]) H := hP
  have hD : va_D A ([(q, .inl (cI, N, .inl (f)))]) := hD
  refine lv_iload_n hx hb dJ7_fill_fda19_7 rfl (lv_at hl 1 rfl) ?_
  refine lv_istore (lv' := [(4, .int (nI a)), (0, .ref q), (1, .int (nI a)), (2, .int (nI b)), (3, .int v)]) hx hb dJ7_fill_fda19_8 hl (by decide) rfl (fun ls hl => ?_)
  have hP : va_P D kC ([(q, .inl (cI, N, .inl (fun t => if a ≤ t ∧ t < a then v else f t)))]) H := by rw [ft_start]; exact hP
  have hD : va_D A ([(q, .inl (cI, N, .inl (fun t => if a ≤ t ∧ t < a then v else f t)))]) := by rw [ft_start]; exact hD
  refine kLoop (Q := fun i => ∀  (ls : Array Slot) (H : Heap) (locs : List Loc), a ≤ i → va_P D kC ([(q, .inl (cI, N, .inl (fun t => if a ≤ t ∧ t < i then v else f t)))]) H → va_D A ([(q, .inl (cI, N, .inl (fun t => if a ≤ t ∧ t < i then v else f t)))]) → va_S A s.heap H locs → lv_has ls 5 [(0, .ref q), (2, .int (nI b)), (3, .int v), (4, .int (nI i))] → W p l e r1 s m [.ref q, .int (nI a), .int (nI b), .int v].toArray below meth c H locs 0 0 (MQ below (va_Qv (fun u => u = [(q, .inl (cI, N, .inl (fun t => if a ≤ t ∧ t < b then v else f t)))]) (kB D (tI cI) A) A) [.ref q, .int (nI a), .int (nI b), .int v].toArray s r1.cells r1.slots A) (F0 m 10 ls [])) (b) ?_ (a) hab  ls _ _ (Nat.le_refl a) hP hD hS (lv_sub hl [1, 3, 4, 0] rfl)
  intro i hi ih  ls H locs hai hP hD hS hl
  refine lv_iload hx hb dJ7_fill_fda19_10 (lv_at hl 3 rfl) ?_
  refine lv_iload_n hx hb dJ7_fill_fda19_12 rfl (lv_at hl 1 rfl) ?_
  refine kIge (a := i) (b := b) (by omega) (by omega) (tgt := 27) hx hb dJ7_fill_fda19_13 (by decide) (fun c1 => ?_) (fun c1 => ?_)
  · skip
    have hi2 : i = b := by omega
    subst hi2
    exact (kRetv hx hb hr hlocks dJ7_fill_fda19_27 (Nat.le_of_ble_eq_true rfl) (Nat.le_of_ble_eq_true rfl) hK hS hP hD rfl)
  · skip
    refine lv_aload_n hx hb dJ7_fill_fda19_16 rfl (lv_at hl 0 rfl) ?_
    refine lv_iload hx hb dJ7_fill_fda19_17 (lv_at hl 3 rfl) ?_
    refine lv_iload_n hx hb dJ7_fill_fda19_19 rfl (lv_at hl 2 rfl) ?_
    refine kSt hx hb hK hP hD hS 0 0 rfl rfl (j := i) (by omega) hN dJ7_fill_fda19_20 (fun H locs hP hD hS => ?_)
    have hP : va_P D kC ([(q, .inl (cI, N, .inl (upd (fun t => if a ≤ t ∧ t < i then v else f t) i v)))]) H := hP
    have hD : va_D A ([(q, .inl (cI, N, .inl (upd (fun t => if a ≤ t ∧ t < i then v else f t) i v)))]) := hD
    rw [ft_put hai] at hP hD
    refine lv_iinc (v := nI (i + 1)) (lv' := [(4, .int (nI (i + 1))), (0, .ref q), (2, .int (nI b)), (3, .int v)]) hx hb dJ7_fill_fda19_21 hl (k := 3) rfl (kInc1 _) (by decide) rfl (fun ls hl => ?_)
    refine lv_goto (tgt := 10) hx hb dJ7_fill_fda19_24 (by decide) ?_
    exact ih c1  ls _ _ (by omega) hP hD hS (lv_sub (l' := [(0, .ref q), (2, .int (nI b)), (3, .int v), (4, .int (nI (i + 1)))]) hl [1, 2, 3, 0] rfl)

set_option maxHeartbeats 4000000 in
set_option maxRecDepth 100000 in
theorem pX0_addFrame (l : Launch) (D : va_G) (h0 h1 h2 : Nat) (cI : ClassId) (f g : Nat → Int32) (L : Nat) (ca : Int32) (n : Nat → Nat) (hok : okC g n) (hlen : L = lenN n) (mu : Nat) (hmu : mu < 4) (hL8 : L + 8 ≤ 2064) : Mv l yX0_addFrame wsX0_addFrame r2 D (tI cI) [.ref h0, .int (nI mu)] (wX h0 h1 h2 cI f g (nI L) ca) (fun u => ∃ f' : Nat → Int32, u = wX h0 h1 h2 cI f' (upd g mu (nI (n mu + 1))) (nI (L + 8)) ca ∧ ∀ t, t < L + 8 → f' t = insF f (8 * (n mu + sN n mu)) t) := by
  refine Mv.of (cc := cX0_addFrame) (maxL := 3) (by decide +kernel) rfl (Nat.le_of_ble_eq_true rfl) ?_
  rintro p e s m below meth c ls A ⟨hx, hb, hr, hml, hts, hown, hlocks, hnm, hP, hK, hD, hA, hS, hl⟩
  have hown : s.vm.findClass RX0 = some m.cls := hown
  have hl : lv_has ls 3 [(0, .ref h0), (1, .int (nI mu))] := hl
  have hin : ∀ w ∈ wsX00, w ∈ wsX0_addFrame := by decide +kernel
  have hP : va_P D kC (wX h0 h1 h2 cI f g (nI L) ca) s.heap := hP
  have hD : va_D A (wX h0 h1 h2 cI f g (nI L) ca) := hD
  have hm := hok.2 mu hmu
  have hmo := sN_mono (n := n) hmu
  refine lv_aload_n hx hb dX0_addFrame_0 rfl (lv_at hl 0 rfl) ?_
  refine lv_iload_n hx hb dX0_addFrame_1 rfl (lv_at hl 1 rfl) ?_
  refine lv_aload_n hx hb dX0_addFrame_2 rfl (lv_at hl 0 rfl) ?_
  refine va_get (D := D) (ci := 0) (v := .ref h2) (C := RX0) (T := TX0) (N := 4) hx hb hts hin hown hK hP 0 rfl rfl 1 (by decide) (hts (.fieldLink RX0 13 "FrameRow" "frameCounts" "[I") (by decide +kernel)) (fun _ h9 => h9) rfl dX0_addFrame_3 ?_
  refine lv_iload_n hx hb dX0_addFrame_6 rfl (lv_at hl 1 rfl) ?_
  refine kLd hx hb hK hP 2 0 rfl rfl (j := mu) (by omega) (by decide) dX0_addFrame_7 ?_
  refine kTop (v' := nI (n mu)) (hok.1 mu hmu) ?_
  refine cVi (wr := []) (As := [.int (nI mu), .int (nI (n mu))]) (rest := []) ⟨hx, hb, hml, hown, hts⟩ (pX0_startOfFrame l D h0 h1 h2 cI f g L ca n hok mu (n mu) hmu (by omega)) (cwV 2 hts gX0_addFrame_X0_startOfFrame rfl rfl rfl (by decide +kernel) ⟨(Nat.le_of_ble_eq_true rfl), (Nat.le_of_ble_eq_true rfl)⟩) hK hP hD hS hA [0, 1, 2] [] rfl rfl (by decide) (by decide) (by decide) 0 rfl rfl rfl hl.1 rfl (Nat.le_of_ble_eq_true rfl) dX0_addFrame_8 ⟨(Nat.le_of_ble_eq_true rfl), (Nat.le_of_ble_eq_true rfl)⟩ (fun r u H locs hw hP hD hS => ?_)
  obtain ⟨rfl, rfl⟩ := hw
  have hP : va_P D kC (wX h0 h1 h2 cI f g (nI L) ca) H := hP
  have hD : va_D A (wX h0 h1 h2 cI f g (nI L) ca) := hD
  obtain ⟨st, hst⟩ : ∃ st, st = 8 * (n mu + sN n mu) := ⟨_, rfl⟩
  rw [← hst]
  have hstL : st ≤ L := by rw [hlen, hst]; unfold lenN; omega
  refine lv_istore_n (lv' := [(2, .int (nI st)), (0, .ref h0), (1, .int (nI mu))]) hx hb dX0_addFrame_11 rfl hl (by decide) rfl (fun ls hl => ?_)
  refine lv_aload_n hx hb dX0_addFrame_12 rfl (lv_at hl 1 rfl) ?_
  refine va_get (D := D) (ci := 0) (v := .ref h1) (C := RX0) (T := TX0) (N := 4) hx hb hts hin hown hK hP 0 rfl rfl 0 (by decide) (hts (.fieldLink RX0 9 "FrameRow" "row" "[I") (by decide +kernel)) (fun _ h9 => h9) rfl dX0_addFrame_13 ?_
  refine lv_iload_n hx hb dX0_addFrame_16 rfl (lv_at hl 0 rfl) ?_
  refine lv_aload_n hx hb dX0_addFrame_17 rfl (lv_at hl 1 rfl) ?_
  refine va_get (D := D) (ci := 0) (v := .ref h1) (C := RX0) (T := TX0) (N := 4) hx hb hts hin hown hK hP 0 rfl rfl 0 (by decide) (hts (.fieldLink RX0 9 "FrameRow" "row" "[I") (by decide +kernel)) (fun _ h9 => h9) rfl dX0_addFrame_18 ?_
  refine lv_iload_n hx hb dX0_addFrame_21 rfl (lv_at hl 0 rfl) ?_
  refine lv_bipush (v := nI 8) hx hb dX0_addFrame_22 (by decide) ?_
  refine kAdd hx hb dX0_addFrame_24 ?_
  refine lv_aload_n hx hb dX0_addFrame_25 rfl (lv_at hl 1 rfl) ?_
  refine va_get (D := D) (ci := 0) (v := .int (nI L)) (C := RX0) (T := TX0) (N := 4) hx hb hts hin hown hK hP 0 rfl rfl 2 (by decide) (hts (.fieldLink RX0 22 "FrameRow" "length" "I") (by decide +kernel)) (fun _ h9 => h9) rfl dX0_addFrame_26 ?_
  refine lv_iload_n hx hb dX0_addFrame_29 rfl (lv_at hl 0 rfl) ?_
  refine kSub (by omega) hx hb dX0_addFrame_30 ?_
  refine kCopy hx hb (hml.trans hl.1.symm) hown hts (by decide +kernel) (by decide +kernel) (by decide +kernel) (by decide +kernel) hK hP hD hS 1 0 rfl rfl (by omega) (by omega) (by decide) (Nat.le_of_ble_eq_true rfl) (by decide +kernel) dX0_addFrame_31 (fun H locs hP hD hS => ?_)
  have hP : va_P D kC (wX h0 h1 h2 cI (va_cpy f f (st) (st + 8) (L - st)) g (nI L) ca) H := hP
  have hD : va_D A (wX h0 h1 h2 cI (va_cpy f f (st) (st + 8) (L - st)) g (nI L) ca) := hD
  refine lv_aload_n hx hb dX0_addFrame_34 rfl (lv_at hl 1 rfl) ?_
  refine va_get (D := D) (ci := 0) (v := .ref h1) (C := RX0) (T := TX0) (N := 4) hx hb hts hin hown hK hP 0 rfl rfl 0 (by decide) (hts (.fieldLink RX0 9 "FrameRow" "row" "[I") (by decide +kernel)) (fun _ h9 => h9) rfl dX0_addFrame_35 ?_
  refine lv_iload_n hx hb dX0_addFrame_38 rfl (lv_at hl 0 rfl) ?_
  refine lv_iload_n hx hb dX0_addFrame_39 rfl (lv_at hl 0 rfl) ?_
  refine lv_bipush (v := nI 8) hx hb dX0_addFrame_40 (by decide) ?_
  refine kAdd hx hb dX0_addFrame_42 ?_
  refine lv_iconst (v := nI 0) hx hb dX0_addFrame_43 (by decide) ?_
  refine cSv (wr := [(h0, .inr (0, [.ref h1, .ref h2, .int (nI L), .int ca])), (h2, .inl (cI, 4, .inl g))]) (As := [.ref h1, .int (nI st), .int (nI (st + 8)), .int (nI 0)]) (rest := []) ⟨hx, hb, hml, hown, hts⟩ (pJ7_fill3 l D cI h1 2064 (va_cpy f f st (st + 8) (L - st)) st (st + 8) (nI 0) (by omega) (by omega) (by decide)) (va_cwS 4 hts gX0_addFrame_J7_fill_fda19 rfl rfl rfl (by decide +kernel) ⟨(Nat.le_of_ble_eq_true rfl), (Nat.le_of_ble_eq_true rfl)⟩) hK hP hD hS hA [1] [0, 2] rfl rfl (by decide) (by decide) (by decide) rfl hl.1 rfl (Nat.le_of_ble_eq_true rfl) dX0_addFrame_44 ⟨(Nat.le_of_ble_eq_true rfl), (Nat.le_of_ble_eq_true rfl)⟩ (fun u H locs hw hP hD hS => ?_)
  obtain rfl := hw
  have hP := hP.sub (ws' := wX h0 h1 h2 cI (fun t => if st ≤ t ∧ t < st + 8 then nI 0 else va_cpy f f st (st + 8) (L - st) t) g (nI L) ca) [0, 2, 1] rfl
  have hD := hD.sub (ws' := wX h0 h1 h2 cI (fun t => if st ≤ t ∧ t < st + 8 then nI 0 else va_cpy f f st (st + 8) (L - st) t) g (nI L) ca) [0, 2, 1] (by decide) rfl
  refine lv_aload_n hx hb dX0_addFrame_47 rfl (lv_at hl 1 rfl) ?_
  refine lv_dup hx hb dX0_addFrame_48 rfl ?_
  refine va_get (D := D) (ci := 0) (v := .int (nI L)) (C := RX0) (T := TX0) (N := 4) hx hb hts hin hown hK hP 0 rfl rfl 2 (by decide) (hts (.fieldLink RX0 22 "FrameRow" "length" "I") (by decide +kernel)) (fun _ h9 => h9) rfl dX0_addFrame_49 ?_
  refine lv_bipush (v := nI 8) hx hb dX0_addFrame_52 (by decide) ?_
  refine kAdd hx hb dX0_addFrame_54 ?_
  refine va_put (D := D) (ci := 0) (v := .int (nI (L + 8))) (ty := .int) (C := RX0) (T := TX0) (N := 4) hx hb hts hin tyX0 tyX0_ok nmX0 hown hK hP hD hS 0 rfl rfl 2 (by decide) (hts (.fieldLink RX0 22 "FrameRow" "length" "I") (by decide +kernel)) (fun _ h9 => h9) rfl (by decide +kernel) rfl rfl (Nat.le_of_ble_eq_true rfl) dX0_addFrame_55 (fun H locs hP hD hS => ?_)
  have hP : va_P D kC (wX h0 h1 h2 cI (fun t => if st ≤ t ∧ t < st + 8 then nI 0 else va_cpy f f st (st + 8) (L - st) t) g (nI (L + 8)) ca) H := hP
  have hD : va_D A (wX h0 h1 h2 cI (fun t => if st ≤ t ∧ t < st + 8 then nI 0 else va_cpy f f st (st + 8) (L - st) t) g (nI (L + 8)) ca) := hD
  refine lv_aload_n hx hb dX0_addFrame_58 rfl (lv_at hl 1 rfl) ?_
  refine va_get (D := D) (ci := 0) (v := .ref h2) (C := RX0) (T := TX0) (N := 4) hx hb hts hin hown hK hP 0 rfl rfl 1 (by decide) (hts (.fieldLink RX0 13 "FrameRow" "frameCounts" "[I") (by decide +kernel)) (fun _ h9 => h9) rfl dX0_addFrame_59 ?_
  refine lv_iload_n hx hb dX0_addFrame_62 rfl (lv_at hl 2 rfl) ?_
  refine lv_dup2_11 hx hb dX0_addFrame_63 rfl rfl ?_
  refine kLd hx hb hK hP 2 0 rfl rfl (j := mu) (by omega) (by decide) dX0_addFrame_64 ?_
  refine kTop (v' := nI (n mu)) (hok.1 mu hmu) ?_
  refine lv_iconst (v := nI 1) hx hb dX0_addFrame_65 (by decide) ?_
  refine kAdd hx hb dX0_addFrame_66 ?_
  refine kSt hx hb hK hP hD hS 2 0 rfl rfl (j := mu) (by omega) (by decide) dX0_addFrame_67 (fun H locs hP hD hS => ?_)
  have hP : va_P D kC (wX h0 h1 h2 cI (fun t => if st ≤ t ∧ t < st + 8 then nI 0 else va_cpy f f st (st + 8) (L - st) t) (upd g mu (nI ((n mu) + 1))) (nI (L + 8)) ca) H := hP
  have hD : va_D A (wX h0 h1 h2 cI (fun t => if st ≤ t ∧ t < st + 8 then nI 0 else va_cpy f f st (st + 8) (L - st) t) (upd g mu (nI ((n mu) + 1))) (nI (L + 8)) ca) := hD
  exact (kRetv hx hb hr hlocks dX0_addFrame_68 (Nat.le_of_ble_eq_true rfl) (Nat.le_of_ble_eq_true rfl) hK hS hP hD ⟨_, rfl, fun t ht => ins_ok hstL ht⟩)

set_option maxHeartbeats 4000000 in
set_option maxRecDepth 100000 in
theorem pX0_dropFrames (l : Launch) (D : va_G) (h0 h1 h2 : Nat) (cI : ClassId) (f g : Nat → Int32) (L : Nat) (ca : Int32) (n : Nat → Nat) (hok : okC g n) (hlen : L = lenN n) (mu lf : Nat) (hmu : mu < 4) (hlf : lf ≤ n mu) : Mv l yX0_dropFrames wsX0_dropFrames r2 D (tI cI) [.ref h0, .int (nI mu), .int (nI lf)] (wX h0 h1 h2 cI f g (nI L) ca) (fun u => ∃ f' : Nat → Int32, u = wX h0 h1 h2 cI f' (upd g mu (nI lf)) (nI (L - 8 * (n mu - lf))) ca ∧ ∀ t, t < L - 8 * (n mu - lf) → f' t = delF f (8 * (lf + sN n mu)) (8 * (n mu - lf)) t) := by
  refine Mv.of (cc := cX0_dropFrames) (maxL := 5) (by decide +kernel) rfl (Nat.le_of_ble_eq_true rfl) ?_
  rintro p e s m below meth c ls A ⟨hx, hb, hr, hml, hts, hown, hlocks, hnm, hP, hK, hD, hA, hS, hl⟩
  have hown : s.vm.findClass RX0 = some m.cls := hown
  have hl : lv_has ls 5 [(0, .ref h0), (1, .int (nI mu)), (2, .int (nI lf))] := hl
  have hin : ∀ w ∈ wsX00, w ∈ wsX0_dropFrames := by decide +kernel
  have hP : va_P D kC (wX h0 h1 h2 cI f g (nI L) ca) s.heap := hP
  have hD : va_D A (wX h0 h1 h2 cI f g (nI L) ca) := hD
  have hm := hok.2 mu hmu
  have hmo := sN_mono (n := n) hmu
  have hle := hok.le
  refine lv_aload_n hx hb dX0_dropFrames_0 rfl (lv_at hl 0 rfl) ?_
  refine lv_iload_n hx hb dX0_dropFrames_1 rfl (lv_at hl 1 rfl) ?_
  refine lv_iload_n hx hb dX0_dropFrames_2 rfl (lv_at hl 2 rfl) ?_
  refine cVi (wr := []) (As := [.int (nI mu), .int (nI lf)]) (rest := []) ⟨hx, hb, hml, hown, hts⟩ (pX0_startOfFrame l D h0 h1 h2 cI f g L ca n hok mu lf hmu (by omega)) (cwV 2 hts gX0_dropFrames_X0_startOfFrame rfl rfl rfl (by decide +kernel) ⟨(Nat.le_of_ble_eq_true rfl), (Nat.le_of_ble_eq_true rfl)⟩) hK hP hD hS hA [0, 1, 2] [] rfl rfl (by decide) (by decide) (by decide) 0 rfl rfl rfl hl.1 rfl (Nat.le_of_ble_eq_true rfl) dX0_dropFrames_3 ⟨(Nat.le_of_ble_eq_true rfl), (Nat.le_of_ble_eq_true rfl)⟩ (fun r u H locs hw hP hD hS => ?_)
  obtain ⟨rfl, rfl⟩ := hw
  have hP : va_P D kC (wX h0 h1 h2 cI f g (nI L) ca) H := hP
  have hD : va_D A (wX h0 h1 h2 cI f g (nI L) ca) := hD
  obtain ⟨st, hst⟩ : ∃ st, st = 8 * (lf + sN n mu) := ⟨_, rfl⟩
  rw [← hst]
  refine lv_istore_n (lv' := [(3, .int (nI st)), (0, .ref h0), (1, .int (nI mu)), (2, .int (nI lf))]) hx hb dX0_dropFrames_6 rfl hl (by decide) rfl (fun ls hl => ?_)
  refine lv_aload_n hx hb dX0_dropFrames_7 rfl (lv_at hl 1 rfl) ?_
  refine lv_iload_n hx hb dX0_dropFrames_8 rfl (lv_at hl 2 rfl) ?_
  refine lv_aload_n hx hb dX0_dropFrames_9 rfl (lv_at hl 1 rfl) ?_
  refine va_get (D := D) (ci := 0) (v := .ref h2) (C := RX0) (T := TX0) (N := 4) hx hb hts hin hown hK hP 0 rfl rfl 1 (by decide) (hts (.fieldLink RX0 13 "FrameRow" "frameCounts" "[I") (by decide +kernel)) (fun _ h9 => h9) rfl dX0_dropFrames_10 ?_
  refine lv_iload_n hx hb dX0_dropFrames_13 rfl (lv_at hl 2 rfl) ?_
  refine kLd hx hb hK hP 2 0 rfl rfl (j := mu) (by omega) (by decide) dX0_dropFrames_14 ?_
  refine kTop (v' := nI (n mu)) (hok.1 mu hmu) ?_
  refine cVi (wr := []) (As := [.int (nI mu), .int (nI (n mu))]) (rest := []) ⟨hx, hb, hml, hown, hts⟩ (pX0_startOfFrame l D h0 h1 h2 cI f g L ca n hok mu (n mu) hmu (by omega)) (cwV 2 hts gX0_dropFrames_X0_startOfFrame rfl rfl rfl (by decide +kernel) ⟨(Nat.le_of_ble_eq_true rfl), (Nat.le_of_ble_eq_true rfl)⟩) hK hP hD hS hA [0, 1, 2] [] rfl rfl (by decide) (by decide) (by decide) 0 rfl rfl rfl hl.1 rfl (Nat.le_of_ble_eq_true rfl) dX0_dropFrames_15 ⟨(Nat.le_of_ble_eq_true rfl), (Nat.le_of_ble_eq_true rfl)⟩ (fun r u H locs hw hP hD hS => ?_)
  obtain ⟨rfl, rfl⟩ := hw
  have hP : va_P D kC (wX h0 h1 h2 cI f g (nI L) ca) H := hP
  have hD : va_D A (wX h0 h1 h2 cI f g (nI L) ca) := hD
  obtain ⟨en, hen⟩ : ∃ en, en = 8 * (n mu + sN n mu) := ⟨_, rfl⟩
  rw [← hen]
  have hL0 : L = 8 * sN n 4 + 16 := hlen
  have hd9 : en - st = 8 * (n mu - lf) := by omega
  refine lv_istore (lv' := [(4, .int (nI en)), (3, .int (nI st)), (0, .ref h0), (1, .int (nI mu)), (2, .int (nI lf))]) hx hb dX0_dropFrames_18 hl (by decide) rfl (fun ls hl => ?_)
  refine lv_aload_n hx hb dX0_dropFrames_20 rfl (lv_at hl 2 rfl) ?_
  refine va_get (D := D) (ci := 0) (v := .ref h1) (C := RX0) (T := TX0) (N := 4) hx hb hts hin hown hK hP 0 rfl rfl 0 (by decide) (hts (.fieldLink RX0 9 "FrameRow" "row" "[I") (by decide +kernel)) (fun _ h9 => h9) rfl dX0_dropFrames_21 ?_
  refine lv_iload hx hb dX0_dropFrames_24 (lv_at hl 0 rfl) ?_
  refine lv_aload_n hx hb dX0_dropFrames_26 rfl (lv_at hl 2 rfl) ?_
  refine va_get (D := D) (ci := 0) (v := .ref h1) (C := RX0) (T := TX0) (N := 4) hx hb hts hin hown hK hP 0 rfl rfl 0 (by decide) (hts (.fieldLink RX0 9 "FrameRow" "row" "[I") (by decide +kernel)) (fun _ h9 => h9) rfl dX0_dropFrames_27 ?_
  refine lv_iload_n hx hb dX0_dropFrames_30 rfl (lv_at hl 1 rfl) ?_
  refine lv_aload_n hx hb dX0_dropFrames_31 rfl (lv_at hl 2 rfl) ?_
  refine va_get (D := D) (ci := 0) (v := .int (nI L)) (C := RX0) (T := TX0) (N := 4) hx hb hts hin hown hK hP 0 rfl rfl 2 (by decide) (hts (.fieldLink RX0 22 "FrameRow" "length" "I") (by decide +kernel)) (fun _ h9 => h9) rfl dX0_dropFrames_32 ?_
  refine lv_iload hx hb dX0_dropFrames_35 (lv_at hl 0 rfl) ?_
  refine kSub (by omega) hx hb dX0_dropFrames_37 ?_
  refine kCopy hx hb (hml.trans hl.1.symm) hown hts (by decide +kernel) (by decide +kernel) (by decide +kernel) (by decide +kernel) hK hP hD hS 1 0 rfl rfl (by omega) (by omega) (by decide) (Nat.le_of_ble_eq_true rfl) (by decide +kernel) dX0_dropFrames_38 (fun H locs hP hD hS => ?_)
  have hP : va_P D kC (wX h0 h1 h2 cI (va_cpy f f (en) (st) (L - en)) g (nI L) ca) H := hP
  have hD : va_D A (wX h0 h1 h2 cI (va_cpy f f (en) (st) (L - en)) g (nI L) ca) := hD
  refine lv_aload_n hx hb dX0_dropFrames_41 rfl (lv_at hl 2 rfl) ?_
  refine lv_dup hx hb dX0_dropFrames_42 rfl ?_
  refine va_get (D := D) (ci := 0) (v := .int (nI L)) (C := RX0) (T := TX0) (N := 4) hx hb hts hin hown hK hP 0 rfl rfl 2 (by decide) (hts (.fieldLink RX0 22 "FrameRow" "length" "I") (by decide +kernel)) (fun _ h9 => h9) rfl dX0_dropFrames_43 ?_
  refine lv_iload hx hb dX0_dropFrames_46 (lv_at hl 0 rfl) ?_
  refine lv_iload_n hx hb dX0_dropFrames_48 rfl (lv_at hl 1 rfl) ?_
  refine kSub (by omega) hx hb dX0_dropFrames_49 ?_
  refine kSub (by omega) hx hb dX0_dropFrames_50 ?_
  refine va_put (D := D) (ci := 0) (v := .int (nI (L - (en - st)))) (ty := .int) (C := RX0) (T := TX0) (N := 4) hx hb hts hin tyX0 tyX0_ok nmX0 hown hK hP hD hS 0 rfl rfl 2 (by decide) (hts (.fieldLink RX0 22 "FrameRow" "length" "I") (by decide +kernel)) (fun _ h9 => h9) rfl (by decide +kernel) rfl rfl (Nat.le_of_ble_eq_true rfl) dX0_dropFrames_51 (fun H locs hP hD hS => ?_)
  have hP : va_P D kC (wX h0 h1 h2 cI (va_cpy f f (en) (st) (L - en)) g (nI (L - (en - st))) ca) H := hP
  have hD : va_D A (wX h0 h1 h2 cI (va_cpy f f (en) (st) (L - en)) g (nI (L - (en - st))) ca) := hD
  refine lv_aload_n hx hb dX0_dropFrames_54 rfl (lv_at hl 2 rfl) ?_
  refine va_get (D := D) (ci := 0) (v := .ref h2) (C := RX0) (T := TX0) (N := 4) hx hb hts hin hown hK hP 0 rfl rfl 1 (by decide) (hts (.fieldLink RX0 13 "FrameRow" "frameCounts" "[I") (by decide +kernel)) (fun _ h9 => h9) rfl dX0_dropFrames_55 ?_
  refine lv_iload_n hx hb dX0_dropFrames_58 rfl (lv_at hl 3 rfl) ?_
  refine lv_iload_n hx hb dX0_dropFrames_59 rfl (lv_at hl 4 rfl) ?_
  refine kSt hx hb hK hP hD hS 2 0 rfl rfl (j := mu) (by omega) (by decide) dX0_dropFrames_60 (fun H locs hP hD hS => ?_)
  have hP : va_P D kC (wX h0 h1 h2 cI (va_cpy f f (en) (st) (L - en)) (upd g mu (nI lf)) (nI (L - (en - st))) ca) H := hP
  have hD : va_D A (wX h0 h1 h2 cI (va_cpy f f (en) (st) (L - en)) (upd g mu (nI lf)) (nI (L - (en - st))) ca) := hD
  rw [hd9] at hP hD
  exact (kRetv hx hb hr hlocks dX0_dropFrames_61 (Nat.le_of_ble_eq_true rfl) (Nat.le_of_ble_eq_true rfl) hK hS hP hD ⟨_, rfl, fun t ht => by rw [← hd9]; rw [← hd9] at ht; exact del_ok (by omega) (by omega) ht⟩)
