abbrev tIL (cI cL : ClassId) : List (ClassId × FieldType) := [(cI, .int), (cL, .long)]
def fPost_call (h0 h1 h2 : Nat) (cI : ClassId) (f g : Nat → Int32) (L : Nat) (ca : Int32) (n : Nat → Nat) (x : Int32) : Int32 → va_W → Prop := fun r u => ∃ mu, mu < 4 ∧ x = nI mu ∧ n mu < 64 ∧ r = nI (n mu + 1) ∧ ∃ f' : Nat → Int32, u = wX h0 h1 h2 cI f' (upd g mu (nI (n mu + 1))) (nI (L + 8)) (ca + nI 1) ∧ ∀ t, t < L + 8 → f' t = insF f (8 * (n mu + sN n mu)) t
def fPx_call (h0 h1 h2 : Nat) (cI : ClassId) (f g : Nat → Int32) (L : Nat) (ca : Int32) (n : Nat → Nat) (x : Int32) : String → va_W → Prop := fun E u => u = wX h0 h1 h2 cI f g (nI L) ca ∧ ((E = "java/util/NoSuchElementException" ∧ ¬ inR x 4) ∨ (E = "java/lang/IllegalStateException" ∧ ∃ mu, mu < 4 ∧ x = nI mu ∧ n mu = 64))
set_option maxHeartbeats 4000000 in
set_option maxRecDepth 100000 in
theorem pL_call (l : Launch) (htr : l.stackTraces = false) (D : va_G) (h0 h1 h2 o : Nat) (cI cL : ClassId) (f g : Nat → Int32) (L : Nat) (ca : Int32) (v : Nat → Int64) (n : Nat → Nat) (hok : okC g n) (hlen : L = lenN n) (x : Int32) : Xi l yL_call wsL_call x3 D (tIL cI cL) [.ref h0, .int x, .ref o] (wX h0 h1 h2 cI f g (nI L) ca ++ [(o, .inl (cL, 1, .inr (.inl (v))))]) (fun r u => (∃ r9 u9, fPost_call h0 h1 h2 cI f g L ca n x r9 u9 ∧ r = nI 0 ∧ u = (o, .inl (cL, 1, .inr (.inl (vp_updL v 0 r9.toInt64)))) :: u9) ∨ (∃ u9, fPx_call h0 h1 h2 cI f g L ca n x "java/util/NoSuchElementException" u9 ∧ r = nI 1 ∧ u = (o, .inl (cL, 1, .inr (.inl (v)))) :: u9) ∨ (∃ u9, fPx_call h0 h1 h2 cI f g L ca n x "java/lang/IllegalStateException" u9 ∧ r = nI 2 ∧ u = (o, .inl (cL, 1, .inr (.inl (v)))) :: u9)) (fun _ _ => False) := by
  refine Mi.ofT (cc := cL_call) (maxL := 4) (by decide +kernel) rfl (Nat.le_of_ble_eq_true rfl) ?_
  rintro p e s m below meth c ls A ⟨hx, hb, hr, hml, hts, hown, hlocks, hnm, hP, hK, hD, hA, hS, hl⟩ hZ hno
  have hown : s.vm.findClass RL = some m.cls := hown
  have hl : lv_has ls 4 [(0, .ref h0), (1, .int x), (2, .ref o)] := hl
  have hP : va_P D kC (wX h0 h1 h2 cI f g (nI L) ca ++ [(o, .inl (cL, 1, .inr (.inl (v))))]) s.heap := hP
  have hD : va_D A (wX h0 h1 h2 cI f g (nI L) ca ++ [(o, .inl (cL, 1, .inr (.inl (v))))]) := hD
  have hP : va_P D kC (wX h0 h1 h2 cI f g (nI L) ca ++ [(o, .inl (cL, 1, .inr (.inl (v))))]) s.heap := hP
  have hD : va_D A (wX h0 h1 h2 cI f g (nI L) ca ++ [(o, .inl (cL, 1, .inr (.inl (v))))]) := hD
  refine lv_aload_n hx hb dL_call_0 rfl (lv_at hl 2 rfl) ?_
  refine lv_iconst (v := nI 0) hx hb dL_call_1 (by decide) ?_
  refine lv_aload_n hx hb dL_call_2 rfl (lv_at hl 0 rfl) ?_
  refine lv_iload_n hx hb dL_call_3 rfl (lv_at hl 1 rfl) ?_
  refine xVi (wr := [(o, .inl (cL, 1, .inr (.inl (v))))]) (As := [.int x]) (rest := [.int (nI 0), .ref o]) ⟨hx, hb, hml, hown, hts⟩ (pX0_call l htr D h0 h1 h2 cI f g L ca n hok hlen x) (cwV 1 hts gL_call_X0_call rfl rfl rfl (by decide +kernel) ⟨(Nat.le_of_ble_eq_true rfl), (Nat.le_of_ble_eq_true rfl)⟩) (hK.sub [0] rfl) hP hD hS hA hZ [0, 1, 2] [3] rfl rfl (by decide) (by decide) (by decide) 0 rfl rfl rfl hl.1 rfl (Nat.le_of_ble_eq_true rfl) dL_call_4 ⟨(Nat.le_of_ble_eq_true rfl), (Nat.le_of_ble_eq_true rfl)⟩ (fun E ce q9 u H locs hpx hP hD hS hce hcv hcl => ?_) (fun r9 u H locs hw hP hD hS => ?_)
  · skip
    have hpx : fPx_call h0 h1 h2 cI f g L ca n x E u := hpx
    have hE : E = "java/util/NoSuchElementException" ∨ E = "java/lang/IllegalStateException" := by rcases hpx.2 with h | h; exact Or.inl h.1; exact Or.inr h.1
    rcases hE with rfl | rfl
    · skip
      refine ct_catch (own := RL) (name := "java/util/NoSuchElementException") hown [] ⟨0, 9, 12, 13⟩ [⟨0, 9, 15, 15⟩] hno (fun z hz => nomatch hz) (by decide) (by decide) (hts (.classLink RL 13 "java/util/NoSuchElementException") (by decide +kernel)) (va_tabs (u := s) (U := s) rfl rfl (hZ.2.2.2.1 (.castable "java/util/NoSuchElementException" "java/util/NoSuchElementException") (by decide +kernel))) hce hcv hcl ?_
      refine lv_astore_n (lv' := [(3, .ref q9), (0, .ref h0), (1, .int x), (2, .ref o)]) hx hb dL_call_12 rfl hl (by decide) rfl (fun ls hl => ?_)
      refine lv_iconst (v := nI 1) hx hb dL_call_13 (by decide) ?_
      exact vx_ret (kReti hx hb hr hlocks dL_call_14 (Nat.le_of_ble_eq_true rfl) (Nat.le_of_ble_eq_true rfl) hK hS hP hD (Or.inr (Or.inl ⟨u, hpx, rfl, rfl⟩)))
    · skip
      refine ct_catch (own := RL) (name := "java/lang/IllegalStateException") hown [⟨0, 9, 12, 13⟩] ⟨0, 9, 15, 15⟩ [] hno (fun z hz => by rw [List.mem_singleton] at hz; subst hz; exact Or.inr ⟨by decide, nx_N, hts (.classLink RL 13 nx_N) (by decide +kernel), hZ.2.2.2.2.1⟩) (by decide) (by decide) (hts (.classLink RL 15 "java/lang/IllegalStateException") (by decide +kernel)) (va_tabs (u := s) (U := s) rfl rfl (hZ.2.2.2.1 (.castable "java/lang/IllegalStateException" "java/lang/IllegalStateException") (by decide +kernel))) hce hcv hcl ?_
      refine lv_astore_n (lv' := [(3, .ref q9), (0, .ref h0), (1, .int x), (2, .ref o)]) hx hb dL_call_15 rfl hl (by decide) rfl (fun ls hl => ?_)
      refine lv_iconst (v := nI 2) hx hb dL_call_16 (by decide) ?_
      exact vx_ret (kReti hx hb hr hlocks dL_call_17 (Nat.le_of_ble_eq_true rfl) (Nat.le_of_ble_eq_true rfl) hK hS hP hD (Or.inr (Or.inr ⟨u, hpx, rfl, rfl⟩)))
  · skip
    skip
    have hw : fPost_call h0 h1 h2 cI f g L ca n x r9 u := hw
    refine lv_i2l (v := r9.toInt64) hx hb dL_call_7 rfl ?_
    refine va_last hx hb hK hP hD hS 0 1 rfl rfl (vp_in_nI (n := 0) (by decide) (by decide)) dL_call_8 (fun H locs hP hD hS => ?_)
    have hP : va_P D kC ([(o, .inl (cL, 1, .inr (.inl (vp_updL v 0 r9.toInt64))))] ++ u) H := hP
    have hD : va_D A ([(o, .inl (cL, 1, .inr (.inl (vp_updL v 0 r9.toInt64))))] ++ u) := hD
    refine lv_goto (tgt := 18) hx hb dL_call_9 (by decide) ?_
    refine lv_iconst (v := nI 0) hx hb dL_call_18 (by decide) ?_
    exact vx_ret (kReti hx hb hr hlocks dL_call_19 (Nat.le_of_ble_eq_true rfl) (Nat.le_of_ble_eq_true rfl) hK hS hP hD (Or.inl ⟨r9, u, hw, rfl, rfl⟩))

def fPost_leave (h0 h1 h2 : Nat) (cI : ClassId) (f g : Nat → Int32) (L : Nat) (ca : Int32) (n : Nat → Nat) (x y : Int32) : Int32 → va_W → Prop := fun r u => ∃ mu sl, mu < 4 ∧ sl < 8 ∧ x = nI mu ∧ y = nI sl ∧ 1 < n mu ∧ r = nI (n mu - 1) ∧ ∃ f' : Nat → Int32, u = wX h0 h1 h2 cI (upd f' (8 * (n mu - 2 + sN n mu)) (f (8 * (n mu - 1 + sN n mu) + sl))) (upd g mu (nI (n mu - 1))) (nI (L - 8)) ca ∧ ∀ t, t < L - 8 → f' t = delF f (8 * (n mu - 1 + sN n mu)) 8 t
def fPx_leave (h0 h1 h2 : Nat) (cI : ClassId) (f g : Nat → Int32) (L : Nat) (ca : Int32) (n : Nat → Nat) (x y : Int32) : String → va_W → Prop := fun E u => u = wX h0 h1 h2 cI f g (nI L) ca ∧ ((E = "java/util/NoSuchElementException" ∧ (¬ inR x 4 ∨ ¬ inR y 8)) ∨ (E = "java/lang/IllegalStateException" ∧ inR y 8 ∧ ∃ mu, mu < 4 ∧ x = nI mu ∧ n mu = 1))
set_option maxHeartbeats 4000000 in
set_option maxRecDepth 100000 in
theorem pL_leave (l : Launch) (htr : l.stackTraces = false) (D : va_G) (h0 h1 h2 o : Nat) (cI cL : ClassId) (f g : Nat → Int32) (L : Nat) (ca : Int32) (v : Nat → Int64) (n : Nat → Nat) (hok : okC g n) (hlen : L = lenN n) (x y : Int32) : Xi l yL_leave wsL_leave x3 D (tIL cI cL) [.ref h0, .int x, .int y, .ref o] (wX h0 h1 h2 cI f g (nI L) ca ++ [(o, .inl (cL, 1, .inr (.inl (v))))]) (fun r u => (∃ r9 u9, fPost_leave h0 h1 h2 cI f g L ca n x y r9 u9 ∧ r = nI 0 ∧ u = (o, .inl (cL, 1, .inr (.inl (vp_updL v 0 r9.toInt64)))) :: u9) ∨ (∃ u9, fPx_leave h0 h1 h2 cI f g L ca n x y "java/util/NoSuchElementException" u9 ∧ r = nI 1 ∧ u = (o, .inl (cL, 1, .inr (.inl (v)))) :: u9) ∨ (∃ u9, fPx_leave h0 h1 h2 cI f g L ca n x y "java/lang/IllegalStateException" u9 ∧ r = nI 2 ∧ u = (o, .inl (cL, 1, .inr (.inl (v)))) :: u9)) (fun _ _ => False) := by
  refine Mi.ofT (cc := cL_leave) (maxL := 5) (by decide +kernel) rfl (Nat.le_of_ble_eq_true rfl) ?_
  rintro p e s m below meth c ls A ⟨hx, hb, hr, hml, hts, hown, hlocks, hnm, hP, hK, hD, hA, hS, hl⟩ hZ hno
  have hown : s.vm.findClass RL = some m.cls := hown
  have hl : lv_has ls 5 [(0, .ref h0), (1, .int x), (2, .int y), (3, .ref o)] := hl
  have hP : va_P D kC (wX h0 h1 h2 cI f g (nI L) ca ++ [(o, .inl (cL, 1, .inr (.inl (v))))]) s.heap := hP
  have hD : va_D A (wX h0 h1 h2 cI f g (nI L) ca ++ [(o, .inl (cL, 1, .inr (.inl (v))))]) := hD
  have hP : va_P D kC (wX h0 h1 h2 cI f g (nI L) ca ++ [(o, .inl (cL, 1, .inr (.inl (v))))]) s.heap := hP
  have hD : va_D A (wX h0 h1 h2 cI f g (nI L) ca ++ [(o, .inl (cL, 1, .inr (.inl (v))))]) := hD
  refine lv_aload_n hx hb dL_leave_0 rfl (lv_at hl 3 rfl) ?_
  refine lv_iconst (v := nI 0) hx hb dL_leave_1 (by decide) ?_
  refine lv_aload_n hx hb dL_leave_2 rfl (lv_at hl 0 rfl) ?_
  refine lv_iload_n hx hb dL_leave_3 rfl (lv_at hl 1 rfl) ?_
  refine lv_iload_n hx hb dL_leave_4 rfl (lv_at hl 2 rfl) ?_
  refine xVi (wr := [(o, .inl (cL, 1, .inr (.inl (v))))]) (As := [.int x, .int y]) (rest := [.int (nI 0), .ref o]) ⟨hx, hb, hml, hown, hts⟩ (pX0_leave l htr D h0 h1 h2 cI f g L ca n hok hlen x y) (cwV 2 hts gL_leave_X0_leave rfl rfl rfl (by decide +kernel) ⟨(Nat.le_of_ble_eq_true rfl), (Nat.le_of_ble_eq_true rfl)⟩) (hK.sub [0] rfl) hP hD hS hA hZ [0, 1, 2] [3] rfl rfl (by decide) (by decide) (by decide) 0 rfl rfl rfl hl.1 rfl (Nat.le_of_ble_eq_true rfl) dL_leave_5 ⟨(Nat.le_of_ble_eq_true rfl), (Nat.le_of_ble_eq_true rfl)⟩ (fun E ce q9 u H locs hpx hP hD hS hce hcv hcl => ?_) (fun r9 u H locs hw hP hD hS => ?_)
  · skip
    have hpx : fPx_leave h0 h1 h2 cI f g L ca n x y E u := hpx
    have hE : E = "java/util/NoSuchElementException" ∨ E = "java/lang/IllegalStateException" := by rcases hpx.2 with h | h; exact Or.inl h.1; exact Or.inr h.1
    rcases hE with rfl | rfl
    · skip
      refine ct_catch (own := RL) (name := "java/util/NoSuchElementException") hown [] ⟨0, 10, 13, 13⟩ [⟨0, 10, 17, 15⟩] hno (fun z hz => nomatch hz) (by decide) (by decide) (hts (.classLink RL 13 "java/util/NoSuchElementException") (by decide +kernel)) (va_tabs (u := s) (U := s) rfl rfl (hZ.2.2.2.1 (.castable "java/util/NoSuchElementException" "java/util/NoSuchElementException") (by decide +kernel))) hce hcv hcl ?_
      refine lv_astore (lv' := [(4, .ref q9), (0, .ref h0), (1, .int x), (2, .int y), (3, .ref o)]) hx hb dL_leave_13 hl (by decide) rfl (fun ls hl => ?_)
      refine lv_iconst (v := nI 1) hx hb dL_leave_15 (by decide) ?_
      exact vx_ret (kReti hx hb hr hlocks dL_leave_16 (Nat.le_of_ble_eq_true rfl) (Nat.le_of_ble_eq_true rfl) hK hS hP hD (Or.inr (Or.inl ⟨u, hpx, rfl, rfl⟩)))
    · skip
      refine ct_catch (own := RL) (name := "java/lang/IllegalStateException") hown [⟨0, 10, 13, 13⟩] ⟨0, 10, 17, 15⟩ [] hno (fun z hz => by rw [List.mem_singleton] at hz; subst hz; exact Or.inr ⟨by decide, nx_N, hts (.classLink RL 13 nx_N) (by decide +kernel), hZ.2.2.2.2.1⟩) (by decide) (by decide) (hts (.classLink RL 15 "java/lang/IllegalStateException") (by decide +kernel)) (va_tabs (u := s) (U := s) rfl rfl (hZ.2.2.2.1 (.castable "java/lang/IllegalStateException" "java/lang/IllegalStateException") (by decide +kernel))) hce hcv hcl ?_
      refine lv_astore (lv' := [(4, .ref q9), (0, .ref h0), (1, .int x), (2, .int y), (3, .ref o)]) hx hb dL_leave_17 hl (by decide) rfl (fun ls hl => ?_)
      refine lv_iconst (v := nI 2) hx hb dL_leave_19 (by decide) ?_
      exact vx_ret (kReti hx hb hr hlocks dL_leave_20 (Nat.le_of_ble_eq_true rfl) (Nat.le_of_ble_eq_true rfl) hK hS hP hD (Or.inr (Or.inr ⟨u, hpx, rfl, rfl⟩)))
  · skip
    skip
    have hw : fPost_leave h0 h1 h2 cI f g L ca n x y r9 u := hw
    refine lv_i2l (v := r9.toInt64) hx hb dL_leave_8 rfl ?_
    refine va_last hx hb hK hP hD hS 0 1 rfl rfl (vp_in_nI (n := 0) (by decide) (by decide)) dL_leave_9 (fun H locs hP hD hS => ?_)
    have hP : va_P D kC ([(o, .inl (cL, 1, .inr (.inl (vp_updL v 0 r9.toInt64))))] ++ u) H := hP
    have hD : va_D A ([(o, .inl (cL, 1, .inr (.inl (vp_updL v 0 r9.toInt64))))] ++ u) := hD
    refine lv_goto (tgt := 21) hx hb dL_leave_10 (by decide) ?_
    refine lv_iconst (v := nI 0) hx hb dL_leave_21 (by decide) ?_
    exact vx_ret (kReti hx hb hr hlocks dL_leave_22 (Nat.le_of_ble_eq_true rfl) (Nat.le_of_ble_eq_true rfl) hK hS hP hD (Or.inl ⟨r9, u, hw, rfl, rfl⟩))

def fPost_cut (h0 h1 h2 : Nat) (cI : ClassId) (f g : Nat → Int32) (L : Nat) (ca : Int32) (n : Nat → Nat) (x y : Int32) : Int32 → va_W → Prop := fun r u => ∃ mu lf, mu < 4 ∧ x = nI mu ∧ y = nI lf ∧ 1 ≤ lf ∧ lf ≤ n mu ∧ r = nI (n mu - lf) ∧ ∃ f' : Nat → Int32, u = wX h0 h1 h2 cI f' (upd g mu (nI lf)) (nI (L - 8 * (n mu - lf))) ca ∧ ∀ t, t < L - 8 * (n mu - lf) → f' t = delF f (8 * (lf + sN n mu)) (8 * (n mu - lf)) t
def fPx_cut (h0 h1 h2 : Nat) (cI : ClassId) (f g : Nat → Int32) (L : Nat) (ca : Int32) (n : Nat → Nat) (x y : Int32) : String → va_W → Prop := fun E u => u = wX h0 h1 h2 cI f g (nI L) ca ∧ E = "java/util/NoSuchElementException" ∧ (¬ inR x 4 ∨ ∃ mu, mu < 4 ∧ x = nI mu ∧ ¬ ∃ lf, y = nI lf ∧ 1 ≤ lf ∧ lf ≤ n mu)
set_option maxHeartbeats 4000000 in
set_option maxRecDepth 100000 in
theorem pL_cut (l : Launch) (htr : l.stackTraces = false) (D : va_G) (h0 h1 h2 o : Nat) (cI cL : ClassId) (f g : Nat → Int32) (L : Nat) (ca : Int32) (v : Nat → Int64) (n : Nat → Nat) (hok : okC g n) (hlen : L = lenN n) (x y : Int32) : Xi l yL_cut wsL_cut x3 D (tIL cI cL) [.ref h0, .int x, .int y, .ref o] (wX h0 h1 h2 cI f g (nI L) ca ++ [(o, .inl (cL, 1, .inr (.inl (v))))]) (fun r u => (∃ r9 u9, fPost_cut h0 h1 h2 cI f g L ca n x y r9 u9 ∧ r = nI 0 ∧ u = (o, .inl (cL, 1, .inr (.inl (vp_updL v 0 r9.toInt64)))) :: u9) ∨ (∃ u9, fPx_cut h0 h1 h2 cI f g L ca n x y "java/util/NoSuchElementException" u9 ∧ r = nI 1 ∧ u = (o, .inl (cL, 1, .inr (.inl (v)))) :: u9)) (fun _ _ => False) := by
  refine Mi.ofT (cc := cL_cut) (maxL := 5) (by decide +kernel) rfl (Nat.le_of_ble_eq_true rfl) ?_
  rintro p e s m below meth c ls A ⟨hx, hb, hr, hml, hts, hown, hlocks, hnm, hP, hK, hD, hA, hS, hl⟩ hZ hno
  have hown : s.vm.findClass RL = some m.cls := hown
  have hl : lv_has ls 5 [(0, .ref h0), (1, .int x), (2, .int y), (3, .ref o)] := hl
  have hP : va_P D kC (wX h0 h1 h2 cI f g (nI L) ca ++ [(o, .inl (cL, 1, .inr (.inl (v))))]) s.heap := hP
  have hD : va_D A (wX h0 h1 h2 cI f g (nI L) ca ++ [(o, .inl (cL, 1, .inr (.inl (v))))]) := hD
  have hP : va_P D kC (wX h0 h1 h2 cI f g (nI L) ca ++ [(o, .inl (cL, 1, .inr (.inl (v))))]) s.heap := hP
  have hD : va_D A (wX h0 h1 h2 cI f g (nI L) ca ++ [(o, .inl (cL, 1, .inr (.inl (v))))]) := hD
  refine lv_aload_n hx hb dL_cut_0 rfl (lv_at hl 3 rfl) ?_
  refine lv_iconst (v := nI 0) hx hb dL_cut_1 (by decide) ?_
  refine lv_aload_n hx hb dL_cut_2 rfl (lv_at hl 0 rfl) ?_
  refine lv_iload_n hx hb dL_cut_3 rfl (lv_at hl 1 rfl) ?_
  refine lv_iload_n hx hb dL_cut_4 rfl (lv_at hl 2 rfl) ?_
  refine xVi (wr := [(o, .inl (cL, 1, .inr (.inl (v))))]) (As := [.int x, .int y]) (rest := [.int (nI 0), .ref o]) ⟨hx, hb, hml, hown, hts⟩ (pX0_cut l htr D h0 h1 h2 cI f g L ca n hok hlen x y) (cwV 2 hts gL_cut_X0_cut rfl rfl rfl (by decide +kernel) ⟨(Nat.le_of_ble_eq_true rfl), (Nat.le_of_ble_eq_true rfl)⟩) (hK.sub [0] rfl) hP hD hS hA hZ [0, 1, 2] [3] rfl rfl (by decide) (by decide) (by decide) 0 rfl rfl rfl hl.1 rfl (Nat.le_of_ble_eq_true rfl) dL_cut_5 ⟨(Nat.le_of_ble_eq_true rfl), (Nat.le_of_ble_eq_true rfl)⟩ (fun E ce q9 u H locs hpx hP hD hS hce hcv hcl => ?_) (fun r9 u H locs hw hP hD hS => ?_)
  · skip
    have hpx : fPx_cut h0 h1 h2 cI f g L ca n x y E u := hpx
    have hE : E = "java/util/NoSuchElementException" := hpx.2.1
    subst hE
    refine ct_catch (own := RL) (name := "java/util/NoSuchElementException") hown [] ⟨0, 10, 13, 13⟩ [] hno (fun z hz => nomatch hz) (by decide) (by decide) (hts (.classLink RL 13 "java/util/NoSuchElementException") (by decide +kernel)) (va_tabs (u := s) (U := s) rfl rfl (hZ.2.2.2.1 (.castable "java/util/NoSuchElementException" "java/util/NoSuchElementException") (by decide +kernel))) hce hcv hcl ?_
    refine lv_astore (lv' := [(4, .ref q9), (0, .ref h0), (1, .int x), (2, .int y), (3, .ref o)]) hx hb dL_cut_13 hl (by decide) rfl (fun ls hl => ?_)
    refine lv_iconst (v := nI 1) hx hb dL_cut_15 (by decide) ?_
    exact vx_ret (kReti hx hb hr hlocks dL_cut_16 (Nat.le_of_ble_eq_true rfl) (Nat.le_of_ble_eq_true rfl) hK hS hP hD (Or.inr ⟨u, hpx, rfl, rfl⟩))
  · skip
    skip
    have hw : fPost_cut h0 h1 h2 cI f g L ca n x y r9 u := hw
    refine lv_i2l (v := r9.toInt64) hx hb dL_cut_8 rfl ?_
    refine va_last hx hb hK hP hD hS 0 1 rfl rfl (vp_in_nI (n := 0) (by decide) (by decide)) dL_cut_9 (fun H locs hP hD hS => ?_)
    have hP : va_P D kC ([(o, .inl (cL, 1, .inr (.inl (vp_updL v 0 r9.toInt64))))] ++ u) H := hP
    have hD : va_D A ([(o, .inl (cL, 1, .inr (.inl (vp_updL v 0 r9.toInt64))))] ++ u) := hD
    refine lv_goto (tgt := 17) hx hb dL_cut_10 (by decide) ?_
    refine lv_iconst (v := nI 0) hx hb dL_cut_17 (by decide) ?_
    exact vx_ret (kReti hx hb hr hlocks dL_cut_18 (Nat.le_of_ble_eq_true rfl) (Nat.le_of_ble_eq_true rfl) hK hS hP hD (Or.inl ⟨r9, u, hw, rfl, rfl⟩))

def fPost_get (h0 h1 h2 : Nat) (cI : ClassId) (f g : Nat → Int32) (L : Nat) (ca : Int32) (n : Nat → Nat) (x y : Int32) : Int32 → va_W → Prop := fun r u => u = wX h0 h1 h2 cI f g (nI L) ca ∧ ∃ mu a, mu < 4 ∧ a < 24 ∧ x = nI mu ∧ y = nI a ∧ r = f (idxP n mu a)
def fPx_get (h0 h1 h2 : Nat) (cI : ClassId) (f g : Nat → Int32) (L : Nat) (ca : Int32) (x y : Int32) : String → va_W → Prop := fun E u => u = wX h0 h1 h2 cI f g (nI L) ca ∧ E = "java/util/NoSuchElementException" ∧ (¬ inR x 4 ∨ ¬ inR y 24)
set_option maxHeartbeats 4000000 in
set_option maxRecDepth 100000 in
theorem pL_get (l : Launch) (htr : l.stackTraces = false) (D : va_G) (h0 h1 h2 o : Nat) (cI cL : ClassId) (f g : Nat → Int32) (L : Nat) (ca : Int32) (v : Nat → Int64) (n : Nat → Nat) (hok : okC g n) (hlen : L = lenN n) (x y : Int32) : Xi l yL_get wsL_get x3 D (tIL cI cL) [.ref h0, .int x, .int y, .ref o] (wX h0 h1 h2 cI f g (nI L) ca ++ [(o, .inl (cL, 1, .inr (.inl (v))))]) (fun r u => (∃ r9 u9, fPost_get h0 h1 h2 cI f g L ca n x y r9 u9 ∧ r = nI 0 ∧ u = (o, .inl (cL, 1, .inr (.inl (vp_updL v 0 r9.toInt64)))) :: u9) ∨ (∃ u9, fPx_get h0 h1 h2 cI f g L ca x y "java/util/NoSuchElementException" u9 ∧ r = nI 1 ∧ u = (o, .inl (cL, 1, .inr (.inl (v)))) :: u9)) (fun _ _ => False) := by
  refine Mi.ofT (cc := cL_get) (maxL := 5) (by decide +kernel) rfl (Nat.le_of_ble_eq_true rfl) ?_
  rintro p e s m below meth c ls A ⟨hx, hb, hr, hml, hts, hown, hlocks, hnm, hP, hK, hD, hA, hS, hl⟩ hZ hno
  have hown : s.vm.findClass RL = some m.cls := hown
  have hl : lv_has ls 5 [(0, .ref h0), (1, .int x), (2, .int y), (3, .ref o)] := hl
  have hP : va_P D kC (wX h0 h1 h2 cI f g (nI L) ca ++ [(o, .inl (cL, 1, .inr (.inl (v))))]) s.heap := hP
  have hD : va_D A (wX h0 h1 h2 cI f g (nI L) ca ++ [(o, .inl (cL, 1, .inr (.inl (v))))]) := hD
  have hP : va_P D kC (wX h0 h1 h2 cI f g (nI L) ca ++ [(o, .inl (cL, 1, .inr (.inl (v))))]) s.heap := hP
  have hD : va_D A (wX h0 h1 h2 cI f g (nI L) ca ++ [(o, .inl (cL, 1, .inr (.inl (v))))]) := hD
  refine lv_aload_n hx hb dL_get_0 rfl (lv_at hl 3 rfl) ?_
  refine lv_iconst (v := nI 0) hx hb dL_get_1 (by decide) ?_
  refine lv_aload_n hx hb dL_get_2 rfl (lv_at hl 0 rfl) ?_
  refine lv_iload_n hx hb dL_get_3 rfl (lv_at hl 1 rfl) ?_
  refine lv_iload_n hx hb dL_get_4 rfl (lv_at hl 2 rfl) ?_
  refine xVi (wr := [(o, .inl (cL, 1, .inr (.inl (v))))]) (As := [.int x, .int y]) (rest := [.int (nI 0), .ref o]) ⟨hx, hb, hml, hown, hts⟩ (pX0_get l htr D h0 h1 h2 cI f g L ca n hok hlen x y) (cwV 2 hts gL_get_X0_get rfl rfl rfl (by decide +kernel) ⟨(Nat.le_of_ble_eq_true rfl), (Nat.le_of_ble_eq_true rfl)⟩) (hK.sub [0] rfl) hP hD hS hA hZ [0, 1, 2] [3] rfl rfl (by decide) (by decide) (by decide) 0 rfl rfl rfl hl.1 rfl (Nat.le_of_ble_eq_true rfl) dL_get_5 ⟨(Nat.le_of_ble_eq_true rfl), (Nat.le_of_ble_eq_true rfl)⟩ (fun E ce q9 u H locs hpx hP hD hS hce hcv hcl => ?_) (fun r9 u H locs hw hP hD hS => ?_)
  · skip
    have hpx : fPx_get h0 h1 h2 cI f g L ca x y E u := hpx
    have hE : E = "java/util/NoSuchElementException" := hpx.2.1
    subst hE
    refine ct_catch (own := RL) (name := "java/util/NoSuchElementException") hown [] ⟨0, 10, 13, 13⟩ [] hno (fun z hz => nomatch hz) (by decide) (by decide) (hts (.classLink RL 13 "java/util/NoSuchElementException") (by decide +kernel)) (va_tabs (u := s) (U := s) rfl rfl (hZ.2.2.2.1 (.castable "java/util/NoSuchElementException" "java/util/NoSuchElementException") (by decide +kernel))) hce hcv hcl ?_
    refine lv_astore (lv' := [(4, .ref q9), (0, .ref h0), (1, .int x), (2, .int y), (3, .ref o)]) hx hb dL_get_13 hl (by decide) rfl (fun ls hl => ?_)
    refine lv_iconst (v := nI 1) hx hb dL_get_15 (by decide) ?_
    exact vx_ret (kReti hx hb hr hlocks dL_get_16 (Nat.le_of_ble_eq_true rfl) (Nat.le_of_ble_eq_true rfl) hK hS hP hD (Or.inr ⟨u, hpx, rfl, rfl⟩))
  · skip
    skip
    have hw : fPost_get h0 h1 h2 cI f g L ca n x y r9 u := hw
    refine lv_i2l (v := r9.toInt64) hx hb dL_get_8 rfl ?_
    refine va_last hx hb hK hP hD hS 0 1 rfl rfl (vp_in_nI (n := 0) (by decide) (by decide)) dL_get_9 (fun H locs hP hD hS => ?_)
    have hP : va_P D kC ([(o, .inl (cL, 1, .inr (.inl (vp_updL v 0 r9.toInt64))))] ++ u) H := hP
    have hD : va_D A ([(o, .inl (cL, 1, .inr (.inl (vp_updL v 0 r9.toInt64))))] ++ u) := hD
    refine lv_goto (tgt := 17) hx hb dL_get_10 (by decide) ?_
    refine lv_iconst (v := nI 0) hx hb dL_get_17 (by decide) ?_
    exact vx_ret (kReti hx hb hr hlocks dL_get_18 (Nat.le_of_ble_eq_true rfl) (Nat.le_of_ble_eq_true rfl) hK hS hP hD (Or.inl ⟨r9, u, hw, rfl, rfl⟩))

def fPost_put (h0 h1 h2 : Nat) (cI : ClassId) (f g : Nat → Int32) (L : Nat) (ca : Int32) (n : Nat → Nat) (x y z : Int32) : Int32 → va_W → Prop := fun r u => inR z 1000001 ∧ ∃ mu a, mu < 4 ∧ a < 24 ∧ x = nI mu ∧ y = nI a ∧ r = f (idxP n mu a) ∧ u = wX h0 h1 h2 cI (upd f (idxP n mu a) z) g (nI L) ca
def fPx_put (h0 h1 h2 : Nat) (cI : ClassId) (f g : Nat → Int32) (L : Nat) (ca : Int32) (x y z : Int32) : String → va_W → Prop := fun E u => u = wX h0 h1 h2 cI f g (nI L) ca ∧ ((E = "java/util/NoSuchElementException" ∧ (¬ inR x 4 ∨ ¬ inR y 24)) ∨ (E = "java/lang/IllegalArgumentException" ∧ inR x 4 ∧ inR y 24 ∧ ¬ inR z 1000001))
set_option maxHeartbeats 4000000 in
set_option maxRecDepth 100000 in
theorem pL_put (l : Launch) (htr : l.stackTraces = false) (D : va_G) (h0 h1 h2 o : Nat) (cI cL : ClassId) (f g : Nat → Int32) (L : Nat) (ca : Int32) (v : Nat → Int64) (n : Nat → Nat) (hok : okC g n) (hlen : L = lenN n) (x y z : Int32) : Xi l yL_put wsL_put x3 D (tIL cI cL) [.ref h0, .int x, .int y, .int z, .ref o] (wX h0 h1 h2 cI f g (nI L) ca ++ [(o, .inl (cL, 1, .inr (.inl (v))))]) (fun r u => (∃ r9 u9, fPost_put h0 h1 h2 cI f g L ca n x y z r9 u9 ∧ r = nI 0 ∧ u = (o, .inl (cL, 1, .inr (.inl (vp_updL v 0 r9.toInt64)))) :: u9) ∨ (∃ u9, fPx_put h0 h1 h2 cI f g L ca x y z "java/util/NoSuchElementException" u9 ∧ r = nI 1 ∧ u = (o, .inl (cL, 1, .inr (.inl (v)))) :: u9) ∨ (∃ u9, fPx_put h0 h1 h2 cI f g L ca x y z "java/lang/IllegalArgumentException" u9 ∧ r = nI 2 ∧ u = (o, .inl (cL, 1, .inr (.inl (v)))) :: u9)) (fun _ _ => False) := by
  refine Mi.ofT (cc := cL_put) (maxL := 6) (by decide +kernel) rfl (Nat.le_of_ble_eq_true rfl) ?_
  rintro p e s m below meth c ls A ⟨hx, hb, hr, hml, hts, hown, hlocks, hnm, hP, hK, hD, hA, hS, hl⟩ hZ hno
  have hown : s.vm.findClass RL = some m.cls := hown
  have hl : lv_has ls 6 [(0, .ref h0), (1, .int x), (2, .int y), (3, .int z), (4, .ref o)] := hl
  have hP : va_P D kC (wX h0 h1 h2 cI f g (nI L) ca ++ [(o, .inl (cL, 1, .inr (.inl (v))))]) s.heap := hP
  have hD : va_D A (wX h0 h1 h2 cI f g (nI L) ca ++ [(o, .inl (cL, 1, .inr (.inl (v))))]) := hD
  have hP : va_P D kC (wX h0 h1 h2 cI f g (nI L) ca ++ [(o, .inl (cL, 1, .inr (.inl (v))))]) s.heap := hP
  have hD : va_D A (wX h0 h1 h2 cI f g (nI L) ca ++ [(o, .inl (cL, 1, .inr (.inl (v))))]) := hD
  refine lv_aload hx hb dL_put_0 (lv_at hl 4 rfl) ?_
  refine lv_iconst (v := nI 0) hx hb dL_put_2 (by decide) ?_
  refine lv_aload_n hx hb dL_put_3 rfl (lv_at hl 0 rfl) ?_
  refine lv_iload_n hx hb dL_put_4 rfl (lv_at hl 1 rfl) ?_
  refine lv_iload_n hx hb dL_put_5 rfl (lv_at hl 2 rfl) ?_
  refine lv_iload_n hx hb dL_put_6 rfl (lv_at hl 3 rfl) ?_
  refine xVi (wr := [(o, .inl (cL, 1, .inr (.inl (v))))]) (As := [.int x, .int y, .int z]) (rest := [.int (nI 0), .ref o]) ⟨hx, hb, hml, hown, hts⟩ (pX0_put l htr D h0 h1 h2 cI f g L ca n hok hlen x y z) (cwV 3 hts gL_put_X0_put rfl rfl rfl (by decide +kernel) ⟨(Nat.le_of_ble_eq_true rfl), (Nat.le_of_ble_eq_true rfl)⟩) (hK.sub [0] rfl) hP hD hS hA hZ [0, 1, 2] [3] rfl rfl (by decide) (by decide) (by decide) 0 rfl rfl rfl hl.1 rfl (Nat.le_of_ble_eq_true rfl) dL_put_7 ⟨(Nat.le_of_ble_eq_true rfl), (Nat.le_of_ble_eq_true rfl)⟩ (fun E ce q9 u H locs hpx hP hD hS hce hcv hcl => ?_) (fun r9 u H locs hw hP hD hS => ?_)
  · skip
    have hpx : fPx_put h0 h1 h2 cI f g L ca x y z E u := hpx
    have hE : E = "java/util/NoSuchElementException" ∨ E = "java/lang/IllegalArgumentException" := by rcases hpx.2 with h | h; exact Or.inl h.1; exact Or.inr h.1
    rcases hE with rfl | rfl
    · skip
      refine ct_catch (own := RL) (name := "java/util/NoSuchElementException") hown [] ⟨0, 12, 15, 13⟩ [⟨0, 12, 19, 31⟩] hno (fun z hz => nomatch hz) (by decide) (by decide) (hts (.classLink RL 13 "java/util/NoSuchElementException") (by decide +kernel)) (va_tabs (u := s) (U := s) rfl rfl (hZ.2.2.2.1 (.castable "java/util/NoSuchElementException" "java/util/NoSuchElementException") (by decide +kernel))) hce hcv hcl ?_
      refine lv_astore (lv' := [(5, .ref q9), (0, .ref h0), (1, .int x), (2, .int y), (3, .int z), (4, .ref o)]) hx hb dL_put_15 hl (by decide) rfl (fun ls hl => ?_)
      refine lv_iconst (v := nI 1) hx hb dL_put_17 (by decide) ?_
      exact vx_ret (kReti hx hb hr hlocks dL_put_18 (Nat.le_of_ble_eq_true rfl) (Nat.le_of_ble_eq_true rfl) hK hS hP hD (Or.inr (Or.inl ⟨u, hpx, rfl, rfl⟩)))
    · skip
      refine ct_catch (own := RL) (name := "java/lang/IllegalArgumentException") hown [⟨0, 12, 15, 13⟩] ⟨0, 12, 19, 31⟩ [] hno (fun z hz => by rw [List.mem_singleton] at hz; subst hz; exact Or.inr ⟨by decide, nx_N, hts (.classLink RL 13 nx_N) (by decide +kernel), hZ.2.2.2.2.2⟩) (by decide) (by decide) (hts (.classLink RL 31 "java/lang/IllegalArgumentException") (by decide +kernel)) (va_tabs (u := s) (U := s) rfl rfl (hZ.2.2.2.1 (.castable "java/lang/IllegalArgumentException" "java/lang/IllegalArgumentException") (by decide +kernel))) hce hcv hcl ?_
      refine lv_astore (lv' := [(5, .ref q9), (0, .ref h0), (1, .int x), (2, .int y), (3, .int z), (4, .ref o)]) hx hb dL_put_19 hl (by decide) rfl (fun ls hl => ?_)
      refine lv_iconst (v := nI 2) hx hb dL_put_21 (by decide) ?_
      exact vx_ret (kReti hx hb hr hlocks dL_put_22 (Nat.le_of_ble_eq_true rfl) (Nat.le_of_ble_eq_true rfl) hK hS hP hD (Or.inr (Or.inr ⟨u, hpx, rfl, rfl⟩)))
  · skip
    skip
    have hw : fPost_put h0 h1 h2 cI f g L ca n x y z r9 u := hw
    refine lv_i2l (v := r9.toInt64) hx hb dL_put_10 rfl ?_
    refine va_last hx hb hK hP hD hS 0 1 rfl rfl (vp_in_nI (n := 0) (by decide) (by decide)) dL_put_11 (fun H locs hP hD hS => ?_)
    have hP : va_P D kC ([(o, .inl (cL, 1, .inr (.inl (vp_updL v 0 r9.toInt64))))] ++ u) H := hP
    have hD : va_D A ([(o, .inl (cL, 1, .inr (.inl (vp_updL v 0 r9.toInt64))))] ++ u) := hD
    refine lv_goto (tgt := 23) hx hb dL_put_12 (by decide) ?_
    refine lv_iconst (v := nI 0) hx hb dL_put_23 (by decide) ?_
    exact vx_ret (kReti hx hb hr hlocks dL_put_24 (Nat.le_of_ble_eq_true rfl) (Nat.le_of_ble_eq_true rfl) hK hS hP hD (Or.inl ⟨r9, u, hw, rfl, rfl⟩))

def fPost_peek (h0 h1 h2 : Nat) (cI : ClassId) (f g : Nat → Int32) (L : Nat) (ca : Int32) (n : Nat → Nat) (x y z : Int32) : Int32 → va_W → Prop := fun r u => u = wX h0 h1 h2 cI f g (nI L) ca ∧ ∃ mu k sl, mu < 4 ∧ k < n mu ∧ sl < 8 ∧ x = nI mu ∧ y = nI k ∧ z = nI sl ∧ r = f (8 * (k + sN n mu) + sl)
def fPx_peek (h0 h1 h2 : Nat) (cI : ClassId) (f g : Nat → Int32) (L : Nat) (ca : Int32) (n : Nat → Nat) (x y z : Int32) : String → va_W → Prop := fun E u => u = wX h0 h1 h2 cI f g (nI L) ca ∧ E = "java/util/NoSuchElementException" ∧ (¬ inR x 4 ∨ ¬ inR z 8 ∨ ∃ mu, mu < 4 ∧ x = nI mu ∧ ¬ inR y (n mu))
set_option maxHeartbeats 4000000 in
set_option maxRecDepth 100000 in
theorem pL_peek (l : Launch) (htr : l.stackTraces = false) (D : va_G) (h0 h1 h2 o : Nat) (cI cL : ClassId) (f g : Nat → Int32) (L : Nat) (ca : Int32) (v : Nat → Int64) (n : Nat → Nat) (hok : okC g n) (hlen : L = lenN n) (x y z : Int32) : Xi l yL_peek wsL_peek x3 D (tIL cI cL) [.ref h0, .int x, .int y, .int z, .ref o] (wX h0 h1 h2 cI f g (nI L) ca ++ [(o, .inl (cL, 1, .inr (.inl (v))))]) (fun r u => (∃ r9 u9, fPost_peek h0 h1 h2 cI f g L ca n x y z r9 u9 ∧ r = nI 0 ∧ u = (o, .inl (cL, 1, .inr (.inl (vp_updL v 0 r9.toInt64)))) :: u9) ∨ (∃ u9, fPx_peek h0 h1 h2 cI f g L ca n x y z "java/util/NoSuchElementException" u9 ∧ r = nI 1 ∧ u = (o, .inl (cL, 1, .inr (.inl (v)))) :: u9)) (fun _ _ => False) := by
  refine Mi.ofT (cc := cL_peek) (maxL := 6) (by decide +kernel) rfl (Nat.le_of_ble_eq_true rfl) ?_
  rintro p e s m below meth c ls A ⟨hx, hb, hr, hml, hts, hown, hlocks, hnm, hP, hK, hD, hA, hS, hl⟩ hZ hno
  have hown : s.vm.findClass RL = some m.cls := hown
  have hl : lv_has ls 6 [(0, .ref h0), (1, .int x), (2, .int y), (3, .int z), (4, .ref o)] := hl
  have hP : va_P D kC (wX h0 h1 h2 cI f g (nI L) ca ++ [(o, .inl (cL, 1, .inr (.inl (v))))]) s.heap := hP
  have hD : va_D A (wX h0 h1 h2 cI f g (nI L) ca ++ [(o, .inl (cL, 1, .inr (.inl (v))))]) := hD
  have hP : va_P D kC (wX h0 h1 h2 cI f g (nI L) ca ++ [(o, .inl (cL, 1, .inr (.inl (v))))]) s.heap := hP
  have hD : va_D A (wX h0 h1 h2 cI f g (nI L) ca ++ [(o, .inl (cL, 1, .inr (.inl (v))))]) := hD
  refine lv_aload hx hb dL_peek_0 (lv_at hl 4 rfl) ?_
  refine lv_iconst (v := nI 0) hx hb dL_peek_2 (by decide) ?_
  refine lv_aload_n hx hb dL_peek_3 rfl (lv_at hl 0 rfl) ?_
  refine lv_iload_n hx hb dL_peek_4 rfl (lv_at hl 1 rfl) ?_
  refine lv_iload_n hx hb dL_peek_5 rfl (lv_at hl 2 rfl) ?_
  refine lv_iload_n hx hb dL_peek_6 rfl (lv_at hl 3 rfl) ?_
  refine xVi (wr := [(o, .inl (cL, 1, .inr (.inl (v))))]) (As := [.int x, .int y, .int z]) (rest := [.int (nI 0), .ref o]) ⟨hx, hb, hml, hown, hts⟩ (pX0_peek l htr D h0 h1 h2 cI f g L ca n hok hlen x y z) (cwV 3 hts gL_peek_X0_peek rfl rfl rfl (by decide +kernel) ⟨(Nat.le_of_ble_eq_true rfl), (Nat.le_of_ble_eq_true rfl)⟩) (hK.sub [0] rfl) hP hD hS hA hZ [0, 1, 2] [3] rfl rfl (by decide) (by decide) (by decide) 0 rfl rfl rfl hl.1 rfl (Nat.le_of_ble_eq_true rfl) dL_peek_7 ⟨(Nat.le_of_ble_eq_true rfl), (Nat.le_of_ble_eq_true rfl)⟩ (fun E ce q9 u H locs hpx hP hD hS hce hcv hcl => ?_) (fun r9 u H locs hw hP hD hS => ?_)
  · skip
    have hpx : fPx_peek h0 h1 h2 cI f g L ca n x y z E u := hpx
    have hE : E = "java/util/NoSuchElementException" := hpx.2.1
    subst hE
    refine ct_catch (own := RL) (name := "java/util/NoSuchElementException") hown [] ⟨0, 12, 15, 13⟩ [] hno (fun z hz => nomatch hz) (by decide) (by decide) (hts (.classLink RL 13 "java/util/NoSuchElementException") (by decide +kernel)) (va_tabs (u := s) (U := s) rfl rfl (hZ.2.2.2.1 (.castable "java/util/NoSuchElementException" "java/util/NoSuchElementException") (by decide +kernel))) hce hcv hcl ?_
    refine lv_astore (lv' := [(5, .ref q9), (0, .ref h0), (1, .int x), (2, .int y), (3, .int z), (4, .ref o)]) hx hb dL_peek_15 hl (by decide) rfl (fun ls hl => ?_)
    refine lv_iconst (v := nI 1) hx hb dL_peek_17 (by decide) ?_
    exact vx_ret (kReti hx hb hr hlocks dL_peek_18 (Nat.le_of_ble_eq_true rfl) (Nat.le_of_ble_eq_true rfl) hK hS hP hD (Or.inr ⟨u, hpx, rfl, rfl⟩))
  · skip
    skip
    have hw : fPost_peek h0 h1 h2 cI f g L ca n x y z r9 u := hw
    refine lv_i2l (v := r9.toInt64) hx hb dL_peek_10 rfl ?_
    refine va_last hx hb hK hP hD hS 0 1 rfl rfl (vp_in_nI (n := 0) (by decide) (by decide)) dL_peek_11 (fun H locs hP hD hS => ?_)
    have hP : va_P D kC ([(o, .inl (cL, 1, .inr (.inl (vp_updL v 0 r9.toInt64))))] ++ u) H := hP
    have hD : va_D A ([(o, .inl (cL, 1, .inr (.inl (vp_updL v 0 r9.toInt64))))] ++ u) := hD
    refine lv_goto (tgt := 19) hx hb dL_peek_12 (by decide) ?_
    refine lv_iconst (v := nI 0) hx hb dL_peek_19 (by decide) ?_
    exact vx_ret (kReti hx hb hr hlocks dL_peek_20 (Nat.le_of_ble_eq_true rfl) (Nat.le_of_ble_eq_true rfl) hK hS hP hD (Or.inl ⟨r9, u, hw, rfl, rfl⟩))

def fPost_holds (h0 h1 h2 : Nat) (cI : ClassId) (f g : Nat → Int32) (L : Nat) (ca : Int32) (x : Int32) : Int32 → va_W → Prop := fun r u => u = wX h0 h1 h2 cI f g (nI L) ca ∧ inR x 1000001 ∧ r = nI ((rw_ f L).count x)
def fPx_holds (h0 h1 h2 : Nat) (cI : ClassId) (f g : Nat → Int32) (L : Nat) (ca : Int32) (x : Int32) : String → va_W → Prop := fun E u => u = wX h0 h1 h2 cI f g (nI L) ca ∧ E = "java/lang/IllegalArgumentException" ∧ ¬ inR x 1000001
set_option maxHeartbeats 4000000 in
set_option maxRecDepth 100000 in
theorem pL_holds (l : Launch) (htr : l.stackTraces = false) (D : va_G) (h0 h1 h2 o : Nat) (cI cL : ClassId) (f g : Nat → Int32) (L : Nat) (ca : Int32) (v : Nat → Int64) (hL : L ≤ 2064) (x : Int32) : Xi l yL_holds wsL_holds x3 D (tIL cI cL) [.ref h0, .int x, .ref o] (wX h0 h1 h2 cI f g (nI L) ca ++ [(o, .inl (cL, 1, .inr (.inl (v))))]) (fun r u => (∃ r9 u9, fPost_holds h0 h1 h2 cI f g L ca x r9 u9 ∧ r = nI 0 ∧ u = (o, .inl (cL, 1, .inr (.inl (vp_updL v 0 r9.toInt64)))) :: u9) ∨ (∃ u9, fPx_holds h0 h1 h2 cI f g L ca x "java/lang/IllegalArgumentException" u9 ∧ r = nI 1 ∧ u = (o, .inl (cL, 1, .inr (.inl (v)))) :: u9)) (fun _ _ => False) := by
  refine Mi.ofT (cc := cL_holds) (maxL := 4) (by decide +kernel) rfl (Nat.le_of_ble_eq_true rfl) ?_
  rintro p e s m below meth c ls A ⟨hx, hb, hr, hml, hts, hown, hlocks, hnm, hP, hK, hD, hA, hS, hl⟩ hZ hno
  have hown : s.vm.findClass RL = some m.cls := hown
  have hl : lv_has ls 4 [(0, .ref h0), (1, .int x), (2, .ref o)] := hl
  have hP : va_P D kC (wX h0 h1 h2 cI f g (nI L) ca ++ [(o, .inl (cL, 1, .inr (.inl (v))))]) s.heap := hP
  have hD : va_D A (wX h0 h1 h2 cI f g (nI L) ca ++ [(o, .inl (cL, 1, .inr (.inl (v))))]) := hD
  have hP : va_P D kC (wX h0 h1 h2 cI f g (nI L) ca ++ [(o, .inl (cL, 1, .inr (.inl (v))))]) s.heap := hP
  have hD : va_D A (wX h0 h1 h2 cI f g (nI L) ca ++ [(o, .inl (cL, 1, .inr (.inl (v))))]) := hD
  refine lv_aload_n hx hb dL_holds_0 rfl (lv_at hl 2 rfl) ?_
  refine lv_iconst (v := nI 0) hx hb dL_holds_1 (by decide) ?_
  refine lv_aload_n hx hb dL_holds_2 rfl (lv_at hl 0 rfl) ?_
  refine lv_iload_n hx hb dL_holds_3 rfl (lv_at hl 1 rfl) ?_
  refine xVi (wr := [(o, .inl (cL, 1, .inr (.inl (v))))]) (As := [.int x]) (rest := [.int (nI 0), .ref o]) ⟨hx, hb, hml, hown, hts⟩ (pX0_holds l htr D h0 h1 h2 cI f g L ca hL x) (cwV 1 hts gL_holds_X0_holds rfl rfl rfl (by decide +kernel) ⟨(Nat.le_of_ble_eq_true rfl), (Nat.le_of_ble_eq_true rfl)⟩) (hK.sub [0] rfl) hP hD hS hA hZ [0, 1, 2] [3] rfl rfl (by decide) (by decide) (by decide) 0 rfl rfl rfl hl.1 rfl (Nat.le_of_ble_eq_true rfl) dL_holds_4 ⟨(Nat.le_of_ble_eq_true rfl), (Nat.le_of_ble_eq_true rfl)⟩ (fun E ce q9 u H locs hpx hP hD hS hce hcv hcl => ?_) (fun r9 u H locs hw hP hD hS => ?_)
  · skip
    have hpx : fPx_holds h0 h1 h2 cI f g L ca x E u := hpx
    have hE : E = "java/lang/IllegalArgumentException" := hpx.2.1
    subst hE
    refine ct_catch (own := RL) (name := "java/lang/IllegalArgumentException") hown [] ⟨0, 9, 12, 31⟩ [] hno (fun z hz => nomatch hz) (by decide) (by decide) (hts (.classLink RL 31 "java/lang/IllegalArgumentException") (by decide +kernel)) (va_tabs (u := s) (U := s) rfl rfl (hZ.2.2.2.1 (.castable "java/lang/IllegalArgumentException" "java/lang/IllegalArgumentException") (by decide +kernel))) hce hcv hcl ?_
    refine lv_astore_n (lv' := [(3, .ref q9), (0, .ref h0), (1, .int x), (2, .ref o)]) hx hb dL_holds_12 rfl hl (by decide) rfl (fun ls hl => ?_)
    refine lv_iconst (v := nI 1) hx hb dL_holds_13 (by decide) ?_
    exact vx_ret (kReti hx hb hr hlocks dL_holds_14 (Nat.le_of_ble_eq_true rfl) (Nat.le_of_ble_eq_true rfl) hK hS hP hD (Or.inr ⟨u, hpx, rfl, rfl⟩))
  · skip
    skip
    have hw : fPost_holds h0 h1 h2 cI f g L ca x r9 u := hw
    refine lv_i2l (v := r9.toInt64) hx hb dL_holds_7 rfl ?_
    refine va_last hx hb hK hP hD hS 0 1 rfl rfl (vp_in_nI (n := 0) (by decide) (by decide)) dL_holds_8 (fun H locs hP hD hS => ?_)
    have hP : va_P D kC ([(o, .inl (cL, 1, .inr (.inl (vp_updL v 0 r9.toInt64))))] ++ u) H := hP
    have hD : va_D A ([(o, .inl (cL, 1, .inr (.inl (vp_updL v 0 r9.toInt64))))] ++ u) := hD
    refine lv_goto (tgt := 15) hx hb dL_holds_9 (by decide) ?_
    refine lv_iconst (v := nI 0) hx hb dL_holds_15 (by decide) ?_
    exact vx_ret (kReti hx hb hr hlocks dL_holds_16 (Nat.le_of_ble_eq_true rfl) (Nat.le_of_ble_eq_true rfl) hK hS hP hD (Or.inl ⟨r9, u, hw, rfl, rfl⟩))

def fPost_root (h0 h1 h2 : Nat) (cI : ClassId) (f g : Nat → Int32) (L : Nat) (ca : Int32) (x : Int32) : Int32 → va_W → Prop := fun r u => u = wX h0 h1 h2 cI f g (nI L) ca ∧ ∃ k9, k9 < 2147483648 ∧ x = nI k9 ∧ r = (nz (rw_ f L)).getD k9 0
def fPx_root (h0 h1 h2 : Nat) (cI : ClassId) (f g : Nat → Int32) (L : Nat) (ca : Int32) (x : Int32) : String → va_W → Prop := fun E u => u = wX h0 h1 h2 cI f g (nI L) ca ∧ E = "java/lang/IllegalArgumentException" ∧ x < 0
set_option maxHeartbeats 4000000 in
set_option maxRecDepth 100000 in
theorem pL_root (l : Launch) (htr : l.stackTraces = false) (D : va_G) (h0 h1 h2 o : Nat) (cI cL : ClassId) (f g : Nat → Int32) (L : Nat) (ca : Int32) (v : Nat → Int64) (hL : L ≤ 2064) (x : Int32) : Xi l yL_root wsL_root x3 D (tIL cI cL) [.ref h0, .int x, .ref o] (wX h0 h1 h2 cI f g (nI L) ca ++ [(o, .inl (cL, 1, .inr (.inl (v))))]) (fun r u => (∃ r9 u9, fPost_root h0 h1 h2 cI f g L ca x r9 u9 ∧ r = nI 0 ∧ u = (o, .inl (cL, 1, .inr (.inl (vp_updL v 0 r9.toInt64)))) :: u9) ∨ (∃ u9, fPx_root h0 h1 h2 cI f g L ca x "java/lang/IllegalArgumentException" u9 ∧ r = nI 1 ∧ u = (o, .inl (cL, 1, .inr (.inl (v)))) :: u9)) (fun _ _ => False) := by
  refine Mi.ofT (cc := cL_root) (maxL := 4) (by decide +kernel) rfl (Nat.le_of_ble_eq_true rfl) ?_
  rintro p e s m below meth c ls A ⟨hx, hb, hr, hml, hts, hown, hlocks, hnm, hP, hK, hD, hA, hS, hl⟩ hZ hno
  have hown : s.vm.findClass RL = some m.cls := hown
  have hl : lv_has ls 4 [(0, .ref h0), (1, .int x), (2, .ref o)] := hl
  have hP : va_P D kC (wX h0 h1 h2 cI f g (nI L) ca ++ [(o, .inl (cL, 1, .inr (.inl (v))))]) s.heap := hP
  have hD : va_D A (wX h0 h1 h2 cI f g (nI L) ca ++ [(o, .inl (cL, 1, .inr (.inl (v))))]) := hD
  have hP : va_P D kC (wX h0 h1 h2 cI f g (nI L) ca ++ [(o, .inl (cL, 1, .inr (.inl (v))))]) s.heap := hP
  have hD : va_D A (wX h0 h1 h2 cI f g (nI L) ca ++ [(o, .inl (cL, 1, .inr (.inl (v))))]) := hD
  refine lv_aload_n hx hb dL_root_0 rfl (lv_at hl 2 rfl) ?_
  refine lv_iconst (v := nI 0) hx hb dL_root_1 (by decide) ?_
  refine lv_aload_n hx hb dL_root_2 rfl (lv_at hl 0 rfl) ?_
  refine lv_iload_n hx hb dL_root_3 rfl (lv_at hl 1 rfl) ?_
  refine xVi (wr := [(o, .inl (cL, 1, .inr (.inl (v))))]) (As := [.int x]) (rest := [.int (nI 0), .ref o]) ⟨hx, hb, hml, hown, hts⟩ (pX0_root l htr D h0 h1 h2 cI f g L ca hL x) (cwV 1 hts gL_root_X0_root rfl rfl rfl (by decide +kernel) ⟨(Nat.le_of_ble_eq_true rfl), (Nat.le_of_ble_eq_true rfl)⟩) (hK.sub [0] rfl) hP hD hS hA hZ [0, 1, 2] [3] rfl rfl (by decide) (by decide) (by decide) 0 rfl rfl rfl hl.1 rfl (Nat.le_of_ble_eq_true rfl) dL_root_4 ⟨(Nat.le_of_ble_eq_true rfl), (Nat.le_of_ble_eq_true rfl)⟩ (fun E ce q9 u H locs hpx hP hD hS hce hcv hcl => ?_) (fun r9 u H locs hw hP hD hS => ?_)
  · skip
    have hpx : fPx_root h0 h1 h2 cI f g L ca x E u := hpx
    have hE : E = "java/lang/IllegalArgumentException" := hpx.2.1
    subst hE
    refine ct_catch (own := RL) (name := "java/lang/IllegalArgumentException") hown [] ⟨0, 9, 12, 31⟩ [] hno (fun z hz => nomatch hz) (by decide) (by decide) (hts (.classLink RL 31 "java/lang/IllegalArgumentException") (by decide +kernel)) (va_tabs (u := s) (U := s) rfl rfl (hZ.2.2.2.1 (.castable "java/lang/IllegalArgumentException" "java/lang/IllegalArgumentException") (by decide +kernel))) hce hcv hcl ?_
    refine lv_astore_n (lv' := [(3, .ref q9), (0, .ref h0), (1, .int x), (2, .ref o)]) hx hb dL_root_12 rfl hl (by decide) rfl (fun ls hl => ?_)
    refine lv_iconst (v := nI 1) hx hb dL_root_13 (by decide) ?_
    exact vx_ret (kReti hx hb hr hlocks dL_root_14 (Nat.le_of_ble_eq_true rfl) (Nat.le_of_ble_eq_true rfl) hK hS hP hD (Or.inr ⟨u, hpx, rfl, rfl⟩))
  · skip
    skip
    have hw : fPost_root h0 h1 h2 cI f g L ca x r9 u := hw
    refine lv_i2l (v := r9.toInt64) hx hb dL_root_7 rfl ?_
    refine va_last hx hb hK hP hD hS 0 1 rfl rfl (vp_in_nI (n := 0) (by decide) (by decide)) dL_root_8 (fun H locs hP hD hS => ?_)
    have hP : va_P D kC ([(o, .inl (cL, 1, .inr (.inl (vp_updL v 0 r9.toInt64))))] ++ u) H := hP
    have hD : va_D A ([(o, .inl (cL, 1, .inr (.inl (vp_updL v 0 r9.toInt64))))] ++ u) := hD
    refine lv_goto (tgt := 15) hx hb dL_root_9 (by decide) ?_
    refine lv_iconst (v := nI 0) hx hb dL_root_15 (by decide) ?_
    exact vx_ret (kReti hx hb hr hlocks dL_root_16 (Nat.le_of_ble_eq_true rfl) (Nat.le_of_ble_eq_true rfl) hK hS hP hD (Or.inl ⟨r9, u, hw, rfl, rfl⟩))

def fPost_turn (h0 h1 h2 : Nat) (cI : ClassId) (f g : Nat → Int32) (L : Nat) (ca : Int32) (x y : Int32) : Int32 → va_W → Prop := fun r u => ¬ x = 0 ∧ inR x 1000001 ∧ inR y 1000001 ∧ r = nI ((rw_ f L).count x) ∧ u = wX h0 h1 h2 cI (fun t => if 0 ≤ t ∧ t < L ∧ f t = x then y else f t) g (nI L) ca
def fPx_turn (h0 h1 h2 : Nat) (cI : ClassId) (f g : Nat → Int32) (L : Nat) (ca : Int32) (x y : Int32) : String → va_W → Prop := fun E u => u = wX h0 h1 h2 cI f g (nI L) ca ∧ E = "java/lang/IllegalArgumentException" ∧ (x = 0 ∨ ¬ inR x 1000001 ∨ ¬ inR y 1000001)
set_option maxHeartbeats 4000000 in
set_option maxRecDepth 100000 in
theorem pL_turn (l : Launch) (htr : l.stackTraces = false) (D : va_G) (h0 h1 h2 o : Nat) (cI cL : ClassId) (f g : Nat → Int32) (L : Nat) (ca : Int32) (v : Nat → Int64) (hL : L ≤ 2064) (x y : Int32) : Xi l yL_turn wsL_turn x3 D (tIL cI cL) [.ref h0, .int x, .int y, .ref o] (wX h0 h1 h2 cI f g (nI L) ca ++ [(o, .inl (cL, 1, .inr (.inl (v))))]) (fun r u => (∃ r9 u9, fPost_turn h0 h1 h2 cI f g L ca x y r9 u9 ∧ r = nI 0 ∧ u = (o, .inl (cL, 1, .inr (.inl (vp_updL v 0 r9.toInt64)))) :: u9) ∨ (∃ u9, fPx_turn h0 h1 h2 cI f g L ca x y "java/lang/IllegalArgumentException" u9 ∧ r = nI 1 ∧ u = (o, .inl (cL, 1, .inr (.inl (v)))) :: u9)) (fun _ _ => False) := by
  refine Mi.ofT (cc := cL_turn) (maxL := 5) (by decide +kernel) rfl (Nat.le_of_ble_eq_true rfl) ?_
  rintro p e s m below meth c ls A ⟨hx, hb, hr, hml, hts, hown, hlocks, hnm, hP, hK, hD, hA, hS, hl⟩ hZ hno
  have hown : s.vm.findClass RL = some m.cls := hown
  have hl : lv_has ls 5 [(0, .ref h0), (1, .int x), (2, .int y), (3, .ref o)] := hl
  have hP : va_P D kC (wX h0 h1 h2 cI f g (nI L) ca ++ [(o, .inl (cL, 1, .inr (.inl (v))))]) s.heap := hP
  have hD : va_D A (wX h0 h1 h2 cI f g (nI L) ca ++ [(o, .inl (cL, 1, .inr (.inl (v))))]) := hD
  have hP : va_P D kC (wX h0 h1 h2 cI f g (nI L) ca ++ [(o, .inl (cL, 1, .inr (.inl (v))))]) s.heap := hP
  have hD : va_D A (wX h0 h1 h2 cI f g (nI L) ca ++ [(o, .inl (cL, 1, .inr (.inl (v))))]) := hD
  refine lv_aload_n hx hb dL_turn_0 rfl (lv_at hl 3 rfl) ?_
  refine lv_iconst (v := nI 0) hx hb dL_turn_1 (by decide) ?_
  refine lv_aload_n hx hb dL_turn_2 rfl (lv_at hl 0 rfl) ?_
  refine lv_iload_n hx hb dL_turn_3 rfl (lv_at hl 1 rfl) ?_
  refine lv_iload_n hx hb dL_turn_4 rfl (lv_at hl 2 rfl) ?_
  refine xVi (wr := [(o, .inl (cL, 1, .inr (.inl (v))))]) (As := [.int x, .int y]) (rest := [.int (nI 0), .ref o]) ⟨hx, hb, hml, hown, hts⟩ (pX0_turn l htr D h0 h1 h2 cI f g L ca hL x y) (cwV 2 hts gL_turn_X0_turn rfl rfl rfl (by decide +kernel) ⟨(Nat.le_of_ble_eq_true rfl), (Nat.le_of_ble_eq_true rfl)⟩) (hK.sub [0] rfl) hP hD hS hA hZ [0, 1, 2] [3] rfl rfl (by decide) (by decide) (by decide) 0 rfl rfl rfl hl.1 rfl (Nat.le_of_ble_eq_true rfl) dL_turn_5 ⟨(Nat.le_of_ble_eq_true rfl), (Nat.le_of_ble_eq_true rfl)⟩ (fun E ce q9 u H locs hpx hP hD hS hce hcv hcl => ?_) (fun r9 u H locs hw hP hD hS => ?_)
  · skip
    have hpx : fPx_turn h0 h1 h2 cI f g L ca x y E u := hpx
    have hE : E = "java/lang/IllegalArgumentException" := hpx.2.1
    subst hE
    refine ct_catch (own := RL) (name := "java/lang/IllegalArgumentException") hown [] ⟨0, 10, 13, 31⟩ [] hno (fun z hz => nomatch hz) (by decide) (by decide) (hts (.classLink RL 31 "java/lang/IllegalArgumentException") (by decide +kernel)) (va_tabs (u := s) (U := s) rfl rfl (hZ.2.2.2.1 (.castable "java/lang/IllegalArgumentException" "java/lang/IllegalArgumentException") (by decide +kernel))) hce hcv hcl ?_
    refine lv_astore (lv' := [(4, .ref q9), (0, .ref h0), (1, .int x), (2, .int y), (3, .ref o)]) hx hb dL_turn_13 hl (by decide) rfl (fun ls hl => ?_)
    refine lv_iconst (v := nI 1) hx hb dL_turn_15 (by decide) ?_
    exact vx_ret (kReti hx hb hr hlocks dL_turn_16 (Nat.le_of_ble_eq_true rfl) (Nat.le_of_ble_eq_true rfl) hK hS hP hD (Or.inr ⟨u, hpx, rfl, rfl⟩))
  · skip
    skip
    have hw : fPost_turn h0 h1 h2 cI f g L ca x y r9 u := hw
    refine lv_i2l (v := r9.toInt64) hx hb dL_turn_8 rfl ?_
    refine va_last hx hb hK hP hD hS 0 1 rfl rfl (vp_in_nI (n := 0) (by decide) (by decide)) dL_turn_9 (fun H locs hP hD hS => ?_)
    have hP : va_P D kC ([(o, .inl (cL, 1, .inr (.inl (vp_updL v 0 r9.toInt64))))] ++ u) H := hP
    have hD : va_D A ([(o, .inl (cL, 1, .inr (.inl (vp_updL v 0 r9.toInt64))))] ++ u) := hD
    refine lv_goto (tgt := 17) hx hb dL_turn_10 (by decide) ?_
    refine lv_iconst (v := nI 0) hx hb dL_turn_17 (by decide) ?_
    exact vx_ret (kReti hx hb hr hlocks dL_turn_18 (Nat.le_of_ble_eq_true rfl) (Nat.le_of_ble_eq_true rfl) hK hS hP hD (Or.inl ⟨r9, u, hw, rfl, rfl⟩))

def fPost_count (h0 h1 h2 : Nat) (cI : ClassId) (f g : Nat → Int32) (L : Nat) (ca : Int32) (n : Nat → Nat) (x : Int32) : Int32 → va_W → Prop := fun r u => u = wX h0 h1 h2 cI f g (nI L) ca ∧ ((x = 0 ∧ r = nI (sN n 4)) ∨ (x = 1 ∧ r = nI (L - (rw_ f L).count 0)) ∨ (x = 2 ∧ r = nI (mxN n 4)) ∨ (x = 3 ∧ r = ca) ∨ (x = 4 ∧ r = nI (dd (nz (rw_ f L))).length))
def fPx_count (h0 h1 h2 : Nat) (cI : ClassId) (f g : Nat → Int32) (L : Nat) (ca : Int32) (x : Int32) : String → va_W → Prop := fun E u => u = wX h0 h1 h2 cI f g (nI L) ca ∧ E = "java/lang/IllegalArgumentException" ∧ ¬ inR x 5
set_option maxHeartbeats 4000000 in
set_option maxRecDepth 100000 in
theorem pL_count (l : Launch) (htr : l.stackTraces = false) (D : va_G) (h0 h1 h2 o : Nat) (cI cL : ClassId) (f g : Nat → Int32) (L : Nat) (ca : Int32) (v : Nat → Int64) (n : Nat → Nat) (hok : okC g n) (hlen : L = lenN n) (x : Int32) : Xi l yL_count wsL_count x3 D (tIL cI cL) [.ref h0, .int x, .ref o] (wX h0 h1 h2 cI f g (nI L) ca ++ [(o, .inl (cL, 1, .inr (.inl (v))))]) (fun r u => (∃ r9 u9, fPost_count h0 h1 h2 cI f g L ca n x r9 u9 ∧ r = nI 0 ∧ u = (o, .inl (cL, 1, .inr (.inl (vp_updL v 0 r9.toInt64)))) :: u9) ∨ (∃ u9, fPx_count h0 h1 h2 cI f g L ca x "java/lang/IllegalArgumentException" u9 ∧ r = nI 1 ∧ u = (o, .inl (cL, 1, .inr (.inl (v)))) :: u9)) (fun _ _ => False) := by
  refine Mi.ofT (cc := cL_count) (maxL := 4) (by decide +kernel) rfl (Nat.le_of_ble_eq_true rfl) ?_
  rintro p e s m below meth c ls A ⟨hx, hb, hr, hml, hts, hown, hlocks, hnm, hP, hK, hD, hA, hS, hl⟩ hZ hno
  have hown : s.vm.findClass RL = some m.cls := hown
  have hl : lv_has ls 4 [(0, .ref h0), (1, .int x), (2, .ref o)] := hl
  have hP : va_P D kC (wX h0 h1 h2 cI f g (nI L) ca ++ [(o, .inl (cL, 1, .inr (.inl (v))))]) s.heap := hP
  have hD : va_D A (wX h0 h1 h2 cI f g (nI L) ca ++ [(o, .inl (cL, 1, .inr (.inl (v))))]) := hD
  have hP : va_P D kC (wX h0 h1 h2 cI f g (nI L) ca ++ [(o, .inl (cL, 1, .inr (.inl (v))))]) s.heap := hP
  have hD : va_D A (wX h0 h1 h2 cI f g (nI L) ca ++ [(o, .inl (cL, 1, .inr (.inl (v))))]) := hD
  refine lv_aload_n hx hb dL_count_0 rfl (lv_at hl 2 rfl) ?_
  refine lv_iconst (v := nI 0) hx hb dL_count_1 (by decide) ?_
  refine lv_aload_n hx hb dL_count_2 rfl (lv_at hl 0 rfl) ?_
  refine lv_iload_n hx hb dL_count_3 rfl (lv_at hl 1 rfl) ?_
  refine xVi (wr := [(o, .inl (cL, 1, .inr (.inl (v))))]) (As := [.int x]) (rest := [.int (nI 0), .ref o]) ⟨hx, hb, hml, hown, hts⟩ (pX0_count l htr D h0 h1 h2 cI f g L ca n hok hlen x) (cwV 1 hts gL_count_X0_count rfl rfl rfl (by decide +kernel) ⟨(Nat.le_of_ble_eq_true rfl), (Nat.le_of_ble_eq_true rfl)⟩) (hK.sub [0] rfl) hP hD hS hA hZ [0, 1, 2] [3] rfl rfl (by decide) (by decide) (by decide) 0 rfl rfl rfl hl.1 rfl (Nat.le_of_ble_eq_true rfl) dL_count_4 ⟨(Nat.le_of_ble_eq_true rfl), (Nat.le_of_ble_eq_true rfl)⟩ (fun E ce q9 u H locs hpx hP hD hS hce hcv hcl => ?_) (fun r9 u H locs hw hP hD hS => ?_)
  · skip
    have hpx : fPx_count h0 h1 h2 cI f g L ca x E u := hpx
    have hE : E = "java/lang/IllegalArgumentException" := hpx.2.1
    subst hE
    refine ct_catch (own := RL) (name := "java/lang/IllegalArgumentException") hown [] ⟨0, 9, 12, 31⟩ [] hno (fun z hz => nomatch hz) (by decide) (by decide) (hts (.classLink RL 31 "java/lang/IllegalArgumentException") (by decide +kernel)) (va_tabs (u := s) (U := s) rfl rfl (hZ.2.2.2.1 (.castable "java/lang/IllegalArgumentException" "java/lang/IllegalArgumentException") (by decide +kernel))) hce hcv hcl ?_
    refine lv_astore_n (lv' := [(3, .ref q9), (0, .ref h0), (1, .int x), (2, .ref o)]) hx hb dL_count_12 rfl hl (by decide) rfl (fun ls hl => ?_)
    refine lv_iconst (v := nI 1) hx hb dL_count_13 (by decide) ?_
    exact vx_ret (kReti hx hb hr hlocks dL_count_14 (Nat.le_of_ble_eq_true rfl) (Nat.le_of_ble_eq_true rfl) hK hS hP hD (Or.inr ⟨u, hpx, rfl, rfl⟩))
  · skip
    skip
    have hw : fPost_count h0 h1 h2 cI f g L ca n x r9 u := hw
    refine lv_i2l (v := r9.toInt64) hx hb dL_count_7 rfl ?_
    refine va_last hx hb hK hP hD hS 0 1 rfl rfl (vp_in_nI (n := 0) (by decide) (by decide)) dL_count_8 (fun H locs hP hD hS => ?_)
    have hP : va_P D kC ([(o, .inl (cL, 1, .inr (.inl (vp_updL v 0 r9.toInt64))))] ++ u) H := hP
    have hD : va_D A ([(o, .inl (cL, 1, .inr (.inl (vp_updL v 0 r9.toInt64))))] ++ u) := hD
    refine lv_goto (tgt := 15) hx hb dL_count_9 (by decide) ?_
    refine lv_iconst (v := nI 0) hx hb dL_count_15 (by decide) ?_
    exact vx_ret (kReti hx hb hr hlocks dL_count_16 (Nat.le_of_ble_eq_true rfl) (Nat.le_of_ble_eq_true rfl) hK hS hP hD (Or.inl ⟨r9, u, hw, rfl, rfl⟩))
