theorem wsi_X0_isGone_X0 : ∀ w ∈ wsX00, w ∈ wsX0_isGone := fun w h => List.mem_cons_of_mem _ (List.mem_append_right _ h)
def f_X0_isGone (li : Int32) : Int32 := if 0 < li then 0 else 1
set_option maxHeartbeats 4000000 in
set_option maxRecDepth 100000 in
/-- Brew.isGone() -/
theorem c_X0_isGone (l : Launch) (G : zG) (sz : Nat) (h0 : Nat) (tk : Int32) (rp : Int32) (li : Int32) (st : Int32) (me : Int32) (la : Int32) (lc : Int32) (vo : Int32) (tx : Nat) (bo : Nat) : Met l yX0_isGone wsX0_isGone { frames := 0, cells := 0, slots := 0, locals := 0 } (zPc G [.ref h0] [(h0, .inr (2, [.int tk, .int rp, .int li, .int st, .int me, .int la, .int lc, .int vo, .ref tx, .ref bo]))] sz) (vp_Si (fun z => z = f_X0_isGone li)) 0 0 (fun _ => False) := by
  refine zOfW (Qc := fun _ => vp_Si (fun z => z = f_X0_isGone li)) (fr := fun _ _ => False) (cc := cX0_isGone) (maxL := 1) (ret := (some .boolean)) (by decide) rfl (Nat.le_of_ble_eq_true rfl) ?_
  intro p e s m below meth c hx hb hml hr hlocks hown hin hts A hP hK hD hE hA hS ls hl
  have hl : lv_has ls 1 [(0, .ref h0)] := hl
  have hown : s.vm.findClass RX0 = some m.cls := hown
  have hP : zP G [(h0, .inr (2, [.int tk, .int rp, .int li, .int st, .int me, .int la, .int lc, .int vo, .ref tx, .ref bo]))] s.heap := hP
  have hD : va_D A [(h0, .inr (2, [.int tk, .int rp, .int li, .int st, .int me, .int la, .int lc, .int vo, .ref tx, .ref bo]))] := hD
  refine lv_aload_n hx hb dX0_isGone_0 rfl (lv_at hl 0 rfl) ?_
  refine va_get (D := G.1) (ci := 2) (v := .int li) (C := RX0) (T := TX0) (N := 10) hx hb hts wsi_X0_isGone_X0 hown hK hP 0 rfl rfl 2 (by decide) (hts (.fieldLink "Cellarscheduler$Brew" 16 "Cellarscheduler$Brew" "litres" "I") (List.mem_of_getElem? (i := 1) (by decide +kernel))) (fun _ h9 => h9) rfl dX0_isGone_1 ?_
  refine lv_if_gt (tgt := 11) hx hb dX0_isGone_4 (by decide) (fun c_1 => ?_) (fun c_1 => ?_)
  · refine lv_iconst (v := 0) hx hb dX0_isGone_11 (by decide) ?_
    exact zRi hx hb hr hlocks rfl (by rw [f_X0_isGone, if_pos c_1]) rfl rfl (Nat.le_of_ble_eq_true rfl) (Nat.le_of_ble_eq_true rfl) dX0_isGone_12
  · refine lv_iconst (v := 1) hx hb dX0_isGone_7 (by decide) ?_
    refine lv_goto (tgt := 12) hx hb dX0_isGone_8 (by decide) ?_
    exact zRi hx hb hr hlocks rfl (by rw [f_X0_isGone, if_neg c_1]) rfl rfl (Nat.le_of_ble_eq_true rfl) (Nat.le_of_ble_eq_true rfl) dX0_isGone_12

theorem wsi_X0_isReady_X0 : ∀ w ∈ wsX00, w ∈ wsX0_isReady := fun w h => List.mem_cons_of_mem _ (List.mem_append_right _ h)
def f_X0_isReady (rp : Int32) (li : Int32) (dy : Int32) : Int32 := if (f_X0_isGone li) = 0 then (if dy < rp then 0 else 1) else 0
set_option maxHeartbeats 4000000 in
set_option maxRecDepth 100000 in
/-- Brew.isReady(day) -/
theorem c_X0_isReady (l : Launch) (G : zG) (sz : Nat) (h0 : Nat) (tk : Int32) (rp : Int32) (li : Int32) (st : Int32) (me : Int32) (la : Int32) (lc : Int32) (vo : Int32) (tx : Nat) (bo : Nat) (dy : Int32) : Met l yX0_isReady wsX0_isReady { frames := 1, cells := 0, slots := 0, locals := 20 } (zPc G [.ref h0, .int dy] [(h0, .inr (2, [.int tk, .int rp, .int li, .int st, .int me, .int la, .int lc, .int vo, .ref tx, .ref bo]))] sz) (vp_Si (fun z => z = f_X0_isReady rp li dy)) 0 0 (fun _ => False) := by
  refine zOfW (Qc := fun _ => vp_Si (fun z => z = f_X0_isReady rp li dy)) (fr := fun _ _ => False) (cc := cX0_isReady) (maxL := 2) (ret := (some .boolean)) (by decide) rfl (Nat.le_of_ble_eq_true rfl) ?_
  intro p e s m below meth c hx hb hml hr hlocks hown hin hts A hP hK hD hE hA hS ls hl
  have hl : lv_has ls 2 [(0, .ref h0), (1, .int dy)] := hl
  have hown : s.vm.findClass RX0 = some m.cls := hown
  have hP : zP G [(h0, .inr (2, [.int tk, .int rp, .int li, .int st, .int me, .int la, .int lc, .int vo, .ref tx, .ref bo]))] s.heap := hP
  have hD : va_D A [(h0, .inr (2, [.int tk, .int rp, .int li, .int st, .int me, .int la, .int lc, .int vo, .ref tx, .ref bo]))] := hD
  refine lv_aload_n hx hb dX0_isReady_0 rfl (lv_at hl 0 rfl) ?_
  refine zCi (r := f_X0_isGone li) (va_runV (As := []) (rest := []) ⟨hx, hb, hml, hown, hts⟩ (c_X0_isGone l G s.heap.size h0 tk rp li st me la lc vo tx bo) (cwV 0 hts gX0_isReady_X0_isGone rfl rfl rfl (by decide +kernel) ⟨(Nat.le_of_ble_eq_true rfl), (Nat.le_of_ble_eq_true rfl)⟩) (zPreV hE hS hA hP hD hK (z_pick (n := 1) [0] [] rfl (by decide) rfl rfl) (va_recv hK hP (ci := 2) (q0 := 0) rfl rfl)) rfl rfl hl.1 rfl (lv_room (Nat.le_of_ble_eq_true rfl)) dX0_isReady_1 ⟨(Nat.le_of_ble_eq_true rfl), (Nat.le_of_ble_eq_true rfl)⟩).run ?_
  refine lv_if_ne (tgt := 19) hx hb dX0_isReady_4 (by decide) (fun c_1 => ?_) (fun c_1 => ?_)
  · refine lv_iconst (v := 0) hx hb dX0_isReady_19 (by decide) ?_
    exact zRi hx hb hr hlocks rfl (by rw [f_X0_isReady, if_neg c_1]) rfl rfl (Nat.le_of_ble_eq_true rfl) (Nat.le_of_ble_eq_true rfl) dX0_isReady_20
  · refine lv_iload_n hx hb dX0_isReady_7 rfl (lv_at hl 1 rfl) ?_
    refine lv_aload_n hx hb dX0_isReady_8 rfl (lv_at hl 0 rfl) ?_
    refine va_get (D := G.1) (ci := 2) (v := .int rp) (C := RX0) (T := TX0) (N := 10) hx hb hts wsi_X0_isReady_X0 hown hK hP 0 rfl rfl 1 (by decide) (hts (.fieldLink "Cellarscheduler$Brew" 13 "Cellarscheduler$Brew" "ripeDay" "I") (List.mem_of_getElem? (i := 1) (by decide +kernel))) (fun _ h9 => h9) rfl dX0_isReady_9 ?_
    refine lv_icmp_lt (tgt := 19) hx hb dX0_isReady_12 (by decide) (fun c_2 => ?_) (fun c_2 => ?_)
    · refine lv_iconst (v := 0) hx hb dX0_isReady_19 (by decide) ?_
      exact zRi hx hb hr hlocks rfl (by rw [f_X0_isReady, if_pos c_1, if_pos c_2]) rfl rfl (Nat.le_of_ble_eq_true rfl) (Nat.le_of_ble_eq_true rfl) dX0_isReady_20
    · refine lv_iconst (v := 1) hx hb dX0_isReady_15 (by decide) ?_
      refine lv_goto (tgt := 20) hx hb dX0_isReady_16 (by decide) ?_
      exact zRi hx hb hr hlocks rfl (by rw [f_X0_isReady, if_pos c_1, if_neg c_2]) rfl rfl (Nat.le_of_ble_eq_true rfl) (Nat.le_of_ble_eq_true rfl) dX0_isReady_20

def f_X2_classOf (sg : Int32) : Int32 := if 28 < sg then (if 50 < sg then (if 75 < sg then 3 else 2) else 1) else 0
set_option maxHeartbeats 4000000 in
set_option maxRecDepth 100000 in
/-- classOf -/
theorem c_X2_classOf (l : Launch) (G : zG) (sz : Nat) (sg : Int32) : Met l yX2_classOf wsX2_classOf { frames := 0, cells := 0, slots := 0, locals := 0 } (zPc G [.int sg] [] sz) (vp_Si (fun z => z = f_X2_classOf sg)) 0 0 (fun _ => False) := by
  refine zOfW (Qc := fun _ => vp_Si (fun z => z = f_X2_classOf sg)) (fr := fun _ _ => False) (cc := cX2_classOf) (maxL := 1) (ret := (some .int)) (by decide) rfl (Nat.le_of_ble_eq_true rfl) ?_
  intro p e s m below meth c hx hb hml hr hlocks hown hin hts A hP hK hD hE hA hS ls hl
  have hl : lv_has ls 1 [(0, .int sg)] := hl
  have hown : s.vm.findClass RX2 = some m.cls := hown
  refine lv_iload_n hx hb dX2_classOf_0 rfl (lv_at hl 0 rfl) ?_
  refine lv_bipush (v := 28) hx hb dX2_classOf_1 (by decide) ?_
  refine lv_icmp_gt (tgt := 8) hx hb dX2_classOf_3 (by decide) (fun c_1 => ?_) (fun c_1 => ?_)
  · refine lv_iload_n hx hb dX2_classOf_8 rfl (lv_at hl 0 rfl) ?_
    refine lv_bipush (v := 50) hx hb dX2_classOf_9 (by decide) ?_
    refine lv_icmp_gt (tgt := 16) hx hb dX2_classOf_11 (by decide) (fun c_2 => ?_) (fun c_2 => ?_)
    · refine lv_iload_n hx hb dX2_classOf_16 rfl (lv_at hl 0 rfl) ?_
      refine lv_bipush (v := 75) hx hb dX2_classOf_17 (by decide) ?_
      refine lv_icmp_gt (tgt := 26) hx hb dX2_classOf_19 (by decide) (fun c_3 => ?_) (fun c_3 => ?_)
      · refine lv_iconst (v := 3) hx hb dX2_classOf_26 (by decide) ?_
        exact zRi hx hb hr hlocks rfl (by rw [f_X2_classOf, if_pos c_1, if_pos c_2, if_pos c_3]) rfl rfl (Nat.le_of_ble_eq_true rfl) (Nat.le_of_ble_eq_true rfl) dX2_classOf_27
      · refine lv_iconst (v := 2) hx hb dX2_classOf_22 (by decide) ?_
        refine lv_goto (tgt := 27) hx hb dX2_classOf_23 (by decide) ?_
        exact zRi hx hb hr hlocks rfl (by rw [f_X2_classOf, if_pos c_1, if_pos c_2, if_neg c_3]) rfl rfl (Nat.le_of_ble_eq_true rfl) (Nat.le_of_ble_eq_true rfl) dX2_classOf_27
    · refine lv_iconst (v := 1) hx hb dX2_classOf_14 (by decide) ?_
      exact zRi hx hb hr hlocks rfl (by rw [f_X2_classOf, if_pos c_1, if_neg c_2]) rfl rfl (Nat.le_of_ble_eq_true rfl) (Nat.le_of_ble_eq_true rfl) dX2_classOf_15
  · refine lv_iconst (v := 0) hx hb dX2_classOf_6 (by decide) ?_
    exact zRi hx hb hr hlocks rfl (by rw [f_X2_classOf, if_neg c_1]) rfl rfl (Nat.le_of_ble_eq_true rfl) (Nat.le_of_ble_eq_true rfl) dX2_classOf_7

theorem z_cls (sg : Int32) : f_X2_classOf sg = 0 ∨ f_X2_classOf sg = 1 ∨ f_X2_classOf sg = 2 ∨ f_X2_classOf sg = 3 := by
  unfold f_X2_classOf
  split
  · split
    · split
      · exact Or.inr (Or.inr (Or.inr rfl))
      · exact Or.inr (Or.inr (Or.inl rfl))
    · exact Or.inr (Or.inl rfl)
  · exact Or.inl rfl
theorem z_ne0 {x : Int32} (h : ¬ x ≤ 0) : ¬ x = 0 := fun e => h (by rw [e]; decide)
theorem z_in2 {x y : Int32} {n : Nat} (hn : n < 2 ^ 31) (hy : y = nI n) (h0 : ¬ x < 0) (h1 : ¬ y ≤ x) : vp_in x n := z_in hn hy h0 (Int32.not_le.mp h1)

theorem wsi_X0_strengthClass_X0 : ∀ w ∈ wsX00, w ∈ wsX0_strengthClass := fun w h => List.mem_cons_of_mem _ (List.mem_append_right _ h)
set_option maxHeartbeats 4000000 in
set_option maxRecDepth 100000 in
/-- Brew.strengthClass() -/
theorem c_X0_strengthClass (l : Launch) (G : zG) (sz : Nat) (h0 : Nat) (tk : Int32) (rp : Int32) (li : Int32) (st : Int32) (me : Int32) (la : Int32) (lc : Int32) (vo : Int32) (tx : Nat) (bo : Nat) : Met l yX0_strengthClass wsX0_strengthClass { frames := 1, cells := 0, slots := 0, locals := 20 } (zPc G [.ref h0] [(h0, .inr (2, [.int tk, .int rp, .int li, .int st, .int me, .int la, .int lc, .int vo, .ref tx, .ref bo]))] sz) (vp_Si (fun z => z = f_X2_classOf st)) 0 0 (fun _ => False) := by
  refine zOfW (Qc := fun _ => vp_Si (fun z => z = f_X2_classOf st)) (fr := fun _ _ => False) (cc := cX0_strengthClass) (maxL := 1) (ret := (some .int)) (by decide) rfl (Nat.le_of_ble_eq_true rfl) ?_
  intro p e s m below meth c hx hb hml hr hlocks hown hin hts A hP hK hD hE hA hS ls hl
  have hl : lv_has ls 1 [(0, .ref h0)] := hl
  have hown : s.vm.findClass RX0 = some m.cls := hown
  have hP : zP G [(h0, .inr (2, [.int tk, .int rp, .int li, .int st, .int me, .int la, .int lc, .int vo, .ref tx, .ref bo]))] s.heap := hP
  have hD : va_D A [(h0, .inr (2, [.int tk, .int rp, .int li, .int st, .int me, .int la, .int lc, .int vo, .ref tx, .ref bo]))] := hD
  refine lv_aload_n hx hb dX0_strengthClass_0 rfl (lv_at hl 0 rfl) ?_
  refine va_get (D := G.1) (ci := 2) (v := .int st) (C := RX0) (T := TX0) (N := 10) hx hb hts wsi_X0_strengthClass_X0 hown hK hP 0 rfl rfl 3 (by decide) (hts (.fieldLink "Cellarscheduler$Brew" 19 "Cellarscheduler$Brew" "strength" "I") (List.mem_of_getElem? (i := 1) (by decide +kernel))) (fun _ h9 => h9) rfl dX0_strengthClass_1 ?_
  refine zCi (r := f_X2_classOf st) (va_runSN (As := [.int st]) (rest := []) ⟨hx, hb, hml, hown, hts⟩ (c_X2_classOf l G s.heap.size st) ⟨va_cnB 1 hts gX0_strengthClass_X2_classOf_n54 rfl rfl rfl (hE.w 22 rfl) (hts (.initialized RX2) (List.mem_of_getElem? (i := 3) (by decide +kernel))) (by decide +kernel) ⟨(Nat.le_of_ble_eq_true rfl), (Nat.le_of_ble_eq_true rfl)⟩, (hts (.static yX2_classOf) (List.mem_of_getElem? (i := 2) (by decide +kernel))), trivial⟩ (zPreS hE hS hA hP hD hK (z_pick (n := 1) [] [0] rfl (by decide) rfl rfl)) rfl rfl hl.1 rfl (lv_room (Nat.le_of_ble_eq_true rfl)) dX0_strengthClass_4 ⟨(Nat.le_of_ble_eq_true rfl), (Nat.le_of_ble_eq_true rfl)⟩).run ?_
  exact zRi hx hb hr hlocks rfl rfl rfl rfl (Nat.le_of_ble_eq_true rfl) (Nat.le_of_ble_eq_true rfl) dX0_strengthClass_7

theorem wsi_X0_labelsOfItsClass_X0 : ∀ w ∈ wsX00, w ∈ wsX0_labelsOfItsClass := fun w h => List.mem_cons_of_mem _ (List.mem_append_right _ h)
def f_X0_labelsOfItsClass (st : Int32) (la : Int32) (lc : Int32) : Int32 := if lc = (f_X2_classOf st) then la else 0
set_option maxHeartbeats 4000000 in
set_option maxRecDepth 100000 in
/-- Brew.labelsOfItsClass() -/
theorem c_X0_labelsOfItsClass (l : Launch) (G : zG) (sz : Nat) (h0 : Nat) (tk : Int32) (rp : Int32) (li : Int32) (st : Int32) (me : Int32) (la : Int32) (lc : Int32) (vo : Int32) (tx : Nat) (bo : Nat) : Met l yX0_labelsOfItsClass wsX0_labelsOfItsClass { frames := 2, cells := 0, slots := 0, locals := 40 } (zPc G [.ref h0] [(h0, .inr (2, [.int tk, .int rp, .int li, .int st, .int me, .int la, .int lc, .int vo, .ref tx, .ref bo]))] sz) (vp_Si (fun z => z = f_X0_labelsOfItsClass st la lc)) 0 0 (fun _ => False) := by
  refine zOfW (Qc := fun _ => vp_Si (fun z => z = f_X0_labelsOfItsClass st la lc)) (fr := fun _ _ => False) (cc := cX0_labelsOfItsClass) (maxL := 1) (ret := (some .int)) (by decide) rfl (Nat.le_of_ble_eq_true rfl) ?_
  intro p e s m below meth c hx hb hml hr hlocks hown hin hts A hP hK hD hE hA hS ls hl
  have hl : lv_has ls 1 [(0, .ref h0)] := hl
  have hown : s.vm.findClass RX0 = some m.cls := hown
  have hP : zP G [(h0, .inr (2, [.int tk, .int rp, .int li, .int st, .int me, .int la, .int lc, .int vo, .ref tx, .ref bo]))] s.heap := hP
  have hD : va_D A [(h0, .inr (2, [.int tk, .int rp, .int li, .int st, .int me, .int la, .int lc, .int vo, .ref tx, .ref bo]))] := hD
  refine lv_aload_n hx hb dX0_labelsOfItsClass_0 rfl (lv_at hl 0 rfl) ?_
  refine va_get (D := G.1) (ci := 2) (v := .int lc) (C := RX0) (T := TX0) (N := 10) hx hb hts wsi_X0_labelsOfItsClass_X0 hown hK hP 0 rfl rfl 6 (by decide) (hts (.fieldLink "Cellarscheduler$Brew" 29 "Cellarscheduler$Brew" "labelClass" "I") (List.mem_of_getElem? (i := 1) (by decide +kernel))) (fun _ h9 => h9) rfl dX0_labelsOfItsClass_1 ?_
  refine lv_aload_n hx hb dX0_labelsOfItsClass_4 rfl (lv_at hl 0 rfl) ?_
  refine zCi (r := f_X2_classOf st) (va_runV (As := []) (rest := [.int lc]) ⟨hx, hb, hml, hown, hts⟩ (c_X0_strengthClass l G s.heap.size h0 tk rp li st me la lc vo tx bo) (cwV 0 hts gX0_labelsOfItsClass_X0_strengthClass rfl rfl rfl (by decide +kernel) ⟨(Nat.le_of_ble_eq_true rfl), (Nat.le_of_ble_eq_true rfl)⟩) (zPreV hE hS hA hP hD hK (z_pick (n := 1) [0] [] rfl (by decide) rfl rfl) (va_recv hK hP (ci := 2) (q0 := 0) rfl rfl)) rfl rfl hl.1 rfl (lv_room (Nat.le_of_ble_eq_true rfl)) dX0_labelsOfItsClass_5 ⟨(Nat.le_of_ble_eq_true rfl), (Nat.le_of_ble_eq_true rfl)⟩).run ?_
  refine lv_icmp_ne (tgt := 18) hx hb dX0_labelsOfItsClass_8 (by decide) (fun c_1 => ?_) (fun c_1 => ?_)
  · refine lv_iconst (v := 0) hx hb dX0_labelsOfItsClass_18 (by decide) ?_
    exact zRi hx hb hr hlocks rfl (by rw [f_X0_labelsOfItsClass, if_neg c_1]) rfl rfl (Nat.le_of_ble_eq_true rfl) (Nat.le_of_ble_eq_true rfl) dX0_labelsOfItsClass_19
  · refine lv_aload_n hx hb dX0_labelsOfItsClass_11 rfl (lv_at hl 0 rfl) ?_
    refine va_get (D := G.1) (ci := 2) (v := .int la) (C := RX0) (T := TX0) (N := 10) hx hb hts wsi_X0_labelsOfItsClass_X0 hown hK hP 0 rfl rfl 5 (by decide) (hts (.fieldLink "Cellarscheduler$Brew" 26 "Cellarscheduler$Brew" "labels" "I") (List.mem_of_getElem? (i := 2) (by decide +kernel))) (fun _ h9 => h9) rfl dX0_labelsOfItsClass_12 ?_
    refine lv_goto (tgt := 19) hx hb dX0_labelsOfItsClass_15 (by decide) ?_
    exact zRi hx hb hr hlocks rfl (by rw [f_X0_labelsOfItsClass, if_pos c_1]) rfl rfl (Nat.le_of_ble_eq_true rfl) (Nat.le_of_ble_eq_true rfl) dX0_labelsOfItsClass_19

theorem wsi_X0_countBottles_X0 : ∀ w ∈ wsX00, w ∈ wsX0_countBottles := fun w h => List.mem_cons_of_mem _ (List.mem_append_right _ h)
def f_X0_countBottles (bf : Nat → Int32) : Int32 := (((0 + (bf 0)) + (bf 1)) + (bf 2)) + (bf 3)
set_option maxHeartbeats 4000000 in
set_option maxRecDepth 100000 in
/-- Brew.countBottles(): four turns -/
theorem c_X0_countBottles (l : Launch) (G : zG) (sz : Nat) (h0 : Nat) (tk : Int32) (rp : Int32) (li : Int32) (st : Int32) (me : Int32) (la : Int32) (lc : Int32) (vo : Int32) (tx : Nat) (bo : Nat) (bf : Nat → Int32) : Met l yX0_countBottles wsX0_countBottles { frames := 0, cells := 0, slots := 0, locals := 0 } (zPc G [.ref h0] [(h0, .inr (2, [.int tk, .int rp, .int li, .int st, .int me, .int la, .int lc, .int vo, .ref tx, .ref bo])), (bo, .inl (G.2.1 0, 4, .inl bf))] sz) (vp_Si (fun z => z = f_X0_countBottles bf)) 0 0 (fun _ => False) := by
  refine zOfW (Qc := fun _ => vp_Si (fun z => z = f_X0_countBottles bf)) (fr := fun _ _ => False) (cc := cX0_countBottles) (maxL := 6) (ret := (some .int)) (by decide) rfl (Nat.le_of_ble_eq_true rfl) ?_
  intro p e s m below meth c hx hb hml hr hlocks hown hin hts A hP hK hD hE hA hS ls hl
  have hl : lv_has ls 6 [(0, .ref h0)] := hl
  have hown : s.vm.findClass RX0 = some m.cls := hown
  have hP : zP G [(h0, .inr (2, [.int tk, .int rp, .int li, .int st, .int me, .int la, .int lc, .int vo, .ref tx, .ref bo])), (bo, .inl (G.2.1 0, 4, .inl bf))] s.heap := hP
  have hD : va_D A [(h0, .inr (2, [.int tk, .int rp, .int li, .int st, .int me, .int la, .int lc, .int vo, .ref tx, .ref bo])), (bo, .inl (G.2.1 0, 4, .inl bf))] := hD
  refine lv_iconst (v := 0) hx hb dX0_countBottles_0 (by decide) ?_
  refine lv_istore_n (lv' := [(1, .int 0), (0, .ref h0)]) hx hb dX0_countBottles_1 rfl hl (by decide) rfl (fun ls hl => ?_)
  refine lv_aload_n hx hb dX0_countBottles_2 rfl (lv_at hl 1 rfl) ?_
  refine va_get (D := G.1) (ci := 2) (v := .ref bo) (C := RX0) (T := TX0) (N := 10) hx hb hts wsi_X0_countBottles_X0 hown hK hP 0 rfl rfl 9 (by decide) (hts (.fieldLink "Cellarscheduler$Brew" 47 "Cellarscheduler$Brew" "bottlesByClass" "[I") (List.mem_of_getElem? (i := 1) (by decide +kernel))) (fun _ h9 => h9) rfl dX0_countBottles_3 ?_
  refine lv_astore_n (lv' := [(2, .ref bo), (1, .int 0), (0, .ref h0)]) hx hb dX0_countBottles_6 rfl hl (by decide) rfl (fun ls hl => ?_)
  refine lv_aload_n hx hb dX0_countBottles_7 rfl (lv_at hl 0 rfl) ?_
  refine va_alen (v := 4) hx hb hK hP 1 0 rfl rfl rfl dX0_countBottles_8 ?_
  refine lv_istore_n (lv' := [(3, .int 4), (2, .ref bo), (1, .int 0), (0, .ref h0)]) hx hb dX0_countBottles_9 rfl hl (by decide) rfl (fun ls hl => ?_)
  refine lv_iconst (v := 0) hx hb dX0_countBottles_10 (by decide) ?_
  refine lv_istore (lv' := [(4, .int 0), (3, .int 4), (2, .ref bo), (1, .int 0), (0, .ref h0)]) hx hb dX0_countBottles_11 hl (by decide) rfl (fun ls hl => ?_)
  refine lv_iload hx hb dX0_countBottles_13 (lv_at hl 0 rfl) ?_
  refine lv_iload_n hx hb dX0_countBottles_15 rfl (lv_at hl 1 rfl) ?_
  refine lv_icmp_ge (tgt := 36) hx hb dX0_countBottles_16 (by decide) (fun c_1 => absurd c_1 (by decide)) (fun c_1 => ?_)
  refine lv_aload_n hx hb dX0_countBottles_19 rfl (lv_at hl 2 rfl) ?_
  refine lv_iload hx hb dX0_countBottles_20 (lv_at hl 0 rfl) ?_
  refine zIald hx hb hK hP 1 rfl 0 rfl (by omega) (by decide) dX0_countBottles_22 ?_
  refine lv_istore (lv' := [(5, .int (bf 0)), (4, .int 0), (3, .int 4), (2, .ref bo), (1, .int 0), (0, .ref h0)]) hx hb dX0_countBottles_23 hl (by decide) rfl (fun ls hl => ?_)
  refine lv_iload_n hx hb dX0_countBottles_25 rfl (lv_at hl 4 rfl) ?_
  refine lv_iload hx hb dX0_countBottles_26 (lv_at hl 0 rfl) ?_
  refine lv_iadd hx hb dX0_countBottles_28 ?_
  refine lv_istore_n (lv' := [(1, .int (0 + (bf 0))), (5, .int (bf 0)), (4, .int 0), (3, .int 4), (2, .ref bo), (0, .ref h0)]) hx hb dX0_countBottles_29 rfl hl (by decide) rfl (fun ls hl => ?_)
  refine lv_iinc (v := 1) (lv' := [(4, .int 1), (1, .int (0 + (bf 0))), (5, .int (bf 0)), (3, .int 4), (2, .ref bo), (0, .ref h0)]) hx hb dX0_countBottles_30 hl (k := 2) rfl (by decide) (by decide) rfl (fun ls hl => ?_)
  refine lv_goto (tgt := 13) hx hb dX0_countBottles_33 (by decide) ?_
  refine lv_iload hx hb dX0_countBottles_13 (lv_at hl 0 rfl) ?_
  refine lv_iload_n hx hb dX0_countBottles_15 rfl (lv_at hl 3 rfl) ?_
  refine lv_icmp_ge (tgt := 36) hx hb dX0_countBottles_16 (by decide) (fun c_2 => absurd c_2 (by decide)) (fun c_2 => ?_)
  refine lv_aload_n hx hb dX0_countBottles_19 rfl (lv_at hl 4 rfl) ?_
  refine lv_iload hx hb dX0_countBottles_20 (lv_at hl 0 rfl) ?_
  refine zIald hx hb hK hP 1 rfl 1 rfl (by omega) (by decide) dX0_countBottles_22 ?_
  refine lv_istore (lv' := [(5, .int (bf 1)), (4, .int 1), (1, .int (0 + (bf 0))), (3, .int 4), (2, .ref bo), (0, .ref h0)]) hx hb dX0_countBottles_23 hl (by decide) rfl (fun ls hl => ?_)
  refine lv_iload_n hx hb dX0_countBottles_25 rfl (lv_at hl 2 rfl) ?_
  refine lv_iload hx hb dX0_countBottles_26 (lv_at hl 0 rfl) ?_
  refine lv_iadd hx hb dX0_countBottles_28 ?_
  refine lv_istore_n (lv' := [(1, .int ((0 + (bf 0)) + (bf 1))), (5, .int (bf 1)), (4, .int 1), (3, .int 4), (2, .ref bo), (0, .ref h0)]) hx hb dX0_countBottles_29 rfl hl (by decide) rfl (fun ls hl => ?_)
  refine lv_iinc (v := 2) (lv' := [(4, .int 2), (1, .int ((0 + (bf 0)) + (bf 1))), (5, .int (bf 1)), (3, .int 4), (2, .ref bo), (0, .ref h0)]) hx hb dX0_countBottles_30 hl (k := 2) rfl (by decide) (by decide) rfl (fun ls hl => ?_)
  refine lv_goto (tgt := 13) hx hb dX0_countBottles_33 (by decide) ?_
  refine lv_iload hx hb dX0_countBottles_13 (lv_at hl 0 rfl) ?_
  refine lv_iload_n hx hb dX0_countBottles_15 rfl (lv_at hl 3 rfl) ?_
  refine lv_icmp_ge (tgt := 36) hx hb dX0_countBottles_16 (by decide) (fun c_3 => absurd c_3 (by decide)) (fun c_3 => ?_)
  refine lv_aload_n hx hb dX0_countBottles_19 rfl (lv_at hl 4 rfl) ?_
  refine lv_iload hx hb dX0_countBottles_20 (lv_at hl 0 rfl) ?_
  refine zIald hx hb hK hP 1 rfl 2 rfl (by omega) (by decide) dX0_countBottles_22 ?_
  refine lv_istore (lv' := [(5, .int (bf 2)), (4, .int 2), (1, .int ((0 + (bf 0)) + (bf 1))), (3, .int 4), (2, .ref bo), (0, .ref h0)]) hx hb dX0_countBottles_23 hl (by decide) rfl (fun ls hl => ?_)
  refine lv_iload_n hx hb dX0_countBottles_25 rfl (lv_at hl 2 rfl) ?_
  refine lv_iload hx hb dX0_countBottles_26 (lv_at hl 0 rfl) ?_
  refine lv_iadd hx hb dX0_countBottles_28 ?_
  refine lv_istore_n (lv' := [(1, .int (((0 + (bf 0)) + (bf 1)) + (bf 2))), (5, .int (bf 2)), (4, .int 2), (3, .int 4), (2, .ref bo), (0, .ref h0)]) hx hb dX0_countBottles_29 rfl hl (by decide) rfl (fun ls hl => ?_)
  refine lv_iinc (v := 3) (lv' := [(4, .int 3), (1, .int (((0 + (bf 0)) + (bf 1)) + (bf 2))), (5, .int (bf 2)), (3, .int 4), (2, .ref bo), (0, .ref h0)]) hx hb dX0_countBottles_30 hl (k := 2) rfl (by decide) (by decide) rfl (fun ls hl => ?_)
  refine lv_goto (tgt := 13) hx hb dX0_countBottles_33 (by decide) ?_
  refine lv_iload hx hb dX0_countBottles_13 (lv_at hl 0 rfl) ?_
  refine lv_iload_n hx hb dX0_countBottles_15 rfl (lv_at hl 3 rfl) ?_
  refine lv_icmp_ge (tgt := 36) hx hb dX0_countBottles_16 (by decide) (fun c_4 => absurd c_4 (by decide)) (fun c_4 => ?_)
  refine lv_aload_n hx hb dX0_countBottles_19 rfl (lv_at hl 4 rfl) ?_
  refine lv_iload hx hb dX0_countBottles_20 (lv_at hl 0 rfl) ?_
  refine zIald hx hb hK hP 1 rfl 3 rfl (by omega) (by decide) dX0_countBottles_22 ?_
  refine lv_istore (lv' := [(5, .int (bf 3)), (4, .int 3), (1, .int (((0 + (bf 0)) + (bf 1)) + (bf 2))), (3, .int 4), (2, .ref bo), (0, .ref h0)]) hx hb dX0_countBottles_23 hl (by decide) rfl (fun ls hl => ?_)
  refine lv_iload_n hx hb dX0_countBottles_25 rfl (lv_at hl 2 rfl) ?_
  refine lv_iload hx hb dX0_countBottles_26 (lv_at hl 0 rfl) ?_
  refine lv_iadd hx hb dX0_countBottles_28 ?_
  refine lv_istore_n (lv' := [(1, .int ((((0 + (bf 0)) + (bf 1)) + (bf 2)) + (bf 3))), (5, .int (bf 3)), (4, .int 3), (3, .int 4), (2, .ref bo), (0, .ref h0)]) hx hb dX0_countBottles_29 rfl hl (by decide) rfl (fun ls hl => ?_)
  refine lv_iinc (v := 4) (lv' := [(4, .int 4), (1, .int ((((0 + (bf 0)) + (bf 1)) + (bf 2)) + (bf 3))), (5, .int (bf 3)), (3, .int 4), (2, .ref bo), (0, .ref h0)]) hx hb dX0_countBottles_30 hl (k := 2) rfl (by decide) (by decide) rfl (fun ls hl => ?_)
  refine lv_goto (tgt := 13) hx hb dX0_countBottles_33 (by decide) ?_
  refine lv_iload hx hb dX0_countBottles_13 (lv_at hl 0 rfl) ?_
  refine lv_iload_n hx hb dX0_countBottles_15 rfl (lv_at hl 3 rfl) ?_
  refine lv_icmp_ge (tgt := 36) hx hb dX0_countBottles_16 (by decide) (fun c_5 => ?_) (fun c_5 => absurd (by decide) c_5)
  refine lv_iload_n hx hb dX0_countBottles_36 rfl (lv_at hl 1 rfl) ?_
  exact zRi hx hb hr hlocks rfl (by rw [f_X0_countBottles]) rfl rfl (Nat.le_of_ble_eq_true rfl) (Nat.le_of_ble_eq_true rfl) dX0_countBottles_37

theorem wsi_X0_voidAllLabels_X0 : ∀ w ∈ wsX00, w ∈ wsX0_voidAllLabels := fun w h => List.mem_cons_of_mem _ (List.mem_append_right _ h)
set_option maxHeartbeats 4000000 in
set_option maxRecDepth 100000 in
/-- Brew.voidAllLabels() -/
theorem c_X0_voidAllLabels (l : Launch) (G : zG) (sz : Nat) (h0 : Nat) (tk : Int32) (rp : Int32) (li : Int32) (st : Int32) (me : Int32) (la : Int32) (lc : Int32) (vo : Int32) (tx : Nat) (bo : Nat) : Met l yX0_voidAllLabels wsX0_voidAllLabels { frames := 0, cells := 0, slots := 0, locals := 0 } (zPc G [.ref h0] [(h0, .inr (2, [.int tk, .int rp, .int li, .int st, .int me, .int la, .int lc, .int vo, .ref tx, .ref bo]))] sz) (zQv G (fun (u : Unit) => True) (fun u => [(h0, .inr (2, [.int tk, .int rp, .int li, .int st, .int me, .int 0, .int lc, .int (vo + la), .ref tx, .ref bo]))]) (va_A [(h0, .inr (2, [.int tk, .int rp, .int li, .int st, .int me, .int la, .int lc, .int vo, .ref tx, .ref bo]))] sz)) 0 0 (va_A [(h0, .inr (2, [.int tk, .int rp, .int li, .int st, .int me, .int la, .int lc, .int vo, .ref tx, .ref bo]))] sz) := by
  refine zOfW (Qc := fun A => zQv G (fun (u : Unit) => True) (fun u => [(h0, .inr (2, [.int tk, .int rp, .int li, .int st, .int me, .int 0, .int lc, .int (vo + la), .ref tx, .ref bo]))]) A) (fr := fun A => A) (cc := cX0_voidAllLabels) (maxL := 1) (ret := none) (by decide) rfl (Nat.le_of_ble_eq_true rfl) ?_
  intro p e s m below meth c hx hb hml hr hlocks hown hin hts A hP hK hD hE hA hS ls hl
  have hl : lv_has ls 1 [(0, .ref h0)] := hl
  have hown : s.vm.findClass RX0 = some m.cls := hown
  have hP : zP G [(h0, .inr (2, [.int tk, .int rp, .int li, .int st, .int me, .int la, .int lc, .int vo, .ref tx, .ref bo]))] s.heap := hP
  have hD : va_D A [(h0, .inr (2, [.int tk, .int rp, .int li, .int st, .int me, .int la, .int lc, .int vo, .ref tx, .ref bo]))] := hD
  refine lv_aload_n hx hb dX0_voidAllLabels_0 rfl (lv_at hl 0 rfl) ?_
  refine lv_dup hx hb dX0_voidAllLabels_1 rfl ?_
  refine va_get (D := G.1) (ci := 2) (v := .int vo) (C := RX0) (T := TX0) (N := 10) hx hb hts wsi_X0_voidAllLabels_X0 hown hK hP 0 rfl rfl 7 (by decide) (hts (.fieldLink "Cellarscheduler$Brew" 32 "Cellarscheduler$Brew" "voidLabels" "I") (List.mem_of_getElem? (i := 1) (by decide +kernel))) (fun _ h9 => h9) rfl dX0_voidAllLabels_2 ?_
  refine lv_aload_n hx hb dX0_voidAllLabels_5 rfl (lv_at hl 0 rfl) ?_
  refine va_get (D := G.1) (ci := 2) (v := .int la) (C := RX0) (T := TX0) (N := 10) hx hb hts wsi_X0_voidAllLabels_X0 hown hK hP 0 rfl rfl 5 (by decide) (hts (.fieldLink "Cellarscheduler$Brew" 26 "Cellarscheduler$Brew" "labels" "I") (List.mem_of_getElem? (i := 2) (by decide +kernel))) (fun _ h9 => h9) rfl dX0_voidAllLabels_6 ?_
  refine lv_iadd hx hb dX0_voidAllLabels_9 ?_
  refine va_put (D := G.1) (ci := 2) (v := .int (vo + la)) (ty := .int) (C := RX0) (T := TX0) (N := 10) hx hb hts wsi_X0_voidAllLabels_X0 tyX0 tyX0_ok nmX0 hown hK hP hD hS 0 rfl rfl 7 (by decide) (hts (.fieldLink "Cellarscheduler$Brew" 32 "Cellarscheduler$Brew" "voidLabels" "I") (List.mem_of_getElem? (i := 1) (by decide +kernel))) (fun _ h9 => h9) rfl (by decide +kernel) rfl rfl (Nat.le_of_ble_eq_true rfl) dX0_voidAllLabels_10 (fun H locs hP hD hS => ?_)
  have hP : zP G [(h0, .inr (2, [.int tk, .int rp, .int li, .int st, .int me, .int la, .int lc, .int (vo + la), .ref tx, .ref bo]))] H := hP
  have hD : va_D A [(h0, .inr (2, [.int tk, .int rp, .int li, .int st, .int me, .int la, .int lc, .int (vo + la), .ref tx, .ref bo]))] := hD
  refine lv_aload_n hx hb dX0_voidAllLabels_13 rfl (lv_at hl 0 rfl) ?_
  refine lv_iconst (v := 0) hx hb dX0_voidAllLabels_14 (by decide) ?_
  refine va_put (D := G.1) (ci := 2) (v := .int 0) (ty := .int) (C := RX0) (T := TX0) (N := 10) hx hb hts wsi_X0_voidAllLabels_X0 tyX0 tyX0_ok nmX0 hown hK hP hD hS 0 rfl rfl 5 (by decide) (hts (.fieldLink "Cellarscheduler$Brew" 26 "Cellarscheduler$Brew" "labels" "I") (List.mem_of_getElem? (i := 2) (by decide +kernel))) (fun _ h9 => h9) rfl (by decide +kernel) rfl rfl (Nat.le_of_ble_eq_true rfl) dX0_voidAllLabels_15 (fun H locs hP hD hS => ?_)
  have hP : zP G [(h0, .inr (2, [.int tk, .int rp, .int li, .int st, .int me, .int 0, .int lc, .int (vo + la), .ref tx, .ref bo]))] H := hP
  have hD : va_D A [(h0, .inr (2, [.int tk, .int rp, .int li, .int st, .int me, .int 0, .int lc, .int (vo + la), .ref tx, .ref bo]))] := hD
  exact zWv () hx hb hr hlocks trivial hP hD hK hS (z_pick (n := 1) [0] [] rfl (by decide) rfl rfl) (Nat.le_of_ble_eq_true rfl) (Nat.le_of_ble_eq_true rfl) dX0_voidAllLabels_18

theorem wsi_X0_addBottles_X0 : ∀ w ∈ wsX00, w ∈ wsX0_addBottles := fun w h => List.mem_cons_of_mem _ (List.mem_append_right _ h)
def f_X0_addBottles_bf (bf : Nat → Int32) (ck : Int32) (mn : Int32) : Nat → Int32 := if ck < 0 then bf else (if 4 ≤ ck then bf else (upd bf ck.toNatClampNeg ((bf ck.toNatClampNeg) + mn)))
set_option maxHeartbeats 4000000 in
set_option maxRecDepth 100000 in
/-- Brew.addBottles(class, many) -/
theorem c_X0_addBottles (l : Launch) (G : zG) (sz : Nat) (h0 : Nat) (tk : Int32) (rp : Int32) (li : Int32) (st : Int32) (me : Int32) (la : Int32) (lc : Int32) (vo : Int32) (tx : Nat) (bo : Nat) (bf : Nat → Int32) (ck : Int32) (mn : Int32) : Met l yX0_addBottles wsX0_addBottles { frames := 0, cells := 0, slots := 0, locals := 0 } (zPc G [.ref h0, .int ck, .int mn] [(h0, .inr (2, [.int tk, .int rp, .int li, .int st, .int me, .int la, .int lc, .int vo, .ref tx, .ref bo])), (bo, .inl (G.2.1 0, 4, .inl bf))] sz) (zQv G (fun (u : (Nat → Int32)) => u = f_X0_addBottles_bf bf ck mn) (fun u => [(h0, .inr (2, [.int tk, .int rp, .int li, .int st, .int me, .int la, .int lc, .int vo, .ref tx, .ref bo])), (bo, .inl (G.2.1 0, 4, .inl u))]) (va_A [(h0, .inr (2, [.int tk, .int rp, .int li, .int st, .int me, .int la, .int lc, .int vo, .ref tx, .ref bo])), (bo, .inl (G.2.1 0, 4, .inl bf))] sz)) 0 0 (va_A [(h0, .inr (2, [.int tk, .int rp, .int li, .int st, .int me, .int la, .int lc, .int vo, .ref tx, .ref bo])), (bo, .inl (G.2.1 0, 4, .inl bf))] sz) := by
  refine zOfW (Qc := fun A => zQv G (fun (u : (Nat → Int32)) => u = f_X0_addBottles_bf bf ck mn) (fun u => [(h0, .inr (2, [.int tk, .int rp, .int li, .int st, .int me, .int la, .int lc, .int vo, .ref tx, .ref bo])), (bo, .inl (G.2.1 0, 4, .inl u))]) A) (fr := fun A => A) (cc := cX0_addBottles) (maxL := 3) (ret := none) (by decide) rfl (Nat.le_of_ble_eq_true rfl) ?_
  intro p e s m below meth c hx hb hml hr hlocks hown hin hts A hP hK hD hE hA hS ls hl
  have hl : lv_has ls 3 [(0, .ref h0), (1, .int ck), (2, .int mn)] := hl
  have hown : s.vm.findClass RX0 = some m.cls := hown
  have hP : zP G [(h0, .inr (2, [.int tk, .int rp, .int li, .int st, .int me, .int la, .int lc, .int vo, .ref tx, .ref bo])), (bo, .inl (G.2.1 0, 4, .inl bf))] s.heap := hP
  have hD : va_D A [(h0, .inr (2, [.int tk, .int rp, .int li, .int st, .int me, .int la, .int lc, .int vo, .ref tx, .ref bo])), (bo, .inl (G.2.1 0, 4, .inl bf))] := hD
  refine lv_iload_n hx hb dX0_addBottles_0 rfl (lv_at hl 1 rfl) ?_
  refine lv_if_lt (tgt := 23) hx hb dX0_addBottles_1 (by decide) (fun c_1 => ?_) (fun c_1 => ?_)
  · exact zWv (bf) hx hb hr hlocks (by rw [f_X0_addBottles_bf, if_pos c_1]) hP hD hK hS (z_pick (n := 2) [0, 1] [] rfl (by decide) rfl rfl) (Nat.le_of_ble_eq_true rfl) (Nat.le_of_ble_eq_true rfl) dX0_addBottles_23
  · refine lv_iload_n hx hb dX0_addBottles_4 rfl (lv_at hl 1 rfl) ?_
    refine lv_aload_n hx hb dX0_addBottles_5 rfl (lv_at hl 0 rfl) ?_
    refine va_get (D := G.1) (ci := 2) (v := .ref bo) (C := RX0) (T := TX0) (N := 10) hx hb hts wsi_X0_addBottles_X0 hown hK hP 0 rfl rfl 9 (by decide) (hts (.fieldLink "Cellarscheduler$Brew" 47 "Cellarscheduler$Brew" "bottlesByClass" "[I") (List.mem_of_getElem? (i := 1) (by decide +kernel))) (fun _ h9 => h9) rfl dX0_addBottles_6 ?_
    refine va_alen (v := 4) hx hb hK hP 1 0 rfl rfl rfl dX0_addBottles_9 ?_
    refine lv_icmp_ge (tgt := 23) hx hb dX0_addBottles_10 (by decide) (fun c_2 => ?_) (fun c_2 => ?_)
    · exact zWv (bf) hx hb hr hlocks (by rw [f_X0_addBottles_bf, if_neg c_1, if_pos c_2]) hP hD hK hS (z_pick (n := 2) [0, 1] [] rfl (by decide) rfl rfl) (Nat.le_of_ble_eq_true rfl) (Nat.le_of_ble_eq_true rfl) dX0_addBottles_23
    · refine lv_aload_n hx hb dX0_addBottles_13 rfl (lv_at hl 0 rfl) ?_
      refine va_get (D := G.1) (ci := 2) (v := .ref bo) (C := RX0) (T := TX0) (N := 10) hx hb hts wsi_X0_addBottles_X0 hown hK hP 0 rfl rfl 9 (by decide) (hts (.fieldLink "Cellarscheduler$Brew" 47 "Cellarscheduler$Brew" "bottlesByClass" "[I") (List.mem_of_getElem? (i := 1) (by decide +kernel))) (fun _ h9 => h9) rfl dX0_addBottles_14 ?_
      refine lv_iload_n hx hb dX0_addBottles_17 rfl (lv_at hl 1 rfl) ?_
      refine lv_dup2_11 hx hb dX0_addBottles_18 rfl rfl ?_
      refine va_iald hx hb hK hP 1 0 rfl rfl (z_in2 (n := 4) (by decide) rfl c_1 c_2) dX0_addBottles_19 ?_
      refine lv_iload_n hx hb dX0_addBottles_20 rfl (lv_at hl 2 rfl) ?_
      refine lv_iadd hx hb dX0_addBottles_21 ?_
      refine va_iast hx hb hK hP hD hS 1 0 rfl rfl (z_in2 (n := 4) (by decide) rfl c_1 c_2) dX0_addBottles_22 (fun H locs hP hD hS => ?_)
      have hP : zP G [(h0, .inr (2, [.int tk, .int rp, .int li, .int st, .int me, .int la, .int lc, .int vo, .ref tx, .ref bo])), (bo, .inl (G.2.1 0, 4, .inl (upd bf ck.toNatClampNeg ((bf ck.toNatClampNeg) + mn))))] H := hP
      have hD : va_D A [(h0, .inr (2, [.int tk, .int rp, .int li, .int st, .int me, .int la, .int lc, .int vo, .ref tx, .ref bo])), (bo, .inl (G.2.1 0, 4, .inl (upd bf ck.toNatClampNeg ((bf ck.toNatClampNeg) + mn))))] := hD
      exact zWv (upd bf ck.toNatClampNeg ((bf ck.toNatClampNeg) + mn)) hx hb hr hlocks (by rw [f_X0_addBottles_bf, if_neg c_1, if_neg c_2]) hP hD hK hS (z_pick (n := 2) [0, 1] [] rfl (by decide) rfl rfl) (Nat.le_of_ble_eq_true rfl) (Nat.le_of_ble_eq_true rfl) dX0_addBottles_23

theorem wsi_X0_fillBottles_X0 : ∀ w ∈ wsX00, w ∈ wsX0_fillBottles := fun w h => List.mem_cons_of_mem _ (List.mem_append_right _ h)
set_option maxHeartbeats 4000000 in
set_option maxRecDepth 100000 in
/-- Brew.fillBottles(many) -/
theorem c_X0_fillBottles (l : Launch) (G : zG) (sz : Nat) (h0 : Nat) (tk : Int32) (rp : Int32) (li : Int32) (st : Int32) (me : Int32) (la : Int32) (lc : Int32) (vo : Int32) (tx : Nat) (bo : Nat) (bf : Nat → Int32) (mn : Int32) : Met l yX0_fillBottles wsX0_fillBottles { frames := 2, cells := 0, slots := 0, locals := 40 } (zPc G [.ref h0, .int mn] [(h0, .inr (2, [.int tk, .int rp, .int li, .int st, .int me, .int la, .int lc, .int vo, .ref tx, .ref bo])), (bo, .inl (G.2.1 0, 4, .inl bf))] sz) (zQv G (fun (u : Unit) => True) (fun u => [(h0, .inr (2, [.int tk, .int rp, .int (li - mn), .int st, .int me, .int (la - mn), .int lc, .int vo, .ref tx, .ref bo])), (bo, .inl (G.2.1 0, 4, .inl (f_X0_addBottles_bf bf (f_X2_classOf st) mn)))]) (va_A [(h0, .inr (2, [.int tk, .int rp, .int li, .int st, .int me, .int la, .int lc, .int vo, .ref tx, .ref bo])), (bo, .inl (G.2.1 0, 4, .inl bf))] sz)) 0 0 (va_A [(h0, .inr (2, [.int tk, .int rp, .int li, .int st, .int me, .int la, .int lc, .int vo, .ref tx, .ref bo])), (bo, .inl (G.2.1 0, 4, .inl bf))] sz) := by
  refine zOfW (Qc := fun A => zQv G (fun (u : Unit) => True) (fun u => [(h0, .inr (2, [.int tk, .int rp, .int (li - mn), .int st, .int me, .int (la - mn), .int lc, .int vo, .ref tx, .ref bo])), (bo, .inl (G.2.1 0, 4, .inl (f_X0_addBottles_bf bf (f_X2_classOf st) mn)))]) A) (fr := fun A => A) (cc := cX0_fillBottles) (maxL := 2) (ret := none) (by decide) rfl (Nat.le_of_ble_eq_true rfl) ?_
  intro p e s m below meth c hx hb hml hr hlocks hown hin hts A hP hK hD hE hA hS ls hl
  have hl : lv_has ls 2 [(0, .ref h0), (1, .int mn)] := hl
  have hown : s.vm.findClass RX0 = some m.cls := hown
  have hP : zP G [(h0, .inr (2, [.int tk, .int rp, .int li, .int st, .int me, .int la, .int lc, .int vo, .ref tx, .ref bo])), (bo, .inl (G.2.1 0, 4, .inl bf))] s.heap := hP
  have hD : va_D A [(h0, .inr (2, [.int tk, .int rp, .int li, .int st, .int me, .int la, .int lc, .int vo, .ref tx, .ref bo])), (bo, .inl (G.2.1 0, 4, .inl bf))] := hD
  refine lv_aload_n hx hb dX0_fillBottles_0 rfl (lv_at hl 0 rfl) ?_
  refine lv_dup hx hb dX0_fillBottles_1 rfl ?_
  refine va_get (D := G.1) (ci := 2) (v := .int li) (C := RX0) (T := TX0) (N := 10) hx hb hts wsi_X0_fillBottles_X0 hown hK hP 0 rfl rfl 2 (by decide) (hts (.fieldLink "Cellarscheduler$Brew" 16 "Cellarscheduler$Brew" "litres" "I") (List.mem_of_getElem? (i := 1) (by decide +kernel))) (fun _ h9 => h9) rfl dX0_fillBottles_2 ?_
  refine lv_iload_n hx hb dX0_fillBottles_5 rfl (lv_at hl 1 rfl) ?_
  refine lv_isub hx hb dX0_fillBottles_6 ?_
  refine va_put (D := G.1) (ci := 2) (v := .int (li - mn)) (ty := .int) (C := RX0) (T := TX0) (N := 10) hx hb hts wsi_X0_fillBottles_X0 tyX0 tyX0_ok nmX0 hown hK hP hD hS 0 rfl rfl 2 (by decide) (hts (.fieldLink "Cellarscheduler$Brew" 16 "Cellarscheduler$Brew" "litres" "I") (List.mem_of_getElem? (i := 1) (by decide +kernel))) (fun _ h9 => h9) rfl (by decide +kernel) rfl rfl (Nat.le_of_ble_eq_true rfl) dX0_fillBottles_7 (fun H locs hP hD hS => ?_)
  have hP : zP G [(h0, .inr (2, [.int tk, .int rp, .int (li - mn), .int st, .int me, .int la, .int lc, .int vo, .ref tx, .ref bo])), (bo, .inl (G.2.1 0, 4, .inl bf))] H := hP
  have hD : va_D A [(h0, .inr (2, [.int tk, .int rp, .int (li - mn), .int st, .int me, .int la, .int lc, .int vo, .ref tx, .ref bo])), (bo, .inl (G.2.1 0, 4, .inl bf))] := hD
  refine lv_aload_n hx hb dX0_fillBottles_10 rfl (lv_at hl 0 rfl) ?_
  refine lv_dup hx hb dX0_fillBottles_11 rfl ?_
  refine va_get (D := G.1) (ci := 2) (v := .int la) (C := RX0) (T := TX0) (N := 10) hx hb hts wsi_X0_fillBottles_X0 hown hK hP 0 rfl rfl 5 (by decide) (hts (.fieldLink "Cellarscheduler$Brew" 26 "Cellarscheduler$Brew" "labels" "I") (List.mem_of_getElem? (i := 2) (by decide +kernel))) (fun _ h9 => h9) rfl dX0_fillBottles_12 ?_
  refine lv_iload_n hx hb dX0_fillBottles_15 rfl (lv_at hl 1 rfl) ?_
  refine lv_isub hx hb dX0_fillBottles_16 ?_
  refine va_put (D := G.1) (ci := 2) (v := .int (la - mn)) (ty := .int) (C := RX0) (T := TX0) (N := 10) hx hb hts wsi_X0_fillBottles_X0 tyX0 tyX0_ok nmX0 hown hK hP hD hS 0 rfl rfl 5 (by decide) (hts (.fieldLink "Cellarscheduler$Brew" 26 "Cellarscheduler$Brew" "labels" "I") (List.mem_of_getElem? (i := 2) (by decide +kernel))) (fun _ h9 => h9) rfl (by decide +kernel) rfl rfl (Nat.le_of_ble_eq_true rfl) dX0_fillBottles_17 (fun H locs hP hD hS => ?_)
  have hP : zP G [(h0, .inr (2, [.int tk, .int rp, .int (li - mn), .int st, .int me, .int (la - mn), .int lc, .int vo, .ref tx, .ref bo])), (bo, .inl (G.2.1 0, 4, .inl bf))] H := hP
  have hD : va_D A [(h0, .inr (2, [.int tk, .int rp, .int (li - mn), .int st, .int me, .int (la - mn), .int lc, .int vo, .ref tx, .ref bo])), (bo, .inl (G.2.1 0, 4, .inl bf))] := hD
  refine lv_aload_n hx hb dX0_fillBottles_20 rfl (lv_at hl 0 rfl) ?_
  refine lv_aload_n hx hb dX0_fillBottles_21 rfl (lv_at hl 0 rfl) ?_
  refine zCi (r := f_X2_classOf st) (va_runV (As := []) (rest := [.ref h0]) ⟨hx, hb, hml, hown, hts⟩ (c_X0_strengthClass l G H.size h0 tk rp (li - mn) st me (la - mn) lc vo tx bo) (cwV 0 hts gX0_fillBottles_X0_strengthClass rfl rfl rfl (by decide +kernel) ⟨(Nat.le_of_ble_eq_true rfl), (Nat.le_of_ble_eq_true rfl)⟩) (zPreV hE hS hA hP hD hK (z_pick (n := 2) [0] [1] rfl (by decide) rfl rfl) (va_recv hK hP (ci := 2) (q0 := 0) rfl rfl)) rfl rfl hl.1 rfl (lv_room (Nat.le_of_ble_eq_true rfl)) dX0_fillBottles_22 ⟨(Nat.le_of_ble_eq_true rfl), (Nat.le_of_ble_eq_true rfl)⟩).run ?_
  refine lv_iload_n hx hb dX0_fillBottles_25 rfl (lv_at hl 1 rfl) ?_
  refine zDv (wr := []) (va_runV (As := [.int (f_X2_classOf st), .int mn]) (rest := []) ⟨hx, hb, hml, hown, hts⟩ (c_X0_addBottles l G H.size h0 tk rp (li - mn) st me (la - mn) lc vo tx bo bf (f_X2_classOf st) mn) (cwV 2 hts gX0_fillBottles_X0_addBottles rfl rfl rfl (by decide +kernel) ⟨(Nat.le_of_ble_eq_true rfl), (Nat.le_of_ble_eq_true rfl)⟩) (zPreV hE hS hA hP hD hK (z_pick (n := 2) [0, 1] [] rfl (by decide) rfl rfl) (va_recv hK hP (ci := 2) (q0 := 0) rfl rfl)) rfl rfl hl.1 rfl (lv_room (Nat.le_of_ble_eq_true rfl)) dX0_fillBottles_26 ⟨(Nat.le_of_ble_eq_true rfl), (Nat.le_of_ble_eq_true rfl)⟩) hP hD hS hA (z_pick (n := 2) [0, 1] [] rfl (by decide) rfl rfl) (fun u_1 H locs hp_2 hP hD hS => ?_)
  obtain ⟨bf_0, rfl⟩ : ∃ z, z = u_1 := ⟨_, rfl⟩
  have eu_1_0 := hp_2
  try dsimp only at eu_1_0
  subst eu_1_0
  have hP : zP G [(h0, .inr (2, [.int tk, .int rp, .int (li - mn), .int st, .int me, .int (la - mn), .int lc, .int vo, .ref tx, .ref bo])), (bo, .inl (G.2.1 0, 4, .inl (f_X0_addBottles_bf bf (f_X2_classOf st) mn)))] H := hP
  have hD : va_D A [(h0, .inr (2, [.int tk, .int rp, .int (li - mn), .int st, .int me, .int (la - mn), .int lc, .int vo, .ref tx, .ref bo])), (bo, .inl (G.2.1 0, 4, .inl (f_X0_addBottles_bf bf (f_X2_classOf st) mn)))] := hD
  exact zWv () hx hb hr hlocks trivial hP hD hK hS (z_pick (n := 2) [0, 1] [] rfl (by decide) rfl rfl) (Nat.le_of_ble_eq_true rfl) (Nat.le_of_ble_eq_true rfl) dX0_fillBottles_29

theorem wsi_X0_setForetold_X0 : ∀ w ∈ wsX00, w ∈ wsX0_setForetold := fun w h => List.mem_cons_of_mem _ (List.mem_append_right _ h)
set_option maxHeartbeats 4000000 in
set_option maxRecDepth 100000 in
/-- Brew.setForetold(strength) -/
theorem c_X0_setForetold (l : Launch) (G : zG) (sz : Nat) (h0 : Nat) (tk : Int32) (rp : Int32) (li : Int32) (st : Int32) (me : Int32) (la : Int32) (lc : Int32) (vo : Int32) (tx : Nat) (bo : Nat) (fo : Int32) : Met l yX0_setForetold wsX0_setForetold { frames := 0, cells := 0, slots := 0, locals := 0 } (zPc G [.ref h0, .int fo] [(h0, .inr (2, [.int tk, .int rp, .int li, .int st, .int me, .int la, .int lc, .int vo, .ref tx, .ref bo]))] sz) (zQv G (fun (u : Unit) => True) (fun u => [(h0, .inr (2, [.int tk, .int rp, .int li, .int fo, .int 0, .int la, .int lc, .int vo, .ref tx, .ref bo]))]) (va_A [(h0, .inr (2, [.int tk, .int rp, .int li, .int st, .int me, .int la, .int lc, .int vo, .ref tx, .ref bo]))] sz)) 0 0 (va_A [(h0, .inr (2, [.int tk, .int rp, .int li, .int st, .int me, .int la, .int lc, .int vo, .ref tx, .ref bo]))] sz) := by
  refine zOfW (Qc := fun A => zQv G (fun (u : Unit) => True) (fun u => [(h0, .inr (2, [.int tk, .int rp, .int li, .int fo, .int 0, .int la, .int lc, .int vo, .ref tx, .ref bo]))]) A) (fr := fun A => A) (cc := cX0_setForetold) (maxL := 2) (ret := none) (by decide) rfl (Nat.le_of_ble_eq_true rfl) ?_
  intro p e s m below meth c hx hb hml hr hlocks hown hin hts A hP hK hD hE hA hS ls hl
  have hl : lv_has ls 2 [(0, .ref h0), (1, .int fo)] := hl
  have hown : s.vm.findClass RX0 = some m.cls := hown
  have hP : zP G [(h0, .inr (2, [.int tk, .int rp, .int li, .int st, .int me, .int la, .int lc, .int vo, .ref tx, .ref bo]))] s.heap := hP
  have hD : va_D A [(h0, .inr (2, [.int tk, .int rp, .int li, .int st, .int me, .int la, .int lc, .int vo, .ref tx, .ref bo]))] := hD
  refine lv_aload_n hx hb dX0_setForetold_0 rfl (lv_at hl 0 rfl) ?_
  refine lv_iload_n hx hb dX0_setForetold_1 rfl (lv_at hl 1 rfl) ?_
  refine va_put (D := G.1) (ci := 2) (v := .int fo) (ty := .int) (C := RX0) (T := TX0) (N := 10) hx hb hts wsi_X0_setForetold_X0 tyX0 tyX0_ok nmX0 hown hK hP hD hS 0 rfl rfl 3 (by decide) (hts (.fieldLink "Cellarscheduler$Brew" 19 "Cellarscheduler$Brew" "strength" "I") (List.mem_of_getElem? (i := 1) (by decide +kernel))) (fun _ h9 => h9) rfl (by decide +kernel) rfl rfl (Nat.le_of_ble_eq_true rfl) dX0_setForetold_2 (fun H locs hP hD hS => ?_)
  have hP : zP G [(h0, .inr (2, [.int tk, .int rp, .int li, .int fo, .int me, .int la, .int lc, .int vo, .ref tx, .ref bo]))] H := hP
  have hD : va_D A [(h0, .inr (2, [.int tk, .int rp, .int li, .int fo, .int me, .int la, .int lc, .int vo, .ref tx, .ref bo]))] := hD
  refine lv_aload_n hx hb dX0_setForetold_5 rfl (lv_at hl 0 rfl) ?_
  refine lv_iconst (v := 0) hx hb dX0_setForetold_6 (by decide) ?_
  refine va_put (D := G.1) (ci := 2) (v := .int 0) (ty := .boolean) (C := RX0) (T := TX0) (N := 10) hx hb hts wsi_X0_setForetold_X0 tyX0 tyX0_ok nmX0 hown hK hP hD hS 0 rfl rfl 4 (by decide) (hts (.fieldLink "Cellarscheduler$Brew" 22 "Cellarscheduler$Brew" "isMeasured" "Z") (List.mem_of_getElem? (i := 2) (by decide +kernel))) (fun _ h9 => h9) rfl (by decide +kernel) rfl rfl (Nat.le_of_ble_eq_true rfl) dX0_setForetold_7 (fun H locs hP hD hS => ?_)
  have hP : zP G [(h0, .inr (2, [.int tk, .int rp, .int li, .int fo, .int 0, .int la, .int lc, .int vo, .ref tx, .ref bo]))] H := hP
  have hD : va_D A [(h0, .inr (2, [.int tk, .int rp, .int li, .int fo, .int 0, .int la, .int lc, .int vo, .ref tx, .ref bo]))] := hD
  exact zWv () hx hb hr hlocks trivial hP hD hK hS (z_pick (n := 1) [0] [] rfl (by decide) rfl rfl) (Nat.le_of_ble_eq_true rfl) (Nat.le_of_ble_eq_true rfl) dX0_setForetold_10

def f_X2_isWithin (va : Int32) (le : Int32) (mo : Int32) : Int32 := if va < le then 0 else (if mo < va then 0 else 1)
set_option maxHeartbeats 4000000 in
set_option maxRecDepth 100000 in
/-- isWithin -/
theorem c_X2_isWithin (l : Launch) (G : zG) (sz : Nat) (va : Int32) (le : Int32) (mo : Int32) : Met l yX2_isWithin wsX2_isWithin { frames := 0, cells := 0, slots := 0, locals := 0 } (zPc G [.int va, .int le, .int mo] [] sz) (vp_Si (fun z => z = f_X2_isWithin va le mo)) 0 0 (fun _ => False) := by
  refine zOfW (Qc := fun _ => vp_Si (fun z => z = f_X2_isWithin va le mo)) (fr := fun _ _ => False) (cc := cX2_isWithin) (maxL := 3) (ret := (some .boolean)) (by decide) rfl (Nat.le_of_ble_eq_true rfl) ?_
  intro p e s m below meth c hx hb hml hr hlocks hown hin hts A hP hK hD hE hA hS ls hl
  have hl : lv_has ls 3 [(0, .int va), (1, .int le), (2, .int mo)] := hl
  have hown : s.vm.findClass RX2 = some m.cls := hown
  refine lv_iload_n hx hb dX2_isWithin_0 rfl (lv_at hl 0 rfl) ?_
  refine lv_iload_n hx hb dX2_isWithin_1 rfl (lv_at hl 1 rfl) ?_
  refine lv_icmp_lt (tgt := 14) hx hb dX2_isWithin_2 (by decide) (fun c_1 => ?_) (fun c_1 => ?_)
  · refine lv_iconst (v := 0) hx hb dX2_isWithin_14 (by decide) ?_
    exact zRi hx hb hr hlocks rfl (by rw [f_X2_isWithin, if_pos c_1]) rfl rfl (Nat.le_of_ble_eq_true rfl) (Nat.le_of_ble_eq_true rfl) dX2_isWithin_15
  · refine lv_iload_n hx hb dX2_isWithin_5 rfl (lv_at hl 0 rfl) ?_
    refine lv_iload_n hx hb dX2_isWithin_6 rfl (lv_at hl 2 rfl) ?_
    refine lv_icmp_gt (tgt := 14) hx hb dX2_isWithin_7 (by decide) (fun c_2 => ?_) (fun c_2 => ?_)
    · refine lv_iconst (v := 0) hx hb dX2_isWithin_14 (by decide) ?_
      exact zRi hx hb hr hlocks rfl (by rw [f_X2_isWithin, if_neg c_1, if_pos c_2]) rfl rfl (Nat.le_of_ble_eq_true rfl) (Nat.le_of_ble_eq_true rfl) dX2_isWithin_15
    · refine lv_iconst (v := 1) hx hb dX2_isWithin_10 (by decide) ?_
      refine lv_goto (tgt := 15) hx hb dX2_isWithin_11 (by decide) ?_
      exact zRi hx hb hr hlocks rfl (by rw [f_X2_isWithin, if_neg c_1, if_neg c_2]) rfl rfl (Nat.le_of_ble_eq_true rfl) (Nat.le_of_ble_eq_true rfl) dX2_isWithin_15

def f_X2_valueAt_d (pl : Int32) : Int32 := if pl < 0 then 0 else (if 3 ≤ pl then 0 else (zyd pl.toNatClampNeg))
set_option maxHeartbeats 4000000 in
set_option maxRecDepth 100000 in
/-- valueAt of a static table -/
theorem c_X2_valueAt_d (l : Launch) (G : zG) (sz : Nat) (pl : Int32) : Met l yX2_valueAt wsX2_valueAt { frames := 0, cells := 0, slots := 0, locals := 0 } (zPc G [.ref (G.2.2 0), .int pl] [] sz) (vp_Si (fun z => z = f_X2_valueAt_d pl)) 0 0 (fun _ => False) := by
  refine zOfW (Qc := fun _ => vp_Si (fun z => z = f_X2_valueAt_d pl)) (fr := fun _ _ => False) (cc := cX2_valueAt) (maxL := 2) (ret := (some .int)) (by decide) rfl (Nat.le_of_ble_eq_true rfl) ?_
  intro p e s m below meth c hx hb hml hr hlocks hown hin hts A hP hK hD hE hA hS ls hl
  have hl : lv_has ls 2 [(0, .ref (G.2.2 0)), (1, .int pl)] := hl
  have hown : s.vm.findClass RX2 = some m.cls := hown
  refine lv_iload_n hx hb dX2_valueAt_0 rfl (lv_at hl 1 rfl) ?_
  refine lv_if_lt (tgt := 16) hx hb dX2_valueAt_1 (by decide) (fun c_1 => ?_) (fun c_1 => ?_)
  · refine lv_iconst (v := 0) hx hb dX2_valueAt_16 (by decide) ?_
    exact zRi hx hb hr hlocks rfl (by rw [f_X2_valueAt_d, if_pos c_1]) rfl rfl (Nat.le_of_ble_eq_true rfl) (Nat.le_of_ble_eq_true rfl) dX2_valueAt_17
  · refine lv_iload_n hx hb dX2_valueAt_4 rfl (lv_at hl 1 rfl) ?_
    refine lv_aload_n hx hb dX2_valueAt_5 rfl (lv_at hl 0 rfl) ?_
    refine va_tlen (v := 3) hx hb hE.2.2.2.1.2 hS rfl dX2_valueAt_6 ?_
    refine lv_icmp_ge (tgt := 16) hx hb dX2_valueAt_7 (by decide) (fun c_2 => ?_) (fun c_2 => ?_)
    · refine lv_iconst (v := 0) hx hb dX2_valueAt_16 (by decide) ?_
      exact zRi hx hb hr hlocks rfl (by rw [f_X2_valueAt_d, if_neg c_1, if_pos c_2]) rfl rfl (Nat.le_of_ble_eq_true rfl) (Nat.le_of_ble_eq_true rfl) dX2_valueAt_17
    · refine lv_aload_n hx hb dX2_valueAt_10 rfl (lv_at hl 0 rfl) ?_
      refine lv_iload_n hx hb dX2_valueAt_11 rfl (lv_at hl 1 rfl) ?_
      refine va_ti (v := .int (zyd pl.toNatClampNeg)) hx hb hE.2.2.2.1.2 hS (z_in2 (n := 3) (by decide) rfl c_1 c_2) rfl dX2_valueAt_12 ?_
      refine lv_goto (tgt := 17) hx hb dX2_valueAt_13 (by decide) ?_
      exact zRi hx hb hr hlocks rfl (by rw [f_X2_valueAt_d, if_neg c_1, if_neg c_2]) rfl rfl (Nat.le_of_ble_eq_true rfl) (Nat.le_of_ble_eq_true rfl) dX2_valueAt_17

def f_X2_valueAt_p (pl : Int32) : Int32 := if pl < 0 then 0 else (if 3 ≤ pl then 0 else (zyp pl.toNatClampNeg))
set_option maxHeartbeats 4000000 in
set_option maxRecDepth 100000 in
/-- valueAt of a static table -/
theorem c_X2_valueAt_p (l : Launch) (G : zG) (sz : Nat) (pl : Int32) : Met l yX2_valueAt wsX2_valueAt { frames := 0, cells := 0, slots := 0, locals := 0 } (zPc G [.ref (G.2.2 1), .int pl] [] sz) (vp_Si (fun z => z = f_X2_valueAt_p pl)) 0 0 (fun _ => False) := by
  refine zOfW (Qc := fun _ => vp_Si (fun z => z = f_X2_valueAt_p pl)) (fr := fun _ _ => False) (cc := cX2_valueAt) (maxL := 2) (ret := (some .int)) (by decide) rfl (Nat.le_of_ble_eq_true rfl) ?_
  intro p e s m below meth c hx hb hml hr hlocks hown hin hts A hP hK hD hE hA hS ls hl
  have hl : lv_has ls 2 [(0, .ref (G.2.2 1)), (1, .int pl)] := hl
  have hown : s.vm.findClass RX2 = some m.cls := hown
  refine lv_iload_n hx hb dX2_valueAt_0 rfl (lv_at hl 1 rfl) ?_
  refine lv_if_lt (tgt := 16) hx hb dX2_valueAt_1 (by decide) (fun c_1 => ?_) (fun c_1 => ?_)
  · refine lv_iconst (v := 0) hx hb dX2_valueAt_16 (by decide) ?_
    exact zRi hx hb hr hlocks rfl (by rw [f_X2_valueAt_p, if_pos c_1]) rfl rfl (Nat.le_of_ble_eq_true rfl) (Nat.le_of_ble_eq_true rfl) dX2_valueAt_17
  · refine lv_iload_n hx hb dX2_valueAt_4 rfl (lv_at hl 1 rfl) ?_
    refine lv_aload_n hx hb dX2_valueAt_5 rfl (lv_at hl 0 rfl) ?_
    refine va_tlen (v := 3) hx hb hE.2.2.2.2.1.2 hS rfl dX2_valueAt_6 ?_
    refine lv_icmp_ge (tgt := 16) hx hb dX2_valueAt_7 (by decide) (fun c_2 => ?_) (fun c_2 => ?_)
    · refine lv_iconst (v := 0) hx hb dX2_valueAt_16 (by decide) ?_
      exact zRi hx hb hr hlocks rfl (by rw [f_X2_valueAt_p, if_neg c_1, if_pos c_2]) rfl rfl (Nat.le_of_ble_eq_true rfl) (Nat.le_of_ble_eq_true rfl) dX2_valueAt_17
    · refine lv_aload_n hx hb dX2_valueAt_10 rfl (lv_at hl 0 rfl) ?_
      refine lv_iload_n hx hb dX2_valueAt_11 rfl (lv_at hl 1 rfl) ?_
      refine va_ti (v := .int (zyp pl.toNatClampNeg)) hx hb hE.2.2.2.2.1.2 hS (z_in2 (n := 3) (by decide) rfl c_1 c_2) rfl dX2_valueAt_12 ?_
      refine lv_goto (tgt := 17) hx hb dX2_valueAt_13 (by decide) ?_
      exact zRi hx hb hr hlocks rfl (by rw [f_X2_valueAt_p, if_neg c_1, if_neg c_2]) rfl rfl (Nat.le_of_ble_eq_true rfl) (Nat.le_of_ble_eq_true rfl) dX2_valueAt_17

def f_X2_valueAt_s (pl : Int32) : Int32 := if pl < 0 then 0 else (if 4 ≤ pl then 0 else (zst pl.toNatClampNeg))
set_option maxHeartbeats 4000000 in
set_option maxRecDepth 100000 in
/-- valueAt of a static table -/
theorem c_X2_valueAt_s (l : Launch) (G : zG) (sz : Nat) (pl : Int32) : Met l yX2_valueAt wsX2_valueAt { frames := 0, cells := 0, slots := 0, locals := 0 } (zPc G [.ref (G.2.2 2), .int pl] [] sz) (vp_Si (fun z => z = f_X2_valueAt_s pl)) 0 0 (fun _ => False) := by
  refine zOfW (Qc := fun _ => vp_Si (fun z => z = f_X2_valueAt_s pl)) (fr := fun _ _ => False) (cc := cX2_valueAt) (maxL := 2) (ret := (some .int)) (by decide) rfl (Nat.le_of_ble_eq_true rfl) ?_
  intro p e s m below meth c hx hb hml hr hlocks hown hin hts A hP hK hD hE hA hS ls hl
  have hl : lv_has ls 2 [(0, .ref (G.2.2 2)), (1, .int pl)] := hl
  have hown : s.vm.findClass RX2 = some m.cls := hown
  refine lv_iload_n hx hb dX2_valueAt_0 rfl (lv_at hl 1 rfl) ?_
  refine lv_if_lt (tgt := 16) hx hb dX2_valueAt_1 (by decide) (fun c_1 => ?_) (fun c_1 => ?_)
  · refine lv_iconst (v := 0) hx hb dX2_valueAt_16 (by decide) ?_
    exact zRi hx hb hr hlocks rfl (by rw [f_X2_valueAt_s, if_pos c_1]) rfl rfl (Nat.le_of_ble_eq_true rfl) (Nat.le_of_ble_eq_true rfl) dX2_valueAt_17
  · refine lv_iload_n hx hb dX2_valueAt_4 rfl (lv_at hl 1 rfl) ?_
    refine lv_aload_n hx hb dX2_valueAt_5 rfl (lv_at hl 0 rfl) ?_
    refine va_tlen (v := 4) hx hb hE.2.2.2.2.2.1.2 hS rfl dX2_valueAt_6 ?_
    refine lv_icmp_ge (tgt := 16) hx hb dX2_valueAt_7 (by decide) (fun c_2 => ?_) (fun c_2 => ?_)
    · refine lv_iconst (v := 0) hx hb dX2_valueAt_16 (by decide) ?_
      exact zRi hx hb hr hlocks rfl (by rw [f_X2_valueAt_s, if_neg c_1, if_pos c_2]) rfl rfl (Nat.le_of_ble_eq_true rfl) (Nat.le_of_ble_eq_true rfl) dX2_valueAt_17
    · refine lv_aload_n hx hb dX2_valueAt_10 rfl (lv_at hl 0 rfl) ?_
      refine lv_iload_n hx hb dX2_valueAt_11 rfl (lv_at hl 1 rfl) ?_
      refine va_ti (v := .int (zst pl.toNatClampNeg)) hx hb hE.2.2.2.2.2.1.2 hS (z_in2 (n := 4) (by decide) rfl c_1 c_2) rfl dX2_valueAt_12 ?_
      refine lv_goto (tgt := 17) hx hb dX2_valueAt_13 (by decide) ?_
      exact zRi hx hb hr hlocks rfl (by rw [f_X2_valueAt_s, if_neg c_1, if_neg c_2]) rfl rfl (Nat.le_of_ble_eq_true rfl) (Nat.le_of_ble_eq_true rfl) dX2_valueAt_17

def f_X2_valueAt_r (rn : Nat) (rf : Nat → Int32) (pl : Int32) : Int32 := if pl < 0 then 0 else (if (nI rn) ≤ pl then 0 else (rf pl.toNatClampNeg))
set_option maxHeartbeats 4000000 in
set_option maxRecDepth 100000 in
/-- valueAt of a row -/
theorem c_X2_valueAt_r (l : Launch) (G : zG) (sz : Nat) (ra : Nat) (rn : Nat) (rf : Nat → Int32) (pl : Int32) (hrn : rn < 2 ^ 31) : Met l yX2_valueAt wsX2_valueAt { frames := 0, cells := 0, slots := 0, locals := 0 } (zPc G [.ref ra, .int pl] [(ra, .inl (G.2.1 0, rn, .inl rf))] sz) (vp_Si (fun z => z = f_X2_valueAt_r rn rf pl)) 0 0 (fun _ => False) := by
  refine zOfW (Qc := fun _ => vp_Si (fun z => z = f_X2_valueAt_r rn rf pl)) (fr := fun _ _ => False) (cc := cX2_valueAt) (maxL := 2) (ret := (some .int)) (by decide) rfl (Nat.le_of_ble_eq_true rfl) ?_
  intro p e s m below meth c hx hb hml hr hlocks hown hin hts A hP hK hD hE hA hS ls hl
  have hl : lv_has ls 2 [(0, .ref ra), (1, .int pl)] := hl
  have hown : s.vm.findClass RX2 = some m.cls := hown
  have hP : zP G [(ra, .inl (G.2.1 0, rn, .inl rf))] s.heap := hP
  have hD : va_D A [(ra, .inl (G.2.1 0, rn, .inl rf))] := hD
  refine lv_iload_n hx hb dX2_valueAt_0 rfl (lv_at hl 1 rfl) ?_
  refine lv_if_lt (tgt := 16) hx hb dX2_valueAt_1 (by decide) (fun c_1 => ?_) (fun c_1 => ?_)
  · refine lv_iconst (v := 0) hx hb dX2_valueAt_16 (by decide) ?_
    exact zRi hx hb hr hlocks rfl (by rw [f_X2_valueAt_r, if_pos c_1]) rfl rfl (Nat.le_of_ble_eq_true rfl) (Nat.le_of_ble_eq_true rfl) dX2_valueAt_17
  · refine lv_iload_n hx hb dX2_valueAt_4 rfl (lv_at hl 1 rfl) ?_
    refine lv_aload_n hx hb dX2_valueAt_5 rfl (lv_at hl 0 rfl) ?_
    refine va_alen (v := nI rn) hx hb hK hP 0 0 rfl rfl rfl dX2_valueAt_6 ?_
    refine lv_icmp_ge (tgt := 16) hx hb dX2_valueAt_7 (by decide) (fun c_2 => ?_) (fun c_2 => ?_)
    · refine lv_iconst (v := 0) hx hb dX2_valueAt_16 (by decide) ?_
      exact zRi hx hb hr hlocks rfl (by rw [f_X2_valueAt_r, if_neg c_1, if_pos c_2]) rfl rfl (Nat.le_of_ble_eq_true rfl) (Nat.le_of_ble_eq_true rfl) dX2_valueAt_17
    · refine lv_aload_n hx hb dX2_valueAt_10 rfl (lv_at hl 0 rfl) ?_
      refine lv_iload_n hx hb dX2_valueAt_11 rfl (lv_at hl 1 rfl) ?_
      refine va_iald hx hb hK hP 0 0 rfl rfl (z_in2 (n := rn) hrn rfl c_1 c_2) dX2_valueAt_12 ?_
      refine lv_goto (tgt := 17) hx hb dX2_valueAt_13 (by decide) ?_
      exact zRi hx hb hr hlocks rfl (by rw [f_X2_valueAt_r, if_neg c_1, if_neg c_2]) rfl rfl (Nat.le_of_ble_eq_true rfl) (Nat.le_of_ble_eq_true rfl) dX2_valueAt_17

def f_X2_stampOf (ck : Int32) : Int32 := f_X2_valueAt_s ck
set_option maxHeartbeats 4000000 in
set_option maxRecDepth 100000 in
/-- stampOf -/
theorem c_X2_stampOf (l : Launch) (G : zG) (sz : Nat) (ck : Int32) : Met l yX2_stampOf wsX2_stampOf { frames := 1, cells := 0, slots := 0, locals := 21 } (zPc G [.int ck] [] sz) (vp_Si (fun z => z = f_X2_stampOf ck)) 0 0 (fun _ => False) := by
  refine zOfW (Qc := fun _ => vp_Si (fun z => z = f_X2_stampOf ck)) (fr := fun _ _ => False) (cc := cX2_stampOf) (maxL := 1) (ret := (some .int)) (by decide) rfl (Nat.le_of_ble_eq_true rfl) ?_
  intro p e s m below meth c hx hb hml hr hlocks hown hin hts A hP hK hD hE hA hS ls hl
  have hl : lv_has ls 1 [(0, .int ck)] := hl
  have hown : s.vm.findClass RX2 = some m.cls := hown
  refine va_gets (v := .ref (G.2.2 2)) hx hb hE.2.2.2.2.2.1.1 hS hown (hts (.fieldLink "Cellarscheduler" 198 "Cellarscheduler" "STAMPS" "[I") (List.mem_of_getElem? (i := 1) (by decide +kernel))) (fun _ h9 => h9) dX2_stampOf_0 ?_
  refine lv_iload_n hx hb dX2_stampOf_3 rfl (lv_at hl 0 rfl) ?_
  refine zCi (r := f_X2_valueAt_s ck) (va_runS (As := [.ref (G.2.2 2), .int ck]) (rest := []) ⟨hx, hb, hml, hown, hts⟩ (c_X2_valueAt_s l G s.heap.size ck) (va_cwS 2 hts gX2_stampOf_X2_valueAt rfl rfl rfl (by decide +kernel) ⟨(Nat.le_of_ble_eq_true rfl), (Nat.le_of_ble_eq_true rfl)⟩) (zPreS hE hS hA hP hD hK (z_pick (n := 0) [] [] rfl (by decide) rfl rfl)) rfl rfl hl.1 rfl (lv_room (Nat.le_of_ble_eq_true rfl)) dX2_stampOf_4 ⟨(Nat.le_of_ble_eq_true rfl), (Nat.le_of_ble_eq_true rfl)⟩).run ?_
  exact zRi hx hb hr hlocks rfl (by rw [f_X2_stampOf]) rfl rfl (Nat.le_of_ble_eq_true rfl) (Nat.le_of_ble_eq_true rfl) dX2_stampOf_7

def f_X2_foretoldStrength (ex : Int32) (ye : Int32) : Int32 := (ex * (f_X2_valueAt_p ye)) / 200
set_option maxHeartbeats 4000000 in
set_option maxRecDepth 100000 in
/-- foretoldStrength -/
theorem c_X2_foretoldStrength (l : Launch) (G : zG) (sz : Nat) (ex : Int32) (ye : Int32) : Met l yX2_foretoldStrength wsX2_foretoldStrength { frames := 1, cells := 0, slots := 0, locals := 21 } (zPc G [.int ex, .int ye] [] sz) (vp_Si (fun z => z = f_X2_foretoldStrength ex ye)) 0 0 (fun _ => False) := by
  refine zOfW (Qc := fun _ => vp_Si (fun z => z = f_X2_foretoldStrength ex ye)) (fr := fun _ _ => False) (cc := cX2_foretoldStrength) (maxL := 2) (ret := (some .int)) (by decide) rfl (Nat.le_of_ble_eq_true rfl) ?_
  intro p e s m below meth c hx hb hml hr hlocks hown hin hts A hP hK hD hE hA hS ls hl
  have hl : lv_has ls 2 [(0, .int ex), (1, .int ye)] := hl
  have hown : s.vm.findClass RX2 = some m.cls := hown
  refine lv_iload_n hx hb dX2_foretoldStrength_0 rfl (lv_at hl 0 rfl) ?_
  refine va_gets (v := .ref (G.2.2 1)) hx hb hE.2.2.2.2.1.1 hS hown (hts (.fieldLink "Cellarscheduler" 195 "Cellarscheduler" "YEAST_PERCENTS" "[I") (List.mem_of_getElem? (i := 1) (by decide +kernel))) (fun _ h9 => h9) dX2_foretoldStrength_1 ?_
  refine lv_iload_n hx hb dX2_foretoldStrength_4 rfl (lv_at hl 1 rfl) ?_
  refine zCi (r := f_X2_valueAt_p ye) (va_runS (As := [.ref (G.2.2 1), .int ye]) (rest := [.int ex]) ⟨hx, hb, hml, hown, hts⟩ (c_X2_valueAt_p l G s.heap.size ye) (va_cwS 2 hts gX2_foretoldStrength_X2_valueAt rfl rfl rfl (by decide +kernel) ⟨(Nat.le_of_ble_eq_true rfl), (Nat.le_of_ble_eq_true rfl)⟩) (zPreS hE hS hA hP hD hK (z_pick (n := 0) [] [] rfl (by decide) rfl rfl)) rfl rfl hl.1 rfl (lv_room (Nat.le_of_ble_eq_true rfl)) dX2_foretoldStrength_5 ⟨(Nat.le_of_ble_eq_true rfl), (Nat.le_of_ble_eq_true rfl)⟩).run ?_
  refine lv_imul hx hb dX2_foretoldStrength_8 ?_
  refine lv_sipush (v := 200) hx hb dX2_foretoldStrength_9 (by decide) ?_
  refine lv_idiv hx hb dX2_foretoldStrength_12 (by decide) ?_
  exact zRi hx hb hr hlocks rfl (by rw [f_X2_foretoldStrength]) rfl rfl (Nat.le_of_ble_eq_true rfl) (Nat.le_of_ble_eq_true rfl) dX2_foretoldStrength_13

def f_X2_blendedStrength (s1 : Int32) (l1 : Int32) (s2 : Int32) (l2 : Int32) : Int32 := if (l1 + l2) ≤ 0 then s1 else (((s1 * l1) + (s2 * l2)) / (l1 + l2))
set_option maxHeartbeats 4000000 in
set_option maxRecDepth 100000 in
/-- blendedStrength -/
theorem c_X2_blendedStrength (l : Launch) (G : zG) (sz : Nat) (s1 : Int32) (l1 : Int32) (s2 : Int32) (l2 : Int32) : Met l yX2_blendedStrength wsX2_blendedStrength { frames := 0, cells := 0, slots := 0, locals := 0 } (zPc G [.int s1, .int l1, .int s2, .int l2] [] sz) (vp_Si (fun z => z = f_X2_blendedStrength s1 l1 s2 l2)) 0 0 (fun _ => False) := by
  refine zOfW (Qc := fun _ => vp_Si (fun z => z = f_X2_blendedStrength s1 l1 s2 l2)) (fr := fun _ _ => False) (cc := cX2_blendedStrength) (maxL := 5) (ret := (some .int)) (by decide) rfl (Nat.le_of_ble_eq_true rfl) ?_
  intro p e s m below meth c hx hb hml hr hlocks hown hin hts A hP hK hD hE hA hS ls hl
  have hl : lv_has ls 5 [(0, .int s1), (1, .int l1), (2, .int s2), (3, .int l2)] := hl
  have hown : s.vm.findClass RX2 = some m.cls := hown
  refine lv_iload_n hx hb dX2_blendedStrength_0 rfl (lv_at hl 1 rfl) ?_
  refine lv_iload_n hx hb dX2_blendedStrength_1 rfl (lv_at hl 3 rfl) ?_
  refine lv_iadd hx hb dX2_blendedStrength_2 ?_
  refine lv_istore (lv' := [(4, .int (l1 + l2)), (0, .int s1), (1, .int l1), (2, .int s2), (3, .int l2)]) hx hb dX2_blendedStrength_3 hl (by decide) rfl (fun ls hl => ?_)
  refine lv_iload hx hb dX2_blendedStrength_5 (lv_at hl 0 rfl) ?_
  refine lv_if_le (tgt := 23) hx hb dX2_blendedStrength_7 (by decide) (fun c_1 => ?_) (fun c_1 => ?_)
  · refine lv_iload_n hx hb dX2_blendedStrength_23 rfl (lv_at hl 1 rfl) ?_
    exact zRi hx hb hr hlocks rfl (by rw [f_X2_blendedStrength, if_pos c_1]) rfl rfl (Nat.le_of_ble_eq_true rfl) (Nat.le_of_ble_eq_true rfl) dX2_blendedStrength_24
  · refine lv_iload_n hx hb dX2_blendedStrength_10 rfl (lv_at hl 1 rfl) ?_
    refine lv_iload_n hx hb dX2_blendedStrength_11 rfl (lv_at hl 2 rfl) ?_
    refine lv_imul hx hb dX2_blendedStrength_12 ?_
    refine lv_iload_n hx hb dX2_blendedStrength_13 rfl (lv_at hl 3 rfl) ?_
    refine lv_iload_n hx hb dX2_blendedStrength_14 rfl (lv_at hl 4 rfl) ?_
    refine lv_imul hx hb dX2_blendedStrength_15 ?_
    refine lv_iadd hx hb dX2_blendedStrength_16 ?_
    refine lv_iload hx hb dX2_blendedStrength_17 (lv_at hl 0 rfl) ?_
    refine lv_idiv hx hb dX2_blendedStrength_19 (z_ne0 c_1) ?_
    refine lv_goto (tgt := 24) hx hb dX2_blendedStrength_20 (by decide) ?_
    exact zRi hx hb hr hlocks rfl (by rw [f_X2_blendedStrength, if_neg c_1]) rfl rfl (Nat.le_of_ble_eq_true rfl) (Nat.le_of_ble_eq_true rfl) dX2_blendedStrength_24

theorem wsi_X0_raiseStamps_X0 : ∀ w ∈ wsX00, w ∈ wsX0_raiseStamps := fun w h => List.mem_cons_of_mem _ (List.mem_append_right _ h)
def f_X0_raiseStamps (bf : Nat → Int32) (to : Int32) : Int32 := if to = 0 then 0 else (if to = 1 then (0 + ((bf 0) * 2)) else (if to = 2 then ((0 + ((bf 0) * 5)) + (((f_X0_addBottles_bf (upd bf 0 0) 2 (bf 0)) 1) * 3)) else (((0 + ((bf 0) * 11)) + (((f_X0_addBottles_bf (upd bf 0 0) 3 (bf 0)) 1) * 9)) + (((f_X0_addBottles_bf (upd (f_X0_addBottles_bf (upd bf 0 0) 3 (bf 0)) 1 0) 3 ((f_X0_addBottles_bf (upd bf 0 0) 3 (bf 0)) 1)) 2) * 6))))
def f_X0_raiseStamps_bf (bf : Nat → Int32) (to : Int32) : Nat → Int32 := if to = 0 then bf else (if to = 1 then (f_X0_addBottles_bf (upd bf 0 0) 1 (bf 0)) else (if to = 2 then (f_X0_addBottles_bf (upd (f_X0_addBottles_bf (upd bf 0 0) 2 (bf 0)) 1 0) 2 ((f_X0_addBottles_bf (upd bf 0 0) 2 (bf 0)) 1)) else (f_X0_addBottles_bf (upd (f_X0_addBottles_bf (upd (f_X0_addBottles_bf (upd bf 0 0) 3 (bf 0)) 1 0) 3 ((f_X0_addBottles_bf (upd bf 0 0) 3 (bf 0)) 1)) 2 0) 3 ((f_X0_addBottles_bf (upd (f_X0_addBottles_bf (upd bf 0 0) 3 (bf 0)) 1 0) 3 ((f_X0_addBottles_bf (upd bf 0 0) 3 (bf 0)) 1)) 2))))
set_option maxHeartbeats 4000000 in
set_option maxRecDepth 100000 in
/-- Brew.raiseStamps(class): up to three turns -/
theorem c_X0_raiseStamps (l : Launch) (G : zG) (sz : Nat) (h0 : Nat) (tk : Int32) (rp : Int32) (li : Int32) (st : Int32) (me : Int32) (la : Int32) (lc : Int32) (vo : Int32) (tx : Nat) (bo : Nat) (bf : Nat → Int32) (to : Int32) (hk : to = 0 ∨ to = 1 ∨ to = 2 ∨ to = 3) : Met l yX0_raiseStamps wsX0_raiseStamps { frames := 2, cells := 0, slots := 0, locals := 41 } (zPc G [.ref h0, .int to] [(h0, .inr (2, [.int tk, .int rp, .int li, .int st, .int me, .int la, .int lc, .int vo, .ref tx, .ref bo])), (bo, .inl (G.2.1 0, 4, .inl bf))] sz) (zQi G (fun (r : Int32) (u : (Nat → Int32)) => r = f_X0_raiseStamps bf to ∧ u = f_X0_raiseStamps_bf bf to) (fun u => [(h0, .inr (2, [.int tk, .int rp, .int li, .int st, .int me, .int la, .int lc, .int vo, .ref tx, .ref bo])), (bo, .inl (G.2.1 0, 4, .inl u))]) (va_A [(h0, .inr (2, [.int tk, .int rp, .int li, .int st, .int me, .int la, .int lc, .int vo, .ref tx, .ref bo])), (bo, .inl (G.2.1 0, 4, .inl bf))] sz)) 0 0 (va_A [(h0, .inr (2, [.int tk, .int rp, .int li, .int st, .int me, .int la, .int lc, .int vo, .ref tx, .ref bo])), (bo, .inl (G.2.1 0, 4, .inl bf))] sz) := by
  refine zOfW (Qc := fun A => zQi G (fun (r : Int32) (u : (Nat → Int32)) => r = f_X0_raiseStamps bf to ∧ u = f_X0_raiseStamps_bf bf to) (fun u => [(h0, .inr (2, [.int tk, .int rp, .int li, .int st, .int me, .int la, .int lc, .int vo, .ref tx, .ref bo])), (bo, .inl (G.2.1 0, 4, .inl u))]) A) (fr := fun A => A) (cc := cX0_raiseStamps) (maxL := 5) (ret := (some .int)) (by decide) rfl (Nat.le_of_ble_eq_true rfl) ?_
  intro p e s m below meth c hx hb hml hr hlocks hown hin hts A hP hK hD hE hA hS ls hl
  have hl : lv_has ls 5 [(0, .ref h0), (1, .int to)] := hl
  have hown : s.vm.findClass RX0 = some m.cls := hown
  have hP : zP G [(h0, .inr (2, [.int tk, .int rp, .int li, .int st, .int me, .int la, .int lc, .int vo, .ref tx, .ref bo])), (bo, .inl (G.2.1 0, 4, .inl bf))] s.heap := hP
  have hD : va_D A [(h0, .inr (2, [.int tk, .int rp, .int li, .int st, .int me, .int la, .int lc, .int vo, .ref tx, .ref bo])), (bo, .inl (G.2.1 0, 4, .inl bf))] := hD
  rcases hk with rfl | rfl | rfl | rfl
  · have hl : lv_has ls 5 [(0, .ref h0), (1, .int 0)] := hl
    refine lv_iconst (v := 0) hx hb dX0_raiseStamps_0 (by decide) ?_
    refine lv_istore_n (lv' := [(2, .int 0), (0, .ref h0), (1, .int 0)]) hx hb dX0_raiseStamps_1 rfl hl (by decide) rfl (fun ls hl => ?_)
    refine lv_iconst (v := 0) hx hb dX0_raiseStamps_2 (by decide) ?_
    refine lv_istore_n (lv' := [(3, .int 0), (2, .int 0), (0, .ref h0), (1, .int 0)]) hx hb dX0_raiseStamps_3 rfl hl (by decide) rfl (fun ls hl => ?_)
    refine lv_iload_n hx hb dX0_raiseStamps_4 rfl (lv_at hl 0 rfl) ?_
    refine lv_iload_n hx hb dX0_raiseStamps_5 rfl (lv_at hl 3 rfl) ?_
    refine lv_icmp_ge (tgt := 61) hx hb dX0_raiseStamps_6 (by decide) (fun c_1 => ?_) (fun c_1 => absurd (by decide) c_1)
    refine lv_iload_n hx hb dX0_raiseStamps_61 rfl (lv_at hl 1 rfl) ?_
    exact zWi (bf) hx hb hr hlocks rfl ⟨(by rw [f_X0_raiseStamps, if_pos (rfl : (0 : Int32) = 0)]), (by rw [f_X0_raiseStamps_bf, if_pos (rfl : (0 : Int32) = 0)])⟩ hP hD hK hS (z_pick (n := 2) [0, 1] [] rfl (by decide) rfl rfl) (Nat.le_of_ble_eq_true rfl) (Nat.le_of_ble_eq_true rfl) dX0_raiseStamps_62
  · have hl : lv_has ls 5 [(0, .ref h0), (1, .int 1)] := hl
    refine lv_iconst (v := 0) hx hb dX0_raiseStamps_0 (by decide) ?_
    refine lv_istore_n (lv' := [(2, .int 0), (0, .ref h0), (1, .int 1)]) hx hb dX0_raiseStamps_1 rfl hl (by decide) rfl (fun ls hl => ?_)
    refine lv_iconst (v := 0) hx hb dX0_raiseStamps_2 (by decide) ?_
    refine lv_istore_n (lv' := [(3, .int 0), (2, .int 0), (0, .ref h0), (1, .int 1)]) hx hb dX0_raiseStamps_3 rfl hl (by decide) rfl (fun ls hl => ?_)
    refine lv_iload_n hx hb dX0_raiseStamps_4 rfl (lv_at hl 0 rfl) ?_
    refine lv_iload_n hx hb dX0_raiseStamps_5 rfl (lv_at hl 3 rfl) ?_
    refine lv_icmp_ge (tgt := 61) hx hb dX0_raiseStamps_6 (by decide) (fun c_2 => absurd c_2 (by decide)) (fun c_2 => ?_)
    refine lv_iload_n hx hb dX0_raiseStamps_9 rfl (lv_at hl 0 rfl) ?_
    refine lv_aload_n hx hb dX0_raiseStamps_10 rfl (lv_at hl 2 rfl) ?_
    refine va_get (D := G.1) (ci := 2) (v := .ref bo) (C := RX0) (T := TX0) (N := 10) hx hb hts wsi_X0_raiseStamps_X0 hown hK hP 0 rfl rfl 9 (by decide) (hts (.fieldLink "Cellarscheduler$Brew" 47 "Cellarscheduler$Brew" "bottlesByClass" "[I") (List.mem_of_getElem? (i := 1) (by decide +kernel))) (fun _ h9 => h9) rfl dX0_raiseStamps_11 ?_
    refine va_alen (v := 4) hx hb hK hP 1 0 rfl rfl rfl dX0_raiseStamps_14 ?_
    refine lv_icmp_ge (tgt := 61) hx hb dX0_raiseStamps_15 (by decide) (fun c_3 => absurd c_3 (by decide)) (fun c_3 => ?_)
    refine lv_aload_n hx hb dX0_raiseStamps_18 rfl (lv_at hl 2 rfl) ?_
    refine va_get (D := G.1) (ci := 2) (v := .ref bo) (C := RX0) (T := TX0) (N := 10) hx hb hts wsi_X0_raiseStamps_X0 hown hK hP 0 rfl rfl 9 (by decide) (hts (.fieldLink "Cellarscheduler$Brew" 47 "Cellarscheduler$Brew" "bottlesByClass" "[I") (List.mem_of_getElem? (i := 1) (by decide +kernel))) (fun _ h9 => h9) rfl dX0_raiseStamps_19 ?_
    refine lv_iload_n hx hb dX0_raiseStamps_22 rfl (lv_at hl 0 rfl) ?_
    refine zIald hx hb hK hP 1 rfl 0 rfl (by omega) (by decide) dX0_raiseStamps_23 ?_
    refine lv_istore (lv' := [(4, .int (bf 0)), (3, .int 0), (2, .int 0), (0, .ref h0), (1, .int 1)]) hx hb dX0_raiseStamps_24 hl (by decide) rfl (fun ls hl => ?_)
    refine lv_iload_n hx hb dX0_raiseStamps_26 rfl (lv_at hl 2 rfl) ?_
    refine lv_iload hx hb dX0_raiseStamps_27 (lv_at hl 0 rfl) ?_
    refine lv_iload_n hx hb dX0_raiseStamps_29 rfl (lv_at hl 4 rfl) ?_
    refine zCi (r := f_X2_stampOf 1) (va_runSN (As := [.int 1]) (rest := [.int (bf 0), .int 0]) ⟨hx, hb, hml, hown, hts⟩ (c_X2_stampOf l G s.heap.size 1) ⟨va_cnB 1 hts gX0_raiseStamps_X2_stampOf_n76 rfl rfl rfl (hE.w 24 rfl) (hts (.initialized RX2) (List.mem_of_getElem? (i := 3) (by decide +kernel))) (by decide +kernel) ⟨(Nat.le_of_ble_eq_true rfl), (Nat.le_of_ble_eq_true rfl)⟩, (hts (.static yX2_stampOf) (List.mem_of_getElem? (i := 2) (by decide +kernel))), trivial⟩ (zPreS hE hS hA hP hD hK (z_pick (n := 2) [] [0, 1] rfl (by decide) rfl rfl)) rfl rfl hl.1 rfl (lv_room (Nat.le_of_ble_eq_true rfl)) dX0_raiseStamps_30 ⟨(Nat.le_of_ble_eq_true rfl), (Nat.le_of_ble_eq_true rfl)⟩).run ?_
    refine zTop (v := 3) (by decide +kernel) ?_
    refine lv_iload_n hx hb dX0_raiseStamps_33 rfl (lv_at hl 1 rfl) ?_
    refine zCi (r := f_X2_stampOf 0) (va_runSN (As := [.int 0]) (rest := [.int 3, .int (bf 0), .int 0]) ⟨hx, hb, hml, hown, hts⟩ (c_X2_stampOf l G s.heap.size 0) ⟨va_cnB 1 hts gX0_raiseStamps_X2_stampOf_n76 rfl rfl rfl (hE.w 24 rfl) (hts (.initialized RX2) (List.mem_of_getElem? (i := 3) (by decide +kernel))) (by decide +kernel) ⟨(Nat.le_of_ble_eq_true rfl), (Nat.le_of_ble_eq_true rfl)⟩, (hts (.static yX2_stampOf) (List.mem_of_getElem? (i := 2) (by decide +kernel))), trivial⟩ (zPreS hE hS hA hP hD hK (z_pick (n := 2) [] [0, 1] rfl (by decide) rfl rfl)) rfl rfl hl.1 rfl (lv_room (Nat.le_of_ble_eq_true rfl)) dX0_raiseStamps_34 ⟨(Nat.le_of_ble_eq_true rfl), (Nat.le_of_ble_eq_true rfl)⟩).run ?_
    refine zTop (v := 1) (by decide +kernel) ?_
    refine lv_isub hx hb dX0_raiseStamps_37 ?_
    refine zTop (v := 2) (by decide) ?_
    refine lv_imul hx hb dX0_raiseStamps_38 ?_
    refine lv_iadd hx hb dX0_raiseStamps_39 ?_
    refine lv_istore_n (lv' := [(2, .int (0 + ((bf 0) * 2))), (4, .int (bf 0)), (3, .int 0), (0, .ref h0), (1, .int 1)]) hx hb dX0_raiseStamps_40 rfl hl (by decide) rfl (fun ls hl => ?_)
    refine lv_aload_n hx hb dX0_raiseStamps_41 rfl (lv_at hl 3 rfl) ?_
    refine va_get (D := G.1) (ci := 2) (v := .ref bo) (C := RX0) (T := TX0) (N := 10) hx hb hts wsi_X0_raiseStamps_X0 hown hK hP 0 rfl rfl 9 (by decide) (hts (.fieldLink "Cellarscheduler$Brew" 47 "Cellarscheduler$Brew" "bottlesByClass" "[I") (List.mem_of_getElem? (i := 1) (by decide +kernel))) (fun _ h9 => h9) rfl dX0_raiseStamps_42 ?_
    refine lv_iload_n hx hb dX0_raiseStamps_45 rfl (lv_at hl 2 rfl) ?_
    refine lv_iconst (v := 0) hx hb dX0_raiseStamps_46 (by decide) ?_
    refine zIast hx hb hK hP hD hS 1 rfl 0 rfl (by omega) (by decide) dX0_raiseStamps_47 (fun H locs hP hD hS => ?_)
    have hP : zP G [(h0, .inr (2, [.int tk, .int rp, .int li, .int st, .int me, .int la, .int lc, .int vo, .ref tx, .ref bo])), (bo, .inl (G.2.1 0, 4, .inl (upd bf 0 0)))] H := hP
    have hD : va_D A [(h0, .inr (2, [.int tk, .int rp, .int li, .int st, .int me, .int la, .int lc, .int vo, .ref tx, .ref bo])), (bo, .inl (G.2.1 0, 4, .inl (upd bf 0 0)))] := hD
    refine lv_aload_n hx hb dX0_raiseStamps_48 rfl (lv_at hl 3 rfl) ?_
    refine lv_iload_n hx hb dX0_raiseStamps_49 rfl (lv_at hl 4 rfl) ?_
    refine lv_iload hx hb dX0_raiseStamps_50 (lv_at hl 1 rfl) ?_
    refine zDv (wr := []) (va_runV (As := [.int 1, .int (bf 0)]) (rest := []) ⟨hx, hb, hml, hown, hts⟩ (c_X0_addBottles l G H.size h0 tk rp li st me la lc vo tx bo (upd bf 0 0) 1 (bf 0)) (cwV 2 hts gX0_raiseStamps_X0_addBottles rfl rfl rfl (by decide +kernel) ⟨(Nat.le_of_ble_eq_true rfl), (Nat.le_of_ble_eq_true rfl)⟩) (zPreV hE hS hA hP hD hK (z_pick (n := 2) [0, 1] [] rfl (by decide) rfl rfl) (va_recv hK hP (ci := 2) (q0 := 0) rfl rfl)) rfl rfl hl.1 rfl (lv_room (Nat.le_of_ble_eq_true rfl)) dX0_raiseStamps_52 ⟨(Nat.le_of_ble_eq_true rfl), (Nat.le_of_ble_eq_true rfl)⟩) hP hD hS hA (z_pick (n := 2) [0, 1] [] rfl (by decide) rfl rfl) (fun u_4 H locs hp_5 hP hD hS => ?_)
    obtain ⟨bf_0, rfl⟩ : ∃ z, z = u_4 := ⟨_, rfl⟩
    have eu_4_0 := hp_5
    try dsimp only at eu_4_0
    subst eu_4_0
    have hP : zP G [(h0, .inr (2, [.int tk, .int rp, .int li, .int st, .int me, .int la, .int lc, .int vo, .ref tx, .ref bo])), (bo, .inl (G.2.1 0, 4, .inl (f_X0_addBottles_bf (upd bf 0 0) 1 (bf 0))))] H := hP
    have hD : va_D A [(h0, .inr (2, [.int tk, .int rp, .int li, .int st, .int me, .int la, .int lc, .int vo, .ref tx, .ref bo])), (bo, .inl (G.2.1 0, 4, .inl (f_X0_addBottles_bf (upd bf 0 0) 1 (bf 0))))] := hD
    refine lv_iinc (v := 1) (lv' := [(3, .int 1), (2, .int (0 + ((bf 0) * 2))), (4, .int (bf 0)), (0, .ref h0), (1, .int 1)]) hx hb dX0_raiseStamps_55 hl (k := 2) rfl (by decide) (by decide) rfl (fun ls hl => ?_)
    refine lv_goto (tgt := 4) hx hb dX0_raiseStamps_58 (by decide) ?_
    refine lv_iload_n hx hb dX0_raiseStamps_4 rfl (lv_at hl 0 rfl) ?_
    refine lv_iload_n hx hb dX0_raiseStamps_5 rfl (lv_at hl 4 rfl) ?_
    refine lv_icmp_ge (tgt := 61) hx hb dX0_raiseStamps_6 (by decide) (fun c_6 => ?_) (fun c_6 => absurd (by decide) c_6)
    refine lv_iload_n hx hb dX0_raiseStamps_61 rfl (lv_at hl 1 rfl) ?_
    exact zWi (f_X0_addBottles_bf (upd bf 0 0) 1 (bf 0)) hx hb hr hlocks rfl ⟨(by rw [f_X0_raiseStamps, if_neg (by decide : ¬ (1 : Int32) = 0), if_pos (rfl : (1 : Int32) = 1)]), (by rw [f_X0_raiseStamps_bf, if_neg (by decide : ¬ (1 : Int32) = 0), if_pos (rfl : (1 : Int32) = 1)])⟩ hP hD hK hS (z_pick (n := 2) [0, 1] [] rfl (by decide) rfl rfl) (Nat.le_of_ble_eq_true rfl) (Nat.le_of_ble_eq_true rfl) dX0_raiseStamps_62
  · have hl : lv_has ls 5 [(0, .ref h0), (1, .int 2)] := hl
    refine lv_iconst (v := 0) hx hb dX0_raiseStamps_0 (by decide) ?_
    refine lv_istore_n (lv' := [(2, .int 0), (0, .ref h0), (1, .int 2)]) hx hb dX0_raiseStamps_1 rfl hl (by decide) rfl (fun ls hl => ?_)
    refine lv_iconst (v := 0) hx hb dX0_raiseStamps_2 (by decide) ?_
    refine lv_istore_n (lv' := [(3, .int 0), (2, .int 0), (0, .ref h0), (1, .int 2)]) hx hb dX0_raiseStamps_3 rfl hl (by decide) rfl (fun ls hl => ?_)
    refine lv_iload_n hx hb dX0_raiseStamps_4 rfl (lv_at hl 0 rfl) ?_
    refine lv_iload_n hx hb dX0_raiseStamps_5 rfl (lv_at hl 3 rfl) ?_
    refine lv_icmp_ge (tgt := 61) hx hb dX0_raiseStamps_6 (by decide) (fun c_7 => absurd c_7 (by decide)) (fun c_7 => ?_)
    refine lv_iload_n hx hb dX0_raiseStamps_9 rfl (lv_at hl 0 rfl) ?_
    refine lv_aload_n hx hb dX0_raiseStamps_10 rfl (lv_at hl 2 rfl) ?_
    refine va_get (D := G.1) (ci := 2) (v := .ref bo) (C := RX0) (T := TX0) (N := 10) hx hb hts wsi_X0_raiseStamps_X0 hown hK hP 0 rfl rfl 9 (by decide) (hts (.fieldLink "Cellarscheduler$Brew" 47 "Cellarscheduler$Brew" "bottlesByClass" "[I") (List.mem_of_getElem? (i := 1) (by decide +kernel))) (fun _ h9 => h9) rfl dX0_raiseStamps_11 ?_
    refine va_alen (v := 4) hx hb hK hP 1 0 rfl rfl rfl dX0_raiseStamps_14 ?_
    refine lv_icmp_ge (tgt := 61) hx hb dX0_raiseStamps_15 (by decide) (fun c_8 => absurd c_8 (by decide)) (fun c_8 => ?_)
    refine lv_aload_n hx hb dX0_raiseStamps_18 rfl (lv_at hl 2 rfl) ?_
    refine va_get (D := G.1) (ci := 2) (v := .ref bo) (C := RX0) (T := TX0) (N := 10) hx hb hts wsi_X0_raiseStamps_X0 hown hK hP 0 rfl rfl 9 (by decide) (hts (.fieldLink "Cellarscheduler$Brew" 47 "Cellarscheduler$Brew" "bottlesByClass" "[I") (List.mem_of_getElem? (i := 1) (by decide +kernel))) (fun _ h9 => h9) rfl dX0_raiseStamps_19 ?_
    refine lv_iload_n hx hb dX0_raiseStamps_22 rfl (lv_at hl 0 rfl) ?_
    refine zIald hx hb hK hP 1 rfl 0 rfl (by omega) (by decide) dX0_raiseStamps_23 ?_
    refine lv_istore (lv' := [(4, .int (bf 0)), (3, .int 0), (2, .int 0), (0, .ref h0), (1, .int 2)]) hx hb dX0_raiseStamps_24 hl (by decide) rfl (fun ls hl => ?_)
    refine lv_iload_n hx hb dX0_raiseStamps_26 rfl (lv_at hl 2 rfl) ?_
    refine lv_iload hx hb dX0_raiseStamps_27 (lv_at hl 0 rfl) ?_
    refine lv_iload_n hx hb dX0_raiseStamps_29 rfl (lv_at hl 4 rfl) ?_
    refine zCi (r := f_X2_stampOf 2) (va_runSN (As := [.int 2]) (rest := [.int (bf 0), .int 0]) ⟨hx, hb, hml, hown, hts⟩ (c_X2_stampOf l G s.heap.size 2) ⟨va_cnB 1 hts gX0_raiseStamps_X2_stampOf_n76 rfl rfl rfl (hE.w 24 rfl) (hts (.initialized RX2) (List.mem_of_getElem? (i := 3) (by decide +kernel))) (by decide +kernel) ⟨(Nat.le_of_ble_eq_true rfl), (Nat.le_of_ble_eq_true rfl)⟩, (hts (.static yX2_stampOf) (List.mem_of_getElem? (i := 2) (by decide +kernel))), trivial⟩ (zPreS hE hS hA hP hD hK (z_pick (n := 2) [] [0, 1] rfl (by decide) rfl rfl)) rfl rfl hl.1 rfl (lv_room (Nat.le_of_ble_eq_true rfl)) dX0_raiseStamps_30 ⟨(Nat.le_of_ble_eq_true rfl), (Nat.le_of_ble_eq_true rfl)⟩).run ?_
    refine zTop (v := 6) (by decide +kernel) ?_
    refine lv_iload_n hx hb dX0_raiseStamps_33 rfl (lv_at hl 1 rfl) ?_
    refine zCi (r := f_X2_stampOf 0) (va_runSN (As := [.int 0]) (rest := [.int 6, .int (bf 0), .int 0]) ⟨hx, hb, hml, hown, hts⟩ (c_X2_stampOf l G s.heap.size 0) ⟨va_cnB 1 hts gX0_raiseStamps_X2_stampOf_n76 rfl rfl rfl (hE.w 24 rfl) (hts (.initialized RX2) (List.mem_of_getElem? (i := 3) (by decide +kernel))) (by decide +kernel) ⟨(Nat.le_of_ble_eq_true rfl), (Nat.le_of_ble_eq_true rfl)⟩, (hts (.static yX2_stampOf) (List.mem_of_getElem? (i := 2) (by decide +kernel))), trivial⟩ (zPreS hE hS hA hP hD hK (z_pick (n := 2) [] [0, 1] rfl (by decide) rfl rfl)) rfl rfl hl.1 rfl (lv_room (Nat.le_of_ble_eq_true rfl)) dX0_raiseStamps_34 ⟨(Nat.le_of_ble_eq_true rfl), (Nat.le_of_ble_eq_true rfl)⟩).run ?_
    refine zTop (v := 1) (by decide +kernel) ?_
    refine lv_isub hx hb dX0_raiseStamps_37 ?_
    refine zTop (v := 5) (by decide) ?_
    refine lv_imul hx hb dX0_raiseStamps_38 ?_
    refine lv_iadd hx hb dX0_raiseStamps_39 ?_
    refine lv_istore_n (lv' := [(2, .int (0 + ((bf 0) * 5))), (4, .int (bf 0)), (3, .int 0), (0, .ref h0), (1, .int 2)]) hx hb dX0_raiseStamps_40 rfl hl (by decide) rfl (fun ls hl => ?_)
    refine lv_aload_n hx hb dX0_raiseStamps_41 rfl (lv_at hl 3 rfl) ?_
    refine va_get (D := G.1) (ci := 2) (v := .ref bo) (C := RX0) (T := TX0) (N := 10) hx hb hts wsi_X0_raiseStamps_X0 hown hK hP 0 rfl rfl 9 (by decide) (hts (.fieldLink "Cellarscheduler$Brew" 47 "Cellarscheduler$Brew" "bottlesByClass" "[I") (List.mem_of_getElem? (i := 1) (by decide +kernel))) (fun _ h9 => h9) rfl dX0_raiseStamps_42 ?_
    refine lv_iload_n hx hb dX0_raiseStamps_45 rfl (lv_at hl 2 rfl) ?_
    refine lv_iconst (v := 0) hx hb dX0_raiseStamps_46 (by decide) ?_
    refine zIast hx hb hK hP hD hS 1 rfl 0 rfl (by omega) (by decide) dX0_raiseStamps_47 (fun H locs hP hD hS => ?_)
    have hP : zP G [(h0, .inr (2, [.int tk, .int rp, .int li, .int st, .int me, .int la, .int lc, .int vo, .ref tx, .ref bo])), (bo, .inl (G.2.1 0, 4, .inl (upd bf 0 0)))] H := hP
    have hD : va_D A [(h0, .inr (2, [.int tk, .int rp, .int li, .int st, .int me, .int la, .int lc, .int vo, .ref tx, .ref bo])), (bo, .inl (G.2.1 0, 4, .inl (upd bf 0 0)))] := hD
    refine lv_aload_n hx hb dX0_raiseStamps_48 rfl (lv_at hl 3 rfl) ?_
    refine lv_iload_n hx hb dX0_raiseStamps_49 rfl (lv_at hl 4 rfl) ?_
    refine lv_iload hx hb dX0_raiseStamps_50 (lv_at hl 1 rfl) ?_
    refine zDv (wr := []) (va_runV (As := [.int 2, .int (bf 0)]) (rest := []) ⟨hx, hb, hml, hown, hts⟩ (c_X0_addBottles l G H.size h0 tk rp li st me la lc vo tx bo (upd bf 0 0) 2 (bf 0)) (cwV 2 hts gX0_raiseStamps_X0_addBottles rfl rfl rfl (by decide +kernel) ⟨(Nat.le_of_ble_eq_true rfl), (Nat.le_of_ble_eq_true rfl)⟩) (zPreV hE hS hA hP hD hK (z_pick (n := 2) [0, 1] [] rfl (by decide) rfl rfl) (va_recv hK hP (ci := 2) (q0 := 0) rfl rfl)) rfl rfl hl.1 rfl (lv_room (Nat.le_of_ble_eq_true rfl)) dX0_raiseStamps_52 ⟨(Nat.le_of_ble_eq_true rfl), (Nat.le_of_ble_eq_true rfl)⟩) hP hD hS hA (z_pick (n := 2) [0, 1] [] rfl (by decide) rfl rfl) (fun u_9 H locs hp_10 hP hD hS => ?_)
    obtain ⟨bf_1, rfl⟩ : ∃ z, z = u_9 := ⟨_, rfl⟩
    have eu_9_0 := hp_10
    try dsimp only at eu_9_0
    subst eu_9_0
    have hP : zP G [(h0, .inr (2, [.int tk, .int rp, .int li, .int st, .int me, .int la, .int lc, .int vo, .ref tx, .ref bo])), (bo, .inl (G.2.1 0, 4, .inl (f_X0_addBottles_bf (upd bf 0 0) 2 (bf 0))))] H := hP
    have hD : va_D A [(h0, .inr (2, [.int tk, .int rp, .int li, .int st, .int me, .int la, .int lc, .int vo, .ref tx, .ref bo])), (bo, .inl (G.2.1 0, 4, .inl (f_X0_addBottles_bf (upd bf 0 0) 2 (bf 0))))] := hD
    refine lv_iinc (v := 1) (lv' := [(3, .int 1), (2, .int (0 + ((bf 0) * 5))), (4, .int (bf 0)), (0, .ref h0), (1, .int 2)]) hx hb dX0_raiseStamps_55 hl (k := 2) rfl (by decide) (by decide) rfl (fun ls hl => ?_)
    refine lv_goto (tgt := 4) hx hb dX0_raiseStamps_58 (by decide) ?_
    refine lv_iload_n hx hb dX0_raiseStamps_4 rfl (lv_at hl 0 rfl) ?_
    refine lv_iload_n hx hb dX0_raiseStamps_5 rfl (lv_at hl 4 rfl) ?_
    refine lv_icmp_ge (tgt := 61) hx hb dX0_raiseStamps_6 (by decide) (fun c_11 => absurd c_11 (by decide)) (fun c_11 => ?_)
    refine lv_iload_n hx hb dX0_raiseStamps_9 rfl (lv_at hl 0 rfl) ?_
    refine lv_aload_n hx hb dX0_raiseStamps_10 rfl (lv_at hl 3 rfl) ?_
    refine va_get (D := G.1) (ci := 2) (v := .ref bo) (C := RX0) (T := TX0) (N := 10) hx hb hts wsi_X0_raiseStamps_X0 hown hK hP 0 rfl rfl 9 (by decide) (hts (.fieldLink "Cellarscheduler$Brew" 47 "Cellarscheduler$Brew" "bottlesByClass" "[I") (List.mem_of_getElem? (i := 1) (by decide +kernel))) (fun _ h9 => h9) rfl dX0_raiseStamps_11 ?_
    refine va_alen (v := 4) hx hb hK hP 1 0 rfl rfl rfl dX0_raiseStamps_14 ?_
    refine lv_icmp_ge (tgt := 61) hx hb dX0_raiseStamps_15 (by decide) (fun c_12 => absurd c_12 (by decide)) (fun c_12 => ?_)
    refine lv_aload_n hx hb dX0_raiseStamps_18 rfl (lv_at hl 3 rfl) ?_
    refine va_get (D := G.1) (ci := 2) (v := .ref bo) (C := RX0) (T := TX0) (N := 10) hx hb hts wsi_X0_raiseStamps_X0 hown hK hP 0 rfl rfl 9 (by decide) (hts (.fieldLink "Cellarscheduler$Brew" 47 "Cellarscheduler$Brew" "bottlesByClass" "[I") (List.mem_of_getElem? (i := 1) (by decide +kernel))) (fun _ h9 => h9) rfl dX0_raiseStamps_19 ?_
    refine lv_iload_n hx hb dX0_raiseStamps_22 rfl (lv_at hl 0 rfl) ?_
    refine zIald hx hb hK hP 1 rfl 1 rfl (by omega) (by decide) dX0_raiseStamps_23 ?_
    refine lv_istore (lv' := [(4, .int ((f_X0_addBottles_bf (upd bf 0 0) 2 (bf 0)) 1)), (3, .int 1), (2, .int (0 + ((bf 0) * 5))), (0, .ref h0), (1, .int 2)]) hx hb dX0_raiseStamps_24 hl (by decide) rfl (fun ls hl => ?_)
    refine lv_iload_n hx hb dX0_raiseStamps_26 rfl (lv_at hl 2 rfl) ?_
    refine lv_iload hx hb dX0_raiseStamps_27 (lv_at hl 0 rfl) ?_
    refine lv_iload_n hx hb dX0_raiseStamps_29 rfl (lv_at hl 4 rfl) ?_
    refine zCi (r := f_X2_stampOf 2) (va_runSN (As := [.int 2]) (rest := [.int ((f_X0_addBottles_bf (upd bf 0 0) 2 (bf 0)) 1), .int (0 + ((bf 0) * 5))]) ⟨hx, hb, hml, hown, hts⟩ (c_X2_stampOf l G H.size 2) ⟨va_cnB 1 hts gX0_raiseStamps_X2_stampOf_n76 rfl rfl rfl (hE.w 24 rfl) (hts (.initialized RX2) (List.mem_of_getElem? (i := 3) (by decide +kernel))) (by decide +kernel) ⟨(Nat.le_of_ble_eq_true rfl), (Nat.le_of_ble_eq_true rfl)⟩, (hts (.static yX2_stampOf) (List.mem_of_getElem? (i := 2) (by decide +kernel))), trivial⟩ (zPreS hE hS hA hP hD hK (z_pick (n := 2) [] [0, 1] rfl (by decide) rfl rfl)) rfl rfl hl.1 rfl (lv_room (Nat.le_of_ble_eq_true rfl)) dX0_raiseStamps_30 ⟨(Nat.le_of_ble_eq_true rfl), (Nat.le_of_ble_eq_true rfl)⟩).run ?_
    refine zTop (v := 6) (by decide +kernel) ?_
    refine lv_iload_n hx hb dX0_raiseStamps_33 rfl (lv_at hl 1 rfl) ?_
    refine zCi (r := f_X2_stampOf 1) (va_runSN (As := [.int 1]) (rest := [.int 6, .int ((f_X0_addBottles_bf (upd bf 0 0) 2 (bf 0)) 1), .int (0 + ((bf 0) * 5))]) ⟨hx, hb, hml, hown, hts⟩ (c_X2_stampOf l G H.size 1) ⟨va_cnB 1 hts gX0_raiseStamps_X2_stampOf_n76 rfl rfl rfl (hE.w 24 rfl) (hts (.initialized RX2) (List.mem_of_getElem? (i := 3) (by decide +kernel))) (by decide +kernel) ⟨(Nat.le_of_ble_eq_true rfl), (Nat.le_of_ble_eq_true rfl)⟩, (hts (.static yX2_stampOf) (List.mem_of_getElem? (i := 2) (by decide +kernel))), trivial⟩ (zPreS hE hS hA hP hD hK (z_pick (n := 2) [] [0, 1] rfl (by decide) rfl rfl)) rfl rfl hl.1 rfl (lv_room (Nat.le_of_ble_eq_true rfl)) dX0_raiseStamps_34 ⟨(Nat.le_of_ble_eq_true rfl), (Nat.le_of_ble_eq_true rfl)⟩).run ?_
    refine zTop (v := 3) (by decide +kernel) ?_
    refine lv_isub hx hb dX0_raiseStamps_37 ?_
    refine zTop (v := 3) (by decide) ?_
    refine lv_imul hx hb dX0_raiseStamps_38 ?_
    refine lv_iadd hx hb dX0_raiseStamps_39 ?_
    refine lv_istore_n (lv' := [(2, .int ((0 + ((bf 0) * 5)) + (((f_X0_addBottles_bf (upd bf 0 0) 2 (bf 0)) 1) * 3))), (4, .int ((f_X0_addBottles_bf (upd bf 0 0) 2 (bf 0)) 1)), (3, .int 1), (0, .ref h0), (1, .int 2)]) hx hb dX0_raiseStamps_40 rfl hl (by decide) rfl (fun ls hl => ?_)
    refine lv_aload_n hx hb dX0_raiseStamps_41 rfl (lv_at hl 3 rfl) ?_
    refine va_get (D := G.1) (ci := 2) (v := .ref bo) (C := RX0) (T := TX0) (N := 10) hx hb hts wsi_X0_raiseStamps_X0 hown hK hP 0 rfl rfl 9 (by decide) (hts (.fieldLink "Cellarscheduler$Brew" 47 "Cellarscheduler$Brew" "bottlesByClass" "[I") (List.mem_of_getElem? (i := 1) (by decide +kernel))) (fun _ h9 => h9) rfl dX0_raiseStamps_42 ?_
    refine lv_iload_n hx hb dX0_raiseStamps_45 rfl (lv_at hl 2 rfl) ?_
    refine lv_iconst (v := 0) hx hb dX0_raiseStamps_46 (by decide) ?_
    refine zIast hx hb hK hP hD hS 1 rfl 1 rfl (by omega) (by decide) dX0_raiseStamps_47 (fun H locs hP hD hS => ?_)
    have hP : zP G [(h0, .inr (2, [.int tk, .int rp, .int li, .int st, .int me, .int la, .int lc, .int vo, .ref tx, .ref bo])), (bo, .inl (G.2.1 0, 4, .inl (upd (f_X0_addBottles_bf (upd bf 0 0) 2 (bf 0)) 1 0)))] H := hP
    have hD : va_D A [(h0, .inr (2, [.int tk, .int rp, .int li, .int st, .int me, .int la, .int lc, .int vo, .ref tx, .ref bo])), (bo, .inl (G.2.1 0, 4, .inl (upd (f_X0_addBottles_bf (upd bf 0 0) 2 (bf 0)) 1 0)))] := hD
    refine lv_aload_n hx hb dX0_raiseStamps_48 rfl (lv_at hl 3 rfl) ?_
    refine lv_iload_n hx hb dX0_raiseStamps_49 rfl (lv_at hl 4 rfl) ?_
    refine lv_iload hx hb dX0_raiseStamps_50 (lv_at hl 1 rfl) ?_
    refine zDv (wr := []) (va_runV (As := [.int 2, .int ((f_X0_addBottles_bf (upd bf 0 0) 2 (bf 0)) 1)]) (rest := []) ⟨hx, hb, hml, hown, hts⟩ (c_X0_addBottles l G H.size h0 tk rp li st me la lc vo tx bo (upd (f_X0_addBottles_bf (upd bf 0 0) 2 (bf 0)) 1 0) 2 ((f_X0_addBottles_bf (upd bf 0 0) 2 (bf 0)) 1)) (cwV 2 hts gX0_raiseStamps_X0_addBottles rfl rfl rfl (by decide +kernel) ⟨(Nat.le_of_ble_eq_true rfl), (Nat.le_of_ble_eq_true rfl)⟩) (zPreV hE hS hA hP hD hK (z_pick (n := 2) [0, 1] [] rfl (by decide) rfl rfl) (va_recv hK hP (ci := 2) (q0 := 0) rfl rfl)) rfl rfl hl.1 rfl (lv_room (Nat.le_of_ble_eq_true rfl)) dX0_raiseStamps_52 ⟨(Nat.le_of_ble_eq_true rfl), (Nat.le_of_ble_eq_true rfl)⟩) hP hD hS hA (z_pick (n := 2) [0, 1] [] rfl (by decide) rfl rfl) (fun u_13 H locs hp_14 hP hD hS => ?_)
    obtain ⟨bf_2, rfl⟩ : ∃ z, z = u_13 := ⟨_, rfl⟩
    have eu_13_0 := hp_14
    try dsimp only at eu_13_0
    subst eu_13_0
    have hP : zP G [(h0, .inr (2, [.int tk, .int rp, .int li, .int st, .int me, .int la, .int lc, .int vo, .ref tx, .ref bo])), (bo, .inl (G.2.1 0, 4, .inl (f_X0_addBottles_bf (upd (f_X0_addBottles_bf (upd bf 0 0) 2 (bf 0)) 1 0) 2 ((f_X0_addBottles_bf (upd bf 0 0) 2 (bf 0)) 1))))] H := hP
    have hD : va_D A [(h0, .inr (2, [.int tk, .int rp, .int li, .int st, .int me, .int la, .int lc, .int vo, .ref tx, .ref bo])), (bo, .inl (G.2.1 0, 4, .inl (f_X0_addBottles_bf (upd (f_X0_addBottles_bf (upd bf 0 0) 2 (bf 0)) 1 0) 2 ((f_X0_addBottles_bf (upd bf 0 0) 2 (bf 0)) 1))))] := hD
    refine lv_iinc (v := 2) (lv' := [(3, .int 2), (2, .int ((0 + ((bf 0) * 5)) + (((f_X0_addBottles_bf (upd bf 0 0) 2 (bf 0)) 1) * 3))), (4, .int ((f_X0_addBottles_bf (upd bf 0 0) 2 (bf 0)) 1)), (0, .ref h0), (1, .int 2)]) hx hb dX0_raiseStamps_55 hl (k := 2) rfl (by decide) (by decide) rfl (fun ls hl => ?_)
    refine lv_goto (tgt := 4) hx hb dX0_raiseStamps_58 (by decide) ?_
    refine lv_iload_n hx hb dX0_raiseStamps_4 rfl (lv_at hl 0 rfl) ?_
    refine lv_iload_n hx hb dX0_raiseStamps_5 rfl (lv_at hl 4 rfl) ?_
    refine lv_icmp_ge (tgt := 61) hx hb dX0_raiseStamps_6 (by decide) (fun c_15 => ?_) (fun c_15 => absurd (by decide) c_15)
    refine lv_iload_n hx hb dX0_raiseStamps_61 rfl (lv_at hl 1 rfl) ?_
    exact zWi (f_X0_addBottles_bf (upd (f_X0_addBottles_bf (upd bf 0 0) 2 (bf 0)) 1 0) 2 ((f_X0_addBottles_bf (upd bf 0 0) 2 (bf 0)) 1)) hx hb hr hlocks rfl ⟨(by rw [f_X0_raiseStamps, if_neg (by decide : ¬ (2 : Int32) = 0), if_neg (by decide : ¬ (2 : Int32) = 1), if_pos (rfl : (2 : Int32) = 2)]), (by rw [f_X0_raiseStamps_bf, if_neg (by decide : ¬ (2 : Int32) = 0), if_neg (by decide : ¬ (2 : Int32) = 1), if_pos (rfl : (2 : Int32) = 2)])⟩ hP hD hK hS (z_pick (n := 2) [0, 1] [] rfl (by decide) rfl rfl) (Nat.le_of_ble_eq_true rfl) (Nat.le_of_ble_eq_true rfl) dX0_raiseStamps_62
  · have hl : lv_has ls 5 [(0, .ref h0), (1, .int 3)] := hl
    refine lv_iconst (v := 0) hx hb dX0_raiseStamps_0 (by decide) ?_
    refine lv_istore_n (lv' := [(2, .int 0), (0, .ref h0), (1, .int 3)]) hx hb dX0_raiseStamps_1 rfl hl (by decide) rfl (fun ls hl => ?_)
    refine lv_iconst (v := 0) hx hb dX0_raiseStamps_2 (by decide) ?_
    refine lv_istore_n (lv' := [(3, .int 0), (2, .int 0), (0, .ref h0), (1, .int 3)]) hx hb dX0_raiseStamps_3 rfl hl (by decide) rfl (fun ls hl => ?_)
    refine lv_iload_n hx hb dX0_raiseStamps_4 rfl (lv_at hl 0 rfl) ?_
    refine lv_iload_n hx hb dX0_raiseStamps_5 rfl (lv_at hl 3 rfl) ?_
    refine lv_icmp_ge (tgt := 61) hx hb dX0_raiseStamps_6 (by decide) (fun c_16 => absurd c_16 (by decide)) (fun c_16 => ?_)
    refine lv_iload_n hx hb dX0_raiseStamps_9 rfl (lv_at hl 0 rfl) ?_
    refine lv_aload_n hx hb dX0_raiseStamps_10 rfl (lv_at hl 2 rfl) ?_
    refine va_get (D := G.1) (ci := 2) (v := .ref bo) (C := RX0) (T := TX0) (N := 10) hx hb hts wsi_X0_raiseStamps_X0 hown hK hP 0 rfl rfl 9 (by decide) (hts (.fieldLink "Cellarscheduler$Brew" 47 "Cellarscheduler$Brew" "bottlesByClass" "[I") (List.mem_of_getElem? (i := 1) (by decide +kernel))) (fun _ h9 => h9) rfl dX0_raiseStamps_11 ?_
    refine va_alen (v := 4) hx hb hK hP 1 0 rfl rfl rfl dX0_raiseStamps_14 ?_
    refine lv_icmp_ge (tgt := 61) hx hb dX0_raiseStamps_15 (by decide) (fun c_17 => absurd c_17 (by decide)) (fun c_17 => ?_)
    refine lv_aload_n hx hb dX0_raiseStamps_18 rfl (lv_at hl 2 rfl) ?_
    refine va_get (D := G.1) (ci := 2) (v := .ref bo) (C := RX0) (T := TX0) (N := 10) hx hb hts wsi_X0_raiseStamps_X0 hown hK hP 0 rfl rfl 9 (by decide) (hts (.fieldLink "Cellarscheduler$Brew" 47 "Cellarscheduler$Brew" "bottlesByClass" "[I") (List.mem_of_getElem? (i := 1) (by decide +kernel))) (fun _ h9 => h9) rfl dX0_raiseStamps_19 ?_
    refine lv_iload_n hx hb dX0_raiseStamps_22 rfl (lv_at hl 0 rfl) ?_
    refine zIald hx hb hK hP 1 rfl 0 rfl (by omega) (by decide) dX0_raiseStamps_23 ?_
    refine lv_istore (lv' := [(4, .int (bf 0)), (3, .int 0), (2, .int 0), (0, .ref h0), (1, .int 3)]) hx hb dX0_raiseStamps_24 hl (by decide) rfl (fun ls hl => ?_)
    refine lv_iload_n hx hb dX0_raiseStamps_26 rfl (lv_at hl 2 rfl) ?_
    refine lv_iload hx hb dX0_raiseStamps_27 (lv_at hl 0 rfl) ?_
    refine lv_iload_n hx hb dX0_raiseStamps_29 rfl (lv_at hl 4 rfl) ?_
    refine zCi (r := f_X2_stampOf 3) (va_runSN (As := [.int 3]) (rest := [.int (bf 0), .int 0]) ⟨hx, hb, hml, hown, hts⟩ (c_X2_stampOf l G s.heap.size 3) ⟨va_cnB 1 hts gX0_raiseStamps_X2_stampOf_n76 rfl rfl rfl (hE.w 24 rfl) (hts (.initialized RX2) (List.mem_of_getElem? (i := 3) (by decide +kernel))) (by decide +kernel) ⟨(Nat.le_of_ble_eq_true rfl), (Nat.le_of_ble_eq_true rfl)⟩, (hts (.static yX2_stampOf) (List.mem_of_getElem? (i := 2) (by decide +kernel))), trivial⟩ (zPreS hE hS hA hP hD hK (z_pick (n := 2) [] [0, 1] rfl (by decide) rfl rfl)) rfl rfl hl.1 rfl (lv_room (Nat.le_of_ble_eq_true rfl)) dX0_raiseStamps_30 ⟨(Nat.le_of_ble_eq_true rfl), (Nat.le_of_ble_eq_true rfl)⟩).run ?_
    refine zTop (v := 12) (by decide +kernel) ?_
    refine lv_iload_n hx hb dX0_raiseStamps_33 rfl (lv_at hl 1 rfl) ?_
    refine zCi (r := f_X2_stampOf 0) (va_runSN (As := [.int 0]) (rest := [.int 12, .int (bf 0), .int 0]) ⟨hx, hb, hml, hown, hts⟩ (c_X2_stampOf l G s.heap.size 0) ⟨va_cnB 1 hts gX0_raiseStamps_X2_stampOf_n76 rfl rfl rfl (hE.w 24 rfl) (hts (.initialized RX2) (List.mem_of_getElem? (i := 3) (by decide +kernel))) (by decide +kernel) ⟨(Nat.le_of_ble_eq_true rfl), (Nat.le_of_ble_eq_true rfl)⟩, (hts (.static yX2_stampOf) (List.mem_of_getElem? (i := 2) (by decide +kernel))), trivial⟩ (zPreS hE hS hA hP hD hK (z_pick (n := 2) [] [0, 1] rfl (by decide) rfl rfl)) rfl rfl hl.1 rfl (lv_room (Nat.le_of_ble_eq_true rfl)) dX0_raiseStamps_34 ⟨(Nat.le_of_ble_eq_true rfl), (Nat.le_of_ble_eq_true rfl)⟩).run ?_
    refine zTop (v := 1) (by decide +kernel) ?_
    refine lv_isub hx hb dX0_raiseStamps_37 ?_
    refine zTop (v := 11) (by decide) ?_
    refine lv_imul hx hb dX0_raiseStamps_38 ?_
    refine lv_iadd hx hb dX0_raiseStamps_39 ?_
    refine lv_istore_n (lv' := [(2, .int (0 + ((bf 0) * 11))), (4, .int (bf 0)), (3, .int 0), (0, .ref h0), (1, .int 3)]) hx hb dX0_raiseStamps_40 rfl hl (by decide) rfl (fun ls hl => ?_)
    refine lv_aload_n hx hb dX0_raiseStamps_41 rfl (lv_at hl 3 rfl) ?_
    refine va_get (D := G.1) (ci := 2) (v := .ref bo) (C := RX0) (T := TX0) (N := 10) hx hb hts wsi_X0_raiseStamps_X0 hown hK hP 0 rfl rfl 9 (by decide) (hts (.fieldLink "Cellarscheduler$Brew" 47 "Cellarscheduler$Brew" "bottlesByClass" "[I") (List.mem_of_getElem? (i := 1) (by decide +kernel))) (fun _ h9 => h9) rfl dX0_raiseStamps_42 ?_
    refine lv_iload_n hx hb dX0_raiseStamps_45 rfl (lv_at hl 2 rfl) ?_
    refine lv_iconst (v := 0) hx hb dX0_raiseStamps_46 (by decide) ?_
    refine zIast hx hb hK hP hD hS 1 rfl 0 rfl (by omega) (by decide) dX0_raiseStamps_47 (fun H locs hP hD hS => ?_)
    have hP : zP G [(h0, .inr (2, [.int tk, .int rp, .int li, .int st, .int me, .int la, .int lc, .int vo, .ref tx, .ref bo])), (bo, .inl (G.2.1 0, 4, .inl (upd bf 0 0)))] H := hP
    have hD : va_D A [(h0, .inr (2, [.int tk, .int rp, .int li, .int st, .int me, .int la, .int lc, .int vo, .ref tx, .ref bo])), (bo, .inl (G.2.1 0, 4, .inl (upd bf 0 0)))] := hD
    refine lv_aload_n hx hb dX0_raiseStamps_48 rfl (lv_at hl 3 rfl) ?_
    refine lv_iload_n hx hb dX0_raiseStamps_49 rfl (lv_at hl 4 rfl) ?_
    refine lv_iload hx hb dX0_raiseStamps_50 (lv_at hl 1 rfl) ?_
    refine zDv (wr := []) (va_runV (As := [.int 3, .int (bf 0)]) (rest := []) ⟨hx, hb, hml, hown, hts⟩ (c_X0_addBottles l G H.size h0 tk rp li st me la lc vo tx bo (upd bf 0 0) 3 (bf 0)) (cwV 2 hts gX0_raiseStamps_X0_addBottles rfl rfl rfl (by decide +kernel) ⟨(Nat.le_of_ble_eq_true rfl), (Nat.le_of_ble_eq_true rfl)⟩) (zPreV hE hS hA hP hD hK (z_pick (n := 2) [0, 1] [] rfl (by decide) rfl rfl) (va_recv hK hP (ci := 2) (q0 := 0) rfl rfl)) rfl rfl hl.1 rfl (lv_room (Nat.le_of_ble_eq_true rfl)) dX0_raiseStamps_52 ⟨(Nat.le_of_ble_eq_true rfl), (Nat.le_of_ble_eq_true rfl)⟩) hP hD hS hA (z_pick (n := 2) [0, 1] [] rfl (by decide) rfl rfl) (fun u_18 H locs hp_19 hP hD hS => ?_)
    obtain ⟨bf_3, rfl⟩ : ∃ z, z = u_18 := ⟨_, rfl⟩
    have eu_18_0 := hp_19
    try dsimp only at eu_18_0
    subst eu_18_0
    have hP : zP G [(h0, .inr (2, [.int tk, .int rp, .int li, .int st, .int me, .int la, .int lc, .int vo, .ref tx, .ref bo])), (bo, .inl (G.2.1 0, 4, .inl (f_X0_addBottles_bf (upd bf 0 0) 3 (bf 0))))] H := hP
    have hD : va_D A [(h0, .inr (2, [.int tk, .int rp, .int li, .int st, .int me, .int la, .int lc, .int vo, .ref tx, .ref bo])), (bo, .inl (G.2.1 0, 4, .inl (f_X0_addBottles_bf (upd bf 0 0) 3 (bf 0))))] := hD
    refine lv_iinc (v := 1) (lv' := [(3, .int 1), (2, .int (0 + ((bf 0) * 11))), (4, .int (bf 0)), (0, .ref h0), (1, .int 3)]) hx hb dX0_raiseStamps_55 hl (k := 2) rfl (by decide) (by decide) rfl (fun ls hl => ?_)
    refine lv_goto (tgt := 4) hx hb dX0_raiseStamps_58 (by decide) ?_
    refine lv_iload_n hx hb dX0_raiseStamps_4 rfl (lv_at hl 0 rfl) ?_
    refine lv_iload_n hx hb dX0_raiseStamps_5 rfl (lv_at hl 4 rfl) ?_
    refine lv_icmp_ge (tgt := 61) hx hb dX0_raiseStamps_6 (by decide) (fun c_20 => absurd c_20 (by decide)) (fun c_20 => ?_)
    refine lv_iload_n hx hb dX0_raiseStamps_9 rfl (lv_at hl 0 rfl) ?_
    refine lv_aload_n hx hb dX0_raiseStamps_10 rfl (lv_at hl 3 rfl) ?_
    refine va_get (D := G.1) (ci := 2) (v := .ref bo) (C := RX0) (T := TX0) (N := 10) hx hb hts wsi_X0_raiseStamps_X0 hown hK hP 0 rfl rfl 9 (by decide) (hts (.fieldLink "Cellarscheduler$Brew" 47 "Cellarscheduler$Brew" "bottlesByClass" "[I") (List.mem_of_getElem? (i := 1) (by decide +kernel))) (fun _ h9 => h9) rfl dX0_raiseStamps_11 ?_
    refine va_alen (v := 4) hx hb hK hP 1 0 rfl rfl rfl dX0_raiseStamps_14 ?_
    refine lv_icmp_ge (tgt := 61) hx hb dX0_raiseStamps_15 (by decide) (fun c_21 => absurd c_21 (by decide)) (fun c_21 => ?_)
    refine lv_aload_n hx hb dX0_raiseStamps_18 rfl (lv_at hl 3 rfl) ?_
    refine va_get (D := G.1) (ci := 2) (v := .ref bo) (C := RX0) (T := TX0) (N := 10) hx hb hts wsi_X0_raiseStamps_X0 hown hK hP 0 rfl rfl 9 (by decide) (hts (.fieldLink "Cellarscheduler$Brew" 47 "Cellarscheduler$Brew" "bottlesByClass" "[I") (List.mem_of_getElem? (i := 1) (by decide +kernel))) (fun _ h9 => h9) rfl dX0_raiseStamps_19 ?_
    refine lv_iload_n hx hb dX0_raiseStamps_22 rfl (lv_at hl 0 rfl) ?_
    refine zIald hx hb hK hP 1 rfl 1 rfl (by omega) (by decide) dX0_raiseStamps_23 ?_
    refine lv_istore (lv' := [(4, .int ((f_X0_addBottles_bf (upd bf 0 0) 3 (bf 0)) 1)), (3, .int 1), (2, .int (0 + ((bf 0) * 11))), (0, .ref h0), (1, .int 3)]) hx hb dX0_raiseStamps_24 hl (by decide) rfl (fun ls hl => ?_)
    refine lv_iload_n hx hb dX0_raiseStamps_26 rfl (lv_at hl 2 rfl) ?_
    refine lv_iload hx hb dX0_raiseStamps_27 (lv_at hl 0 rfl) ?_
    refine lv_iload_n hx hb dX0_raiseStamps_29 rfl (lv_at hl 4 rfl) ?_
    refine zCi (r := f_X2_stampOf 3) (va_runSN (As := [.int 3]) (rest := [.int ((f_X0_addBottles_bf (upd bf 0 0) 3 (bf 0)) 1), .int (0 + ((bf 0) * 11))]) ⟨hx, hb, hml, hown, hts⟩ (c_X2_stampOf l G H.size 3) ⟨va_cnB 1 hts gX0_raiseStamps_X2_stampOf_n76 rfl rfl rfl (hE.w 24 rfl) (hts (.initialized RX2) (List.mem_of_getElem? (i := 3) (by decide +kernel))) (by decide +kernel) ⟨(Nat.le_of_ble_eq_true rfl), (Nat.le_of_ble_eq_true rfl)⟩, (hts (.static yX2_stampOf) (List.mem_of_getElem? (i := 2) (by decide +kernel))), trivial⟩ (zPreS hE hS hA hP hD hK (z_pick (n := 2) [] [0, 1] rfl (by decide) rfl rfl)) rfl rfl hl.1 rfl (lv_room (Nat.le_of_ble_eq_true rfl)) dX0_raiseStamps_30 ⟨(Nat.le_of_ble_eq_true rfl), (Nat.le_of_ble_eq_true rfl)⟩).run ?_
    refine zTop (v := 12) (by decide +kernel) ?_
    refine lv_iload_n hx hb dX0_raiseStamps_33 rfl (lv_at hl 1 rfl) ?_
    refine zCi (r := f_X2_stampOf 1) (va_runSN (As := [.int 1]) (rest := [.int 12, .int ((f_X0_addBottles_bf (upd bf 0 0) 3 (bf 0)) 1), .int (0 + ((bf 0) * 11))]) ⟨hx, hb, hml, hown, hts⟩ (c_X2_stampOf l G H.size 1) ⟨va_cnB 1 hts gX0_raiseStamps_X2_stampOf_n76 rfl rfl rfl (hE.w 24 rfl) (hts (.initialized RX2) (List.mem_of_getElem? (i := 3) (by decide +kernel))) (by decide +kernel) ⟨(Nat.le_of_ble_eq_true rfl), (Nat.le_of_ble_eq_true rfl)⟩, (hts (.static yX2_stampOf) (List.mem_of_getElem? (i := 2) (by decide +kernel))), trivial⟩ (zPreS hE hS hA hP hD hK (z_pick (n := 2) [] [0, 1] rfl (by decide) rfl rfl)) rfl rfl hl.1 rfl (lv_room (Nat.le_of_ble_eq_true rfl)) dX0_raiseStamps_34 ⟨(Nat.le_of_ble_eq_true rfl), (Nat.le_of_ble_eq_true rfl)⟩).run ?_
    refine zTop (v := 3) (by decide +kernel) ?_
    refine lv_isub hx hb dX0_raiseStamps_37 ?_
    refine zTop (v := 9) (by decide) ?_
    refine lv_imul hx hb dX0_raiseStamps_38 ?_
    refine lv_iadd hx hb dX0_raiseStamps_39 ?_
    refine lv_istore_n (lv' := [(2, .int ((0 + ((bf 0) * 11)) + (((f_X0_addBottles_bf (upd bf 0 0) 3 (bf 0)) 1) * 9))), (4, .int ((f_X0_addBottles_bf (upd bf 0 0) 3 (bf 0)) 1)), (3, .int 1), (0, .ref h0), (1, .int 3)]) hx hb dX0_raiseStamps_40 rfl hl (by decide) rfl (fun ls hl => ?_)
    refine lv_aload_n hx hb dX0_raiseStamps_41 rfl (lv_at hl 3 rfl) ?_
    refine va_get (D := G.1) (ci := 2) (v := .ref bo) (C := RX0) (T := TX0) (N := 10) hx hb hts wsi_X0_raiseStamps_X0 hown hK hP 0 rfl rfl 9 (by decide) (hts (.fieldLink "Cellarscheduler$Brew" 47 "Cellarscheduler$Brew" "bottlesByClass" "[I") (List.mem_of_getElem? (i := 1) (by decide +kernel))) (fun _ h9 => h9) rfl dX0_raiseStamps_42 ?_
    refine lv_iload_n hx hb dX0_raiseStamps_45 rfl (lv_at hl 2 rfl) ?_
    refine lv_iconst (v := 0) hx hb dX0_raiseStamps_46 (by decide) ?_
    refine zIast hx hb hK hP hD hS 1 rfl 1 rfl (by omega) (by decide) dX0_raiseStamps_47 (fun H locs hP hD hS => ?_)
    have hP : zP G [(h0, .inr (2, [.int tk, .int rp, .int li, .int st, .int me, .int la, .int lc, .int vo, .ref tx, .ref bo])), (bo, .inl (G.2.1 0, 4, .inl (upd (f_X0_addBottles_bf (upd bf 0 0) 3 (bf 0)) 1 0)))] H := hP
    have hD : va_D A [(h0, .inr (2, [.int tk, .int rp, .int li, .int st, .int me, .int la, .int lc, .int vo, .ref tx, .ref bo])), (bo, .inl (G.2.1 0, 4, .inl (upd (f_X0_addBottles_bf (upd bf 0 0) 3 (bf 0)) 1 0)))] := hD
    refine lv_aload_n hx hb dX0_raiseStamps_48 rfl (lv_at hl 3 rfl) ?_
    refine lv_iload_n hx hb dX0_raiseStamps_49 rfl (lv_at hl 4 rfl) ?_
    refine lv_iload hx hb dX0_raiseStamps_50 (lv_at hl 1 rfl) ?_
    refine zDv (wr := []) (va_runV (As := [.int 3, .int ((f_X0_addBottles_bf (upd bf 0 0) 3 (bf 0)) 1)]) (rest := []) ⟨hx, hb, hml, hown, hts⟩ (c_X0_addBottles l G H.size h0 tk rp li st me la lc vo tx bo (upd (f_X0_addBottles_bf (upd bf 0 0) 3 (bf 0)) 1 0) 3 ((f_X0_addBottles_bf (upd bf 0 0) 3 (bf 0)) 1)) (cwV 2 hts gX0_raiseStamps_X0_addBottles rfl rfl rfl (by decide +kernel) ⟨(Nat.le_of_ble_eq_true rfl), (Nat.le_of_ble_eq_true rfl)⟩) (zPreV hE hS hA hP hD hK (z_pick (n := 2) [0, 1] [] rfl (by decide) rfl rfl) (va_recv hK hP (ci := 2) (q0 := 0) rfl rfl)) rfl rfl hl.1 rfl (lv_room (Nat.le_of_ble_eq_true rfl)) dX0_raiseStamps_52 ⟨(Nat.le_of_ble_eq_true rfl), (Nat.le_of_ble_eq_true rfl)⟩) hP hD hS hA (z_pick (n := 2) [0, 1] [] rfl (by decide) rfl rfl) (fun u_22 H locs hp_23 hP hD hS => ?_)
    obtain ⟨bf_4, rfl⟩ : ∃ z, z = u_22 := ⟨_, rfl⟩
    have eu_22_0 := hp_23
    try dsimp only at eu_22_0
    subst eu_22_0
    have hP : zP G [(h0, .inr (2, [.int tk, .int rp, .int li, .int st, .int me, .int la, .int lc, .int vo, .ref tx, .ref bo])), (bo, .inl (G.2.1 0, 4, .inl (f_X0_addBottles_bf (upd (f_X0_addBottles_bf (upd bf 0 0) 3 (bf 0)) 1 0) 3 ((f_X0_addBottles_bf (upd bf 0 0) 3 (bf 0)) 1))))] H := hP
    have hD : va_D A [(h0, .inr (2, [.int tk, .int rp, .int li, .int st, .int me, .int la, .int lc, .int vo, .ref tx, .ref bo])), (bo, .inl (G.2.1 0, 4, .inl (f_X0_addBottles_bf (upd (f_X0_addBottles_bf (upd bf 0 0) 3 (bf 0)) 1 0) 3 ((f_X0_addBottles_bf (upd bf 0 0) 3 (bf 0)) 1))))] := hD
    refine lv_iinc (v := 2) (lv' := [(3, .int 2), (2, .int ((0 + ((bf 0) * 11)) + (((f_X0_addBottles_bf (upd bf 0 0) 3 (bf 0)) 1) * 9))), (4, .int ((f_X0_addBottles_bf (upd bf 0 0) 3 (bf 0)) 1)), (0, .ref h0), (1, .int 3)]) hx hb dX0_raiseStamps_55 hl (k := 2) rfl (by decide) (by decide) rfl (fun ls hl => ?_)
    refine lv_goto (tgt := 4) hx hb dX0_raiseStamps_58 (by decide) ?_
    refine lv_iload_n hx hb dX0_raiseStamps_4 rfl (lv_at hl 0 rfl) ?_
    refine lv_iload_n hx hb dX0_raiseStamps_5 rfl (lv_at hl 4 rfl) ?_
    refine lv_icmp_ge (tgt := 61) hx hb dX0_raiseStamps_6 (by decide) (fun c_24 => absurd c_24 (by decide)) (fun c_24 => ?_)
    refine lv_iload_n hx hb dX0_raiseStamps_9 rfl (lv_at hl 0 rfl) ?_
    refine lv_aload_n hx hb dX0_raiseStamps_10 rfl (lv_at hl 3 rfl) ?_
    refine va_get (D := G.1) (ci := 2) (v := .ref bo) (C := RX0) (T := TX0) (N := 10) hx hb hts wsi_X0_raiseStamps_X0 hown hK hP 0 rfl rfl 9 (by decide) (hts (.fieldLink "Cellarscheduler$Brew" 47 "Cellarscheduler$Brew" "bottlesByClass" "[I") (List.mem_of_getElem? (i := 1) (by decide +kernel))) (fun _ h9 => h9) rfl dX0_raiseStamps_11 ?_
    refine va_alen (v := 4) hx hb hK hP 1 0 rfl rfl rfl dX0_raiseStamps_14 ?_
    refine lv_icmp_ge (tgt := 61) hx hb dX0_raiseStamps_15 (by decide) (fun c_25 => absurd c_25 (by decide)) (fun c_25 => ?_)
    refine lv_aload_n hx hb dX0_raiseStamps_18 rfl (lv_at hl 3 rfl) ?_
    refine va_get (D := G.1) (ci := 2) (v := .ref bo) (C := RX0) (T := TX0) (N := 10) hx hb hts wsi_X0_raiseStamps_X0 hown hK hP 0 rfl rfl 9 (by decide) (hts (.fieldLink "Cellarscheduler$Brew" 47 "Cellarscheduler$Brew" "bottlesByClass" "[I") (List.mem_of_getElem? (i := 1) (by decide +kernel))) (fun _ h9 => h9) rfl dX0_raiseStamps_19 ?_
    refine lv_iload_n hx hb dX0_raiseStamps_22 rfl (lv_at hl 0 rfl) ?_
    refine zIald hx hb hK hP 1 rfl 2 rfl (by omega) (by decide) dX0_raiseStamps_23 ?_
    refine lv_istore (lv' := [(4, .int ((f_X0_addBottles_bf (upd (f_X0_addBottles_bf (upd bf 0 0) 3 (bf 0)) 1 0) 3 ((f_X0_addBottles_bf (upd bf 0 0) 3 (bf 0)) 1)) 2)), (3, .int 2), (2, .int ((0 + ((bf 0) * 11)) + (((f_X0_addBottles_bf (upd bf 0 0) 3 (bf 0)) 1) * 9))), (0, .ref h0), (1, .int 3)]) hx hb dX0_raiseStamps_24 hl (by decide) rfl (fun ls hl => ?_)
    refine lv_iload_n hx hb dX0_raiseStamps_26 rfl (lv_at hl 2 rfl) ?_
    refine lv_iload hx hb dX0_raiseStamps_27 (lv_at hl 0 rfl) ?_
    refine lv_iload_n hx hb dX0_raiseStamps_29 rfl (lv_at hl 4 rfl) ?_
    refine zCi (r := f_X2_stampOf 3) (va_runSN (As := [.int 3]) (rest := [.int ((f_X0_addBottles_bf (upd (f_X0_addBottles_bf (upd bf 0 0) 3 (bf 0)) 1 0) 3 ((f_X0_addBottles_bf (upd bf 0 0) 3 (bf 0)) 1)) 2), .int ((0 + ((bf 0) * 11)) + (((f_X0_addBottles_bf (upd bf 0 0) 3 (bf 0)) 1) * 9))]) ⟨hx, hb, hml, hown, hts⟩ (c_X2_stampOf l G H.size 3) ⟨va_cnB 1 hts gX0_raiseStamps_X2_stampOf_n76 rfl rfl rfl (hE.w 24 rfl) (hts (.initialized RX2) (List.mem_of_getElem? (i := 3) (by decide +kernel))) (by decide +kernel) ⟨(Nat.le_of_ble_eq_true rfl), (Nat.le_of_ble_eq_true rfl)⟩, (hts (.static yX2_stampOf) (List.mem_of_getElem? (i := 2) (by decide +kernel))), trivial⟩ (zPreS hE hS hA hP hD hK (z_pick (n := 2) [] [0, 1] rfl (by decide) rfl rfl)) rfl rfl hl.1 rfl (lv_room (Nat.le_of_ble_eq_true rfl)) dX0_raiseStamps_30 ⟨(Nat.le_of_ble_eq_true rfl), (Nat.le_of_ble_eq_true rfl)⟩).run ?_
    refine zTop (v := 12) (by decide +kernel) ?_
    refine lv_iload_n hx hb dX0_raiseStamps_33 rfl (lv_at hl 1 rfl) ?_
    refine zCi (r := f_X2_stampOf 2) (va_runSN (As := [.int 2]) (rest := [.int 12, .int ((f_X0_addBottles_bf (upd (f_X0_addBottles_bf (upd bf 0 0) 3 (bf 0)) 1 0) 3 ((f_X0_addBottles_bf (upd bf 0 0) 3 (bf 0)) 1)) 2), .int ((0 + ((bf 0) * 11)) + (((f_X0_addBottles_bf (upd bf 0 0) 3 (bf 0)) 1) * 9))]) ⟨hx, hb, hml, hown, hts⟩ (c_X2_stampOf l G H.size 2) ⟨va_cnB 1 hts gX0_raiseStamps_X2_stampOf_n76 rfl rfl rfl (hE.w 24 rfl) (hts (.initialized RX2) (List.mem_of_getElem? (i := 3) (by decide +kernel))) (by decide +kernel) ⟨(Nat.le_of_ble_eq_true rfl), (Nat.le_of_ble_eq_true rfl)⟩, (hts (.static yX2_stampOf) (List.mem_of_getElem? (i := 2) (by decide +kernel))), trivial⟩ (zPreS hE hS hA hP hD hK (z_pick (n := 2) [] [0, 1] rfl (by decide) rfl rfl)) rfl rfl hl.1 rfl (lv_room (Nat.le_of_ble_eq_true rfl)) dX0_raiseStamps_34 ⟨(Nat.le_of_ble_eq_true rfl), (Nat.le_of_ble_eq_true rfl)⟩).run ?_
    refine zTop (v := 6) (by decide +kernel) ?_
    refine lv_isub hx hb dX0_raiseStamps_37 ?_
    refine zTop (v := 6) (by decide) ?_
    refine lv_imul hx hb dX0_raiseStamps_38 ?_
    refine lv_iadd hx hb dX0_raiseStamps_39 ?_
    refine lv_istore_n (lv' := [(2, .int (((0 + ((bf 0) * 11)) + (((f_X0_addBottles_bf (upd bf 0 0) 3 (bf 0)) 1) * 9)) + (((f_X0_addBottles_bf (upd (f_X0_addBottles_bf (upd bf 0 0) 3 (bf 0)) 1 0) 3 ((f_X0_addBottles_bf (upd bf 0 0) 3 (bf 0)) 1)) 2) * 6))), (4, .int ((f_X0_addBottles_bf (upd (f_X0_addBottles_bf (upd bf 0 0) 3 (bf 0)) 1 0) 3 ((f_X0_addBottles_bf (upd bf 0 0) 3 (bf 0)) 1)) 2)), (3, .int 2), (0, .ref h0), (1, .int 3)]) hx hb dX0_raiseStamps_40 rfl hl (by decide) rfl (fun ls hl => ?_)
    refine lv_aload_n hx hb dX0_raiseStamps_41 rfl (lv_at hl 3 rfl) ?_
    refine va_get (D := G.1) (ci := 2) (v := .ref bo) (C := RX0) (T := TX0) (N := 10) hx hb hts wsi_X0_raiseStamps_X0 hown hK hP 0 rfl rfl 9 (by decide) (hts (.fieldLink "Cellarscheduler$Brew" 47 "Cellarscheduler$Brew" "bottlesByClass" "[I") (List.mem_of_getElem? (i := 1) (by decide +kernel))) (fun _ h9 => h9) rfl dX0_raiseStamps_42 ?_
    refine lv_iload_n hx hb dX0_raiseStamps_45 rfl (lv_at hl 2 rfl) ?_
    refine lv_iconst (v := 0) hx hb dX0_raiseStamps_46 (by decide) ?_
    refine zIast hx hb hK hP hD hS 1 rfl 2 rfl (by omega) (by decide) dX0_raiseStamps_47 (fun H locs hP hD hS => ?_)
    have hP : zP G [(h0, .inr (2, [.int tk, .int rp, .int li, .int st, .int me, .int la, .int lc, .int vo, .ref tx, .ref bo])), (bo, .inl (G.2.1 0, 4, .inl (upd (f_X0_addBottles_bf (upd (f_X0_addBottles_bf (upd bf 0 0) 3 (bf 0)) 1 0) 3 ((f_X0_addBottles_bf (upd bf 0 0) 3 (bf 0)) 1)) 2 0)))] H := hP
    have hD : va_D A [(h0, .inr (2, [.int tk, .int rp, .int li, .int st, .int me, .int la, .int lc, .int vo, .ref tx, .ref bo])), (bo, .inl (G.2.1 0, 4, .inl (upd (f_X0_addBottles_bf (upd (f_X0_addBottles_bf (upd bf 0 0) 3 (bf 0)) 1 0) 3 ((f_X0_addBottles_bf (upd bf 0 0) 3 (bf 0)) 1)) 2 0)))] := hD
    refine lv_aload_n hx hb dX0_raiseStamps_48 rfl (lv_at hl 3 rfl) ?_
    refine lv_iload_n hx hb dX0_raiseStamps_49 rfl (lv_at hl 4 rfl) ?_
    refine lv_iload hx hb dX0_raiseStamps_50 (lv_at hl 1 rfl) ?_
    refine zDv (wr := []) (va_runV (As := [.int 3, .int ((f_X0_addBottles_bf (upd (f_X0_addBottles_bf (upd bf 0 0) 3 (bf 0)) 1 0) 3 ((f_X0_addBottles_bf (upd bf 0 0) 3 (bf 0)) 1)) 2)]) (rest := []) ⟨hx, hb, hml, hown, hts⟩ (c_X0_addBottles l G H.size h0 tk rp li st me la lc vo tx bo (upd (f_X0_addBottles_bf (upd (f_X0_addBottles_bf (upd bf 0 0) 3 (bf 0)) 1 0) 3 ((f_X0_addBottles_bf (upd bf 0 0) 3 (bf 0)) 1)) 2 0) 3 ((f_X0_addBottles_bf (upd (f_X0_addBottles_bf (upd bf 0 0) 3 (bf 0)) 1 0) 3 ((f_X0_addBottles_bf (upd bf 0 0) 3 (bf 0)) 1)) 2)) (cwV 2 hts gX0_raiseStamps_X0_addBottles rfl rfl rfl (by decide +kernel) ⟨(Nat.le_of_ble_eq_true rfl), (Nat.le_of_ble_eq_true rfl)⟩) (zPreV hE hS hA hP hD hK (z_pick (n := 2) [0, 1] [] rfl (by decide) rfl rfl) (va_recv hK hP (ci := 2) (q0 := 0) rfl rfl)) rfl rfl hl.1 rfl (lv_room (Nat.le_of_ble_eq_true rfl)) dX0_raiseStamps_52 ⟨(Nat.le_of_ble_eq_true rfl), (Nat.le_of_ble_eq_true rfl)⟩) hP hD hS hA (z_pick (n := 2) [0, 1] [] rfl (by decide) rfl rfl) (fun u_26 H locs hp_27 hP hD hS => ?_)
    obtain ⟨bf_5, rfl⟩ : ∃ z, z = u_26 := ⟨_, rfl⟩
    have eu_26_0 := hp_27
    try dsimp only at eu_26_0
    subst eu_26_0
    have hP : zP G [(h0, .inr (2, [.int tk, .int rp, .int li, .int st, .int me, .int la, .int lc, .int vo, .ref tx, .ref bo])), (bo, .inl (G.2.1 0, 4, .inl (f_X0_addBottles_bf (upd (f_X0_addBottles_bf (upd (f_X0_addBottles_bf (upd bf 0 0) 3 (bf 0)) 1 0) 3 ((f_X0_addBottles_bf (upd bf 0 0) 3 (bf 0)) 1)) 2 0) 3 ((f_X0_addBottles_bf (upd (f_X0_addBottles_bf (upd bf 0 0) 3 (bf 0)) 1 0) 3 ((f_X0_addBottles_bf (upd bf 0 0) 3 (bf 0)) 1)) 2))))] H := hP
    have hD : va_D A [(h0, .inr (2, [.int tk, .int rp, .int li, .int st, .int me, .int la, .int lc, .int vo, .ref tx, .ref bo])), (bo, .inl (G.2.1 0, 4, .inl (f_X0_addBottles_bf (upd (f_X0_addBottles_bf (upd (f_X0_addBottles_bf (upd bf 0 0) 3 (bf 0)) 1 0) 3 ((f_X0_addBottles_bf (upd bf 0 0) 3 (bf 0)) 1)) 2 0) 3 ((f_X0_addBottles_bf (upd (f_X0_addBottles_bf (upd bf 0 0) 3 (bf 0)) 1 0) 3 ((f_X0_addBottles_bf (upd bf 0 0) 3 (bf 0)) 1)) 2))))] := hD
    refine lv_iinc (v := 3) (lv' := [(3, .int 3), (2, .int (((0 + ((bf 0) * 11)) + (((f_X0_addBottles_bf (upd bf 0 0) 3 (bf 0)) 1) * 9)) + (((f_X0_addBottles_bf (upd (f_X0_addBottles_bf (upd bf 0 0) 3 (bf 0)) 1 0) 3 ((f_X0_addBottles_bf (upd bf 0 0) 3 (bf 0)) 1)) 2) * 6))), (4, .int ((f_X0_addBottles_bf (upd (f_X0_addBottles_bf (upd bf 0 0) 3 (bf 0)) 1 0) 3 ((f_X0_addBottles_bf (upd bf 0 0) 3 (bf 0)) 1)) 2)), (0, .ref h0), (1, .int 3)]) hx hb dX0_raiseStamps_55 hl (k := 2) rfl (by decide) (by decide) rfl (fun ls hl => ?_)
    refine lv_goto (tgt := 4) hx hb dX0_raiseStamps_58 (by decide) ?_
    refine lv_iload_n hx hb dX0_raiseStamps_4 rfl (lv_at hl 0 rfl) ?_
    refine lv_iload_n hx hb dX0_raiseStamps_5 rfl (lv_at hl 4 rfl) ?_
    refine lv_icmp_ge (tgt := 61) hx hb dX0_raiseStamps_6 (by decide) (fun c_28 => ?_) (fun c_28 => absurd (by decide) c_28)
    refine lv_iload_n hx hb dX0_raiseStamps_61 rfl (lv_at hl 1 rfl) ?_
    exact zWi (f_X0_addBottles_bf (upd (f_X0_addBottles_bf (upd (f_X0_addBottles_bf (upd bf 0 0) 3 (bf 0)) 1 0) 3 ((f_X0_addBottles_bf (upd bf 0 0) 3 (bf 0)) 1)) 2 0) 3 ((f_X0_addBottles_bf (upd (f_X0_addBottles_bf (upd bf 0 0) 3 (bf 0)) 1 0) 3 ((f_X0_addBottles_bf (upd bf 0 0) 3 (bf 0)) 1)) 2)) hx hb hr hlocks rfl ⟨(by rw [f_X0_raiseStamps, if_neg (by decide : ¬ (3 : Int32) = 0), if_neg (by decide : ¬ (3 : Int32) = 1), if_neg (by decide : ¬ (3 : Int32) = 2)]), (by rw [f_X0_raiseStamps_bf, if_neg (by decide : ¬ (3 : Int32) = 0), if_neg (by decide : ¬ (3 : Int32) = 1), if_neg (by decide : ¬ (3 : Int32) = 2)])⟩ hP hD hK hS (z_pick (n := 2) [0, 1] [] rfl (by decide) rfl rfl) (Nat.le_of_ble_eq_true rfl) (Nat.le_of_ble_eq_true rfl) dX0_raiseStamps_62

theorem wsi_X0_setMeasured_X0 : ∀ w ∈ wsX00, w ∈ wsX0_setMeasured := fun w h => List.mem_cons_of_mem _ (List.mem_append_right _ h)
def f_X0_setMeasured_la (la : Int32) (lc : Int32) (vo : Int32) (mm : Int32) : Int32 := if (f_X2_classOf mm) ≤ lc then la else 0
def f_X0_setMeasured_vo (la : Int32) (lc : Int32) (vo : Int32) (mm : Int32) : Int32 := if (f_X2_classOf mm) ≤ lc then vo else (vo + la)
set_option maxHeartbeats 4000000 in
set_option maxRecDepth 100000 in
/-- Brew.setMeasured(strength) -/
theorem c_X0_setMeasured (l : Launch) (G : zG) (sz : Nat) (h0 : Nat) (tk : Int32) (rp : Int32) (li : Int32) (st : Int32) (me : Int32) (la : Int32) (lc : Int32) (vo : Int32) (tx : Nat) (bo : Nat) (bf : Nat → Int32) (mm : Int32) : Met l yX0_setMeasured wsX0_setMeasured { frames := 3, cells := 0, slots := 0, locals := 65 } (zPc G [.ref h0, .int mm] [(h0, .inr (2, [.int tk, .int rp, .int li, .int st, .int me, .int la, .int lc, .int vo, .ref tx, .ref bo])), (bo, .inl (G.2.1 0, 4, .inl bf))] sz) (zQi G (fun (r : Int32) (u : Int32 × Int32) => r = f_X0_raiseStamps bf (f_X2_classOf mm) ∧ u.1 = f_X0_setMeasured_la la lc vo mm ∧ u.2 = f_X0_setMeasured_vo la lc vo mm) (fun u => [(h0, .inr (2, [.int tk, .int rp, .int li, .int mm, .int 1, .int u.1, .int lc, .int u.2, .ref tx, .ref bo])), (bo, .inl (G.2.1 0, 4, .inl (f_X0_raiseStamps_bf bf (f_X2_classOf mm))))]) (va_A [(h0, .inr (2, [.int tk, .int rp, .int li, .int st, .int me, .int la, .int lc, .int vo, .ref tx, .ref bo])), (bo, .inl (G.2.1 0, 4, .inl bf))] sz)) 0 0 (va_A [(h0, .inr (2, [.int tk, .int rp, .int li, .int st, .int me, .int la, .int lc, .int vo, .ref tx, .ref bo])), (bo, .inl (G.2.1 0, 4, .inl bf))] sz) := by
  refine zOfW (Qc := fun A => zQi G (fun (r : Int32) (u : Int32 × Int32) => r = f_X0_raiseStamps bf (f_X2_classOf mm) ∧ u.1 = f_X0_setMeasured_la la lc vo mm ∧ u.2 = f_X0_setMeasured_vo la lc vo mm) (fun u => [(h0, .inr (2, [.int tk, .int rp, .int li, .int mm, .int 1, .int u.1, .int lc, .int u.2, .ref tx, .ref bo])), (bo, .inl (G.2.1 0, 4, .inl (f_X0_raiseStamps_bf bf (f_X2_classOf mm))))]) A) (fr := fun A => A) (cc := cX0_setMeasured) (maxL := 2) (ret := (some .int)) (by decide) rfl (Nat.le_of_ble_eq_true rfl) ?_
  intro p e s m below meth c hx hb hml hr hlocks hown hin hts A hP hK hD hE hA hS ls hl
  have hl : lv_has ls 2 [(0, .ref h0), (1, .int mm)] := hl
  have hown : s.vm.findClass RX0 = some m.cls := hown
  have hP : zP G [(h0, .inr (2, [.int tk, .int rp, .int li, .int st, .int me, .int la, .int lc, .int vo, .ref tx, .ref bo])), (bo, .inl (G.2.1 0, 4, .inl bf))] s.heap := hP
  have hD : va_D A [(h0, .inr (2, [.int tk, .int rp, .int li, .int st, .int me, .int la, .int lc, .int vo, .ref tx, .ref bo])), (bo, .inl (G.2.1 0, 4, .inl bf))] := hD
  refine lv_aload_n hx hb dX0_setMeasured_0 rfl (lv_at hl 0 rfl) ?_
  refine lv_iload_n hx hb dX0_setMeasured_1 rfl (lv_at hl 1 rfl) ?_
  refine va_put (D := G.1) (ci := 2) (v := .int mm) (ty := .int) (C := RX0) (T := TX0) (N := 10) hx hb hts wsi_X0_setMeasured_X0 tyX0 tyX0_ok nmX0 hown hK hP hD hS 0 rfl rfl 3 (by decide) (hts (.fieldLink "Cellarscheduler$Brew" 19 "Cellarscheduler$Brew" "strength" "I") (List.mem_of_getElem? (i := 1) (by decide +kernel))) (fun _ h9 => h9) rfl (by decide +kernel) rfl rfl (Nat.le_of_ble_eq_true rfl) dX0_setMeasured_2 (fun H locs hP hD hS => ?_)
  have hP : zP G [(h0, .inr (2, [.int tk, .int rp, .int li, .int mm, .int me, .int la, .int lc, .int vo, .ref tx, .ref bo])), (bo, .inl (G.2.1 0, 4, .inl bf))] H := hP
  have hD : va_D A [(h0, .inr (2, [.int tk, .int rp, .int li, .int mm, .int me, .int la, .int lc, .int vo, .ref tx, .ref bo])), (bo, .inl (G.2.1 0, 4, .inl bf))] := hD
  refine lv_aload_n hx hb dX0_setMeasured_5 rfl (lv_at hl 0 rfl) ?_
  refine lv_iconst (v := 1) hx hb dX0_setMeasured_6 (by decide) ?_
  refine va_put (D := G.1) (ci := 2) (v := .int 1) (ty := .boolean) (C := RX0) (T := TX0) (N := 10) hx hb hts wsi_X0_setMeasured_X0 tyX0 tyX0_ok nmX0 hown hK hP hD hS 0 rfl rfl 4 (by decide) (hts (.fieldLink "Cellarscheduler$Brew" 22 "Cellarscheduler$Brew" "isMeasured" "Z") (List.mem_of_getElem? (i := 2) (by decide +kernel))) (fun _ h9 => h9) rfl (by decide +kernel) rfl rfl (Nat.le_of_ble_eq_true rfl) dX0_setMeasured_7 (fun H locs hP hD hS => ?_)
  have hP : zP G [(h0, .inr (2, [.int tk, .int rp, .int li, .int mm, .int 1, .int la, .int lc, .int vo, .ref tx, .ref bo])), (bo, .inl (G.2.1 0, 4, .inl bf))] H := hP
  have hD : va_D A [(h0, .inr (2, [.int tk, .int rp, .int li, .int mm, .int 1, .int la, .int lc, .int vo, .ref tx, .ref bo])), (bo, .inl (G.2.1 0, 4, .inl bf))] := hD
  refine lv_aload_n hx hb dX0_setMeasured_10 rfl (lv_at hl 0 rfl) ?_
  refine zCi (r := f_X2_classOf mm) (va_runV (As := []) (rest := []) ⟨hx, hb, hml, hown, hts⟩ (c_X0_strengthClass l G H.size h0 tk rp li mm 1 la lc vo tx bo) (cwV 0 hts gX0_setMeasured_X0_strengthClass rfl rfl rfl (by decide +kernel) ⟨(Nat.le_of_ble_eq_true rfl), (Nat.le_of_ble_eq_true rfl)⟩) (zPreV hE hS hA hP hD hK (z_pick (n := 2) [0] [1] rfl (by decide) rfl rfl) (va_recv hK hP (ci := 2) (q0 := 0) rfl rfl)) rfl rfl hl.1 rfl (lv_room (Nat.le_of_ble_eq_true rfl)) dX0_setMeasured_11 ⟨(Nat.le_of_ble_eq_true rfl), (Nat.le_of_ble_eq_true rfl)⟩).run ?_
  refine lv_aload_n hx hb dX0_setMeasured_14 rfl (lv_at hl 0 rfl) ?_
  refine va_get (D := G.1) (ci := 2) (v := .int lc) (C := RX0) (T := TX0) (N := 10) hx hb hts wsi_X0_setMeasured_X0 hown hK hP 0 rfl rfl 6 (by decide) (hts (.fieldLink "Cellarscheduler$Brew" 29 "Cellarscheduler$Brew" "labelClass" "I") (List.mem_of_getElem? (i := 3) (by decide +kernel))) (fun _ h9 => h9) rfl dX0_setMeasured_15 ?_
  refine lv_icmp_le (tgt := 25) hx hb dX0_setMeasured_18 (by decide) (fun c_1 => ?_) (fun c_1 => ?_)
  · refine lv_aload_n hx hb dX0_setMeasured_25 rfl (lv_at hl 0 rfl) ?_
    refine lv_aload_n hx hb dX0_setMeasured_26 rfl (lv_at hl 0 rfl) ?_
    refine zCi (r := f_X2_classOf mm) (va_runV (As := []) (rest := [.ref h0]) ⟨hx, hb, hml, hown, hts⟩ (c_X0_strengthClass l G H.size h0 tk rp li mm 1 la lc vo tx bo) (cwV 0 hts gX0_setMeasured_X0_strengthClass rfl rfl rfl (by decide +kernel) ⟨(Nat.le_of_ble_eq_true rfl), (Nat.le_of_ble_eq_true rfl)⟩) (zPreV hE hS hA hP hD hK (z_pick (n := 2) [0] [1] rfl (by decide) rfl rfl) (va_recv hK hP (ci := 2) (q0 := 0) rfl rfl)) rfl rfl hl.1 rfl (lv_room (Nat.le_of_ble_eq_true rfl)) dX0_setMeasured_27 ⟨(Nat.le_of_ble_eq_true rfl), (Nat.le_of_ble_eq_true rfl)⟩).run ?_
    refine zDi (wr := []) (va_runV (As := [.int (f_X2_classOf mm)]) (rest := []) ⟨hx, hb, hml, hown, hts⟩ (c_X0_raiseStamps l G H.size h0 tk rp li mm 1 la lc vo tx bo bf (f_X2_classOf mm) (z_cls mm)) (cwV 1 hts gX0_setMeasured_X0_raiseStamps rfl rfl rfl (by decide +kernel) ⟨(Nat.le_of_ble_eq_true rfl), (Nat.le_of_ble_eq_true rfl)⟩) (zPreV hE hS hA hP hD hK (z_pick (n := 2) [0, 1] [] rfl (by decide) rfl rfl) (va_recv hK hP (ci := 2) (q0 := 0) rfl rfl)) rfl rfl hl.1 rfl (lv_room (Nat.le_of_ble_eq_true rfl)) dX0_setMeasured_30 ⟨(Nat.le_of_ble_eq_true rfl), (Nat.le_of_ble_eq_true rfl)⟩) hP hD hS hA (z_pick (n := 2) [0, 1] [] rfl (by decide) rfl rfl) (fun r_u_2 u_2 H locs hp_3 hP hD hS => ?_)
    obtain ⟨bf_0, rfl⟩ : ∃ z, z = u_2 := ⟨_, rfl⟩
    obtain ⟨eu_2_0, eu_2_1⟩ := hp_3
    try dsimp only at eu_2_0 eu_2_1
    subst eu_2_0
    subst eu_2_1
    have hP : zP G [(h0, .inr (2, [.int tk, .int rp, .int li, .int mm, .int 1, .int la, .int lc, .int vo, .ref tx, .ref bo])), (bo, .inl (G.2.1 0, 4, .inl (f_X0_raiseStamps_bf bf (f_X2_classOf mm))))] H := hP
    have hD : va_D A [(h0, .inr (2, [.int tk, .int rp, .int li, .int mm, .int 1, .int la, .int lc, .int vo, .ref tx, .ref bo])), (bo, .inl (G.2.1 0, 4, .inl (f_X0_raiseStamps_bf bf (f_X2_classOf mm))))] := hD
    exact zWi (la, vo) hx hb hr hlocks rfl ⟨rfl, (by rw [f_X0_setMeasured_la, if_pos c_1]), (by rw [f_X0_setMeasured_vo, if_pos c_1])⟩ hP hD hK hS (z_pick (n := 2) [0, 1] [] rfl (by decide) rfl rfl) (Nat.le_of_ble_eq_true rfl) (Nat.le_of_ble_eq_true rfl) dX0_setMeasured_33
  · refine lv_aload_n hx hb dX0_setMeasured_21 rfl (lv_at hl 0 rfl) ?_
    refine zDv (wr := [(bo, .inl (G.2.1 0, 4, .inl bf))]) (va_runV (As := []) (rest := []) ⟨hx, hb, hml, hown, hts⟩ (c_X0_voidAllLabels l G H.size h0 tk rp li mm 1 la lc vo tx bo) (cwV 0 hts gX0_setMeasured_X0_voidAllLabels rfl rfl rfl (by decide +kernel) ⟨(Nat.le_of_ble_eq_true rfl), (Nat.le_of_ble_eq_true rfl)⟩) (zPreV hE hS hA hP hD hK (z_pick (n := 2) [0] [1] rfl (by decide) rfl rfl) (va_recv hK hP (ci := 2) (q0 := 0) rfl rfl)) rfl rfl hl.1 rfl (lv_room (Nat.le_of_ble_eq_true rfl)) dX0_setMeasured_22 ⟨(Nat.le_of_ble_eq_true rfl), (Nat.le_of_ble_eq_true rfl)⟩) hP hD hS hA (z_pick (n := 2) [0] [1] rfl (by decide) rfl rfl) (fun u_4 H locs hp_5 hP hD hS => ?_)
    have hP : zP G [(h0, .inr (2, [.int tk, .int rp, .int li, .int mm, .int 1, .int 0, .int lc, .int (vo + la), .ref tx, .ref bo])), (bo, .inl (G.2.1 0, 4, .inl bf))] H := hP
    have hD : va_D A [(h0, .inr (2, [.int tk, .int rp, .int li, .int mm, .int 1, .int 0, .int lc, .int (vo + la), .ref tx, .ref bo])), (bo, .inl (G.2.1 0, 4, .inl bf))] := hD
    refine lv_aload_n hx hb dX0_setMeasured_25 rfl (lv_at hl 0 rfl) ?_
    refine lv_aload_n hx hb dX0_setMeasured_26 rfl (lv_at hl 0 rfl) ?_
    refine zCi (r := f_X2_classOf mm) (va_runV (As := []) (rest := [.ref h0]) ⟨hx, hb, hml, hown, hts⟩ (c_X0_strengthClass l G H.size h0 tk rp li mm 1 0 lc (vo + la) tx bo) (cwV 0 hts gX0_setMeasured_X0_strengthClass rfl rfl rfl (by decide +kernel) ⟨(Nat.le_of_ble_eq_true rfl), (Nat.le_of_ble_eq_true rfl)⟩) (zPreV hE hS hA hP hD hK (z_pick (n := 2) [0] [1] rfl (by decide) rfl rfl) (va_recv hK hP (ci := 2) (q0 := 0) rfl rfl)) rfl rfl hl.1 rfl (lv_room (Nat.le_of_ble_eq_true rfl)) dX0_setMeasured_27 ⟨(Nat.le_of_ble_eq_true rfl), (Nat.le_of_ble_eq_true rfl)⟩).run ?_
    refine zDi (wr := []) (va_runV (As := [.int (f_X2_classOf mm)]) (rest := []) ⟨hx, hb, hml, hown, hts⟩ (c_X0_raiseStamps l G H.size h0 tk rp li mm 1 0 lc (vo + la) tx bo bf (f_X2_classOf mm) (z_cls mm)) (cwV 1 hts gX0_setMeasured_X0_raiseStamps rfl rfl rfl (by decide +kernel) ⟨(Nat.le_of_ble_eq_true rfl), (Nat.le_of_ble_eq_true rfl)⟩) (zPreV hE hS hA hP hD hK (z_pick (n := 2) [0, 1] [] rfl (by decide) rfl rfl) (va_recv hK hP (ci := 2) (q0 := 0) rfl rfl)) rfl rfl hl.1 rfl (lv_room (Nat.le_of_ble_eq_true rfl)) dX0_setMeasured_30 ⟨(Nat.le_of_ble_eq_true rfl), (Nat.le_of_ble_eq_true rfl)⟩) hP hD hS hA (z_pick (n := 2) [0, 1] [] rfl (by decide) rfl rfl) (fun r_u_6 u_6 H locs hp_7 hP hD hS => ?_)
    obtain ⟨bf_1, rfl⟩ : ∃ z, z = u_6 := ⟨_, rfl⟩
    obtain ⟨eu_6_0, eu_6_1⟩ := hp_7
    try dsimp only at eu_6_0 eu_6_1
    subst eu_6_0
    subst eu_6_1
    have hP : zP G [(h0, .inr (2, [.int tk, .int rp, .int li, .int mm, .int 1, .int 0, .int lc, .int (vo + la), .ref tx, .ref bo])), (bo, .inl (G.2.1 0, 4, .inl (f_X0_raiseStamps_bf bf (f_X2_classOf mm))))] H := hP
    have hD : va_D A [(h0, .inr (2, [.int tk, .int rp, .int li, .int mm, .int 1, .int 0, .int lc, .int (vo + la), .ref tx, .ref bo])), (bo, .inl (G.2.1 0, 4, .inl (f_X0_raiseStamps_bf bf (f_X2_classOf mm))))] := hD
    exact zWi (0, vo + la) hx hb hr hlocks rfl ⟨rfl, (by rw [f_X0_setMeasured_la, if_neg c_1]), (by rw [f_X0_setMeasured_vo, if_neg c_1])⟩ hP hD hK hS (z_pick (n := 2) [0, 1] [] rfl (by decide) rfl rfl) (Nat.le_of_ble_eq_true rfl) (Nat.le_of_ble_eq_true rfl) dX0_setMeasured_33

theorem wsi_X0_init_X0 : ∀ w ∈ wsX00, w ∈ wsX0_init := fun w h => List.mem_cons_of_mem _ (List.mem_append_right _ h)
set_option maxHeartbeats 4000000 in
set_option maxRecDepth 100000 in
/-- Brew(..) -/
theorem c_X0_init (l : Launch) (G : zG) (sz : Nat) (h0 : Nat) (tk : Int32) (li : Int32) (st : Int32) (rp : Int32) : Met l yX0_init wsX0_init { frames := 1, cells := 1, slots := 4, locals := 20 } (zPc G [.ref h0, .int tk, .int li, .int st, .int rp] [(h0, .inr (2, [.int 0, .int 0, .int 0, .int 0, .int 0, .int 0, .int 0, .int 0, .null, .null]))] sz) (zQv G (fun (u : Nat) => True) (fun u => [(h0, .inr (2, [.int tk, .int rp, .int li, .int st, .int 0, .int 0, .int 0, .int 0, .ref (G.2.2 10), .ref u])), (u, .inl (G.2.1 0, 4, .inl (fun _ => 0)))]) (va_A [(h0, .inr (2, [.int 0, .int 0, .int 0, .int 0, .int 0, .int 0, .int 0, .int 0, .null, .null]))] sz)) 1 4 (va_A [(h0, .inr (2, [.int 0, .int 0, .int 0, .int 0, .int 0, .int 0, .int 0, .int 0, .null, .null]))] sz) := by
  refine zOfW (Qc := fun A => zQv G (fun (u : Nat) => True) (fun u => [(h0, .inr (2, [.int tk, .int rp, .int li, .int st, .int 0, .int 0, .int 0, .int 0, .ref (G.2.2 10), .ref u])), (u, .inl (G.2.1 0, 4, .inl (fun _ => 0)))]) A) (fr := fun A => A) (cc := cX0_init) (maxL := 5) (ret := none) (by decide) rfl (Nat.le_of_ble_eq_true rfl) ?_
  intro p e s m below meth c hx hb hml hr hlocks hown hin hts A hP hK hD hE hA hS ls hl
  have hl : lv_has ls 5 [(0, .ref h0), (1, .int tk), (2, .int li), (3, .int st), (4, .int rp)] := hl
  have hown : s.vm.findClass RX0 = some m.cls := hown
  have hin : meth.name = "<init>" := hin
  have hP : zP G [(h0, .inr (2, [.int 0, .int 0, .int 0, .int 0, .int 0, .int 0, .int 0, .int 0, .null, .null]))] s.heap := hP
  have hD : va_D A [(h0, .inr (2, [.int 0, .int 0, .int 0, .int 0, .int 0, .int 0, .int 0, .int 0, .null, .null]))] := hD
  refine lv_aload_n hx hb dX0_init_0 rfl (lv_at hl 0 rfl) ?_
  refine W.objInit hx hb hown (hts (.methodLink "Cellarscheduler$Brew" 1 ⟨"java/lang/Object","<init>","()V"⟩) (List.mem_of_getElem? (i := 1) (by decide +kernel))) (hts (.instanceMethod objectInit) (List.mem_of_getElem? (i := 2) (by decide +kernel))) (hts (.code objectInit ⟨#[0xb1]⟩ 1 none) (List.mem_of_getElem? (i := 3) (by decide +kernel))) rfl (by rw [hml]; exact hl.1) rfl dX0_init_1 (Nat.le_of_ble_eq_true rfl) (Nat.le_of_ble_eq_true rfl) ?_
  refine W.eq (g2 := F0 m 4 ls []) rfl ?_
  refine lv_aload_n hx hb dX0_init_4 rfl (lv_at hl 0 rfl) ?_
  refine lv_iload_n hx hb dX0_init_5 rfl (lv_at hl 1 rfl) ?_
  refine va_putF (D := G.1) (ci := 2) (v := .int tk) (ty := .int) (C := RX0) (T := TX0) (N := 10) hx hb hts wsi_X0_init_X0 tyX0 tyX0_ok nmX0 hown hK hP hD hS 0 rfl rfl 0 (by decide) (hts (.fieldLink "Cellarscheduler$Brew" 7 "Cellarscheduler$Brew" "tank" "I") (List.mem_of_getElem? (i := 4) (by decide +kernel))) (fun _ h9 => h9) rfl hin rfl (by decide +kernel) rfl rfl (Nat.le_of_ble_eq_true rfl) dX0_init_6 (fun H locs hP hD hS => ?_)
  have hP : zP G [(h0, .inr (2, [.int tk, .int 0, .int 0, .int 0, .int 0, .int 0, .int 0, .int 0, .null, .null]))] H := hP
  have hD : va_D A [(h0, .inr (2, [.int tk, .int 0, .int 0, .int 0, .int 0, .int 0, .int 0, .int 0, .null, .null]))] := hD
  refine lv_aload_n hx hb dX0_init_9 rfl (lv_at hl 0 rfl) ?_
  refine lv_iload hx hb dX0_init_10 (lv_at hl 4 rfl) ?_
  refine va_putF (D := G.1) (ci := 2) (v := .int rp) (ty := .int) (C := RX0) (T := TX0) (N := 10) hx hb hts wsi_X0_init_X0 tyX0 tyX0_ok nmX0 hown hK hP hD hS 0 rfl rfl 1 (by decide) (hts (.fieldLink "Cellarscheduler$Brew" 13 "Cellarscheduler$Brew" "ripeDay" "I") (List.mem_of_getElem? (i := 5) (by decide +kernel))) (fun _ h9 => h9) rfl hin rfl (by decide +kernel) rfl rfl (Nat.le_of_ble_eq_true rfl) dX0_init_12 (fun H locs hP hD hS => ?_)
  have hP : zP G [(h0, .inr (2, [.int tk, .int rp, .int 0, .int 0, .int 0, .int 0, .int 0, .int 0, .null, .null]))] H := hP
  have hD : va_D A [(h0, .inr (2, [.int tk, .int rp, .int 0, .int 0, .int 0, .int 0, .int 0, .int 0, .null, .null]))] := hD
  refine lv_aload_n hx hb dX0_init_15 rfl (lv_at hl 0 rfl) ?_
  refine lv_iload_n hx hb dX0_init_16 rfl (lv_at hl 2 rfl) ?_
  refine va_put (D := G.1) (ci := 2) (v := .int li) (ty := .int) (C := RX0) (T := TX0) (N := 10) hx hb hts wsi_X0_init_X0 tyX0 tyX0_ok nmX0 hown hK hP hD hS 0 rfl rfl 2 (by decide) (hts (.fieldLink "Cellarscheduler$Brew" 16 "Cellarscheduler$Brew" "litres" "I") (List.mem_of_getElem? (i := 6) (by decide +kernel))) (fun _ h9 => h9) rfl (by decide +kernel) rfl rfl (Nat.le_of_ble_eq_true rfl) dX0_init_17 (fun H locs hP hD hS => ?_)
  have hP : zP G [(h0, .inr (2, [.int tk, .int rp, .int li, .int 0, .int 0, .int 0, .int 0, .int 0, .null, .null]))] H := hP
  have hD : va_D A [(h0, .inr (2, [.int tk, .int rp, .int li, .int 0, .int 0, .int 0, .int 0, .int 0, .null, .null]))] := hD
  refine lv_aload_n hx hb dX0_init_20 rfl (lv_at hl 0 rfl) ?_
  refine lv_iload_n hx hb dX0_init_21 rfl (lv_at hl 3 rfl) ?_
  refine va_put (D := G.1) (ci := 2) (v := .int st) (ty := .int) (C := RX0) (T := TX0) (N := 10) hx hb hts wsi_X0_init_X0 tyX0 tyX0_ok nmX0 hown hK hP hD hS 0 rfl rfl 3 (by decide) (hts (.fieldLink "Cellarscheduler$Brew" 19 "Cellarscheduler$Brew" "strength" "I") (List.mem_of_getElem? (i := 7) (by decide +kernel))) (fun _ h9 => h9) rfl (by decide +kernel) rfl rfl (Nat.le_of_ble_eq_true rfl) dX0_init_22 (fun H locs hP hD hS => ?_)
  have hP : zP G [(h0, .inr (2, [.int tk, .int rp, .int li, .int st, .int 0, .int 0, .int 0, .int 0, .null, .null]))] H := hP
  have hD : va_D A [(h0, .inr (2, [.int tk, .int rp, .int li, .int st, .int 0, .int 0, .int 0, .int 0, .null, .null]))] := hD
  refine lv_aload_n hx hb dX0_init_25 rfl (lv_at hl 0 rfl) ?_
  refine lv_iconst (v := 0) hx hb dX0_init_26 (by decide) ?_
  refine va_put (D := G.1) (ci := 2) (v := .int 0) (ty := .boolean) (C := RX0) (T := TX0) (N := 10) hx hb hts wsi_X0_init_X0 tyX0 tyX0_ok nmX0 hown hK hP hD hS 0 rfl rfl 4 (by decide) (hts (.fieldLink "Cellarscheduler$Brew" 22 "Cellarscheduler$Brew" "isMeasured" "Z") (List.mem_of_getElem? (i := 8) (by decide +kernel))) (fun _ h9 => h9) rfl (by decide +kernel) rfl rfl (Nat.le_of_ble_eq_true rfl) dX0_init_27 (fun H locs hP hD hS => ?_)
  have hP : zP G [(h0, .inr (2, [.int tk, .int rp, .int li, .int st, .int 0, .int 0, .int 0, .int 0, .null, .null]))] H := hP
  have hD : va_D A [(h0, .inr (2, [.int tk, .int rp, .int li, .int st, .int 0, .int 0, .int 0, .int 0, .null, .null]))] := hD
  refine lv_aload_n hx hb dX0_init_30 rfl (lv_at hl 0 rfl) ?_
  refine lv_iconst (v := 0) hx hb dX0_init_31 (by decide) ?_
  refine va_put (D := G.1) (ci := 2) (v := .int 0) (ty := .int) (C := RX0) (T := TX0) (N := 10) hx hb hts wsi_X0_init_X0 tyX0 tyX0_ok nmX0 hown hK hP hD hS 0 rfl rfl 5 (by decide) (hts (.fieldLink "Cellarscheduler$Brew" 26 "Cellarscheduler$Brew" "labels" "I") (List.mem_of_getElem? (i := 9) (by decide +kernel))) (fun _ h9 => h9) rfl (by decide +kernel) rfl rfl (Nat.le_of_ble_eq_true rfl) dX0_init_32 (fun H locs hP hD hS => ?_)
  have hP : zP G [(h0, .inr (2, [.int tk, .int rp, .int li, .int st, .int 0, .int 0, .int 0, .int 0, .null, .null]))] H := hP
  have hD : va_D A [(h0, .inr (2, [.int tk, .int rp, .int li, .int st, .int 0, .int 0, .int 0, .int 0, .null, .null]))] := hD
  refine lv_aload_n hx hb dX0_init_35 rfl (lv_at hl 0 rfl) ?_
  refine lv_iconst (v := 0) hx hb dX0_init_36 (by decide) ?_
  refine va_put (D := G.1) (ci := 2) (v := .int 0) (ty := .int) (C := RX0) (T := TX0) (N := 10) hx hb hts wsi_X0_init_X0 tyX0 tyX0_ok nmX0 hown hK hP hD hS 0 rfl rfl 6 (by decide) (hts (.fieldLink "Cellarscheduler$Brew" 29 "Cellarscheduler$Brew" "labelClass" "I") (List.mem_of_getElem? (i := 10) (by decide +kernel))) (fun _ h9 => h9) rfl (by decide +kernel) rfl rfl (Nat.le_of_ble_eq_true rfl) dX0_init_37 (fun H locs hP hD hS => ?_)
  have hP : zP G [(h0, .inr (2, [.int tk, .int rp, .int li, .int st, .int 0, .int 0, .int 0, .int 0, .null, .null]))] H := hP
  have hD : va_D A [(h0, .inr (2, [.int tk, .int rp, .int li, .int st, .int 0, .int 0, .int 0, .int 0, .null, .null]))] := hD
  refine lv_aload_n hx hb dX0_init_40 rfl (lv_at hl 0 rfl) ?_
  refine lv_iconst (v := 0) hx hb dX0_init_41 (by decide) ?_
  refine va_put (D := G.1) (ci := 2) (v := .int 0) (ty := .int) (C := RX0) (T := TX0) (N := 10) hx hb hts wsi_X0_init_X0 tyX0 tyX0_ok nmX0 hown hK hP hD hS 0 rfl rfl 7 (by decide) (hts (.fieldLink "Cellarscheduler$Brew" 32 "Cellarscheduler$Brew" "voidLabels" "I") (List.mem_of_getElem? (i := 11) (by decide +kernel))) (fun _ h9 => h9) rfl (by decide +kernel) rfl rfl (Nat.le_of_ble_eq_true rfl) dX0_init_42 (fun H locs hP hD hS => ?_)
  have hP : zP G [(h0, .inr (2, [.int tk, .int rp, .int li, .int st, .int 0, .int 0, .int 0, .int 0, .null, .null]))] H := hP
  have hD : va_D A [(h0, .inr (2, [.int tk, .int rp, .int li, .int st, .int 0, .int 0, .int 0, .int 0, .null, .null]))] := hD
  refine lv_aload_n hx hb dX0_init_45 rfl (lv_at hl 0 rfl) ?_
  refine va_ldcS hx hb hown hE.2.2.2.2.2.2.2.2.2.2.2.2.2.1.1 dX0_init_46 ?_
  refine va_put (D := G.1) (ci := 2) (v := .ref (G.2.2 10)) (ty := .object "java/lang/String") (C := RX0) (T := TX0) (N := 10) hx hb hts wsi_X0_init_X0 tyX0 tyX0_ok nmX0 hown hK hP hD hS 0 rfl rfl 8 (by decide) (hts (.fieldLink "Cellarscheduler$Brew" 37 "Cellarscheduler$Brew" "labelText" "Ljava/lang/String;") (List.mem_of_getElem? (i := 12) (by decide +kernel))) (fun _ h9 => h9) rfl (by decide +kernel) rfl rfl (Nat.le_of_ble_eq_true rfl) dX0_init_48 (fun H locs hP hD hS => ?_)
  have hP : zP G [(h0, .inr (2, [.int tk, .int rp, .int li, .int st, .int 0, .int 0, .int 0, .int 0, .ref (G.2.2 10), .null]))] H := hP
  have hD : va_D A [(h0, .inr (2, [.int tk, .int rp, .int li, .int st, .int 0, .int 0, .int 0, .int 0, .ref (G.2.2 10), .null]))] := hD
  refine lv_aload_n hx hb dX0_init_51 rfl (lv_at hl 0 rfl) ?_
  refine va_getsN (v := .ref (G.2.2 2)) hx hb hE.2.2.2.2.2.1.1 hS hown (hE.b 7 rfl _) (fun _ h9 => h9) dX0_init_52 ?_
  refine va_tlen (v := 4) hx hb hE.2.2.2.2.2.1.2 hS rfl dX0_init_55 ?_
  refine zNewi (N := 4) hx hb (hts (.arrayClass .int) (List.mem_of_getElem? (i := 13) (by decide +kernel))) hK hP hD hS hA (by decide) (by decide) (by decide) (Nat.le_of_ble_eq_true rfl) (Nat.le_of_ble_eq_true rfl) dX0_init_56 (fun q_1 H hP hD hS => ?_)
  have hP : zP G [(h0, .inr (2, [.int tk, .int rp, .int li, .int st, .int 0, .int 0, .int 0, .int 0, .ref (G.2.2 10), .null])), (q_1, .inl (G.2.1 0, 4, .inl (fun _ => 0)))] H := hP
  have hD : va_D A [(h0, .inr (2, [.int tk, .int rp, .int li, .int st, .int 0, .int 0, .int 0, .int 0, .ref (G.2.2 10), .null])), (q_1, .inl (G.2.1 0, 4, .inl (fun _ => 0)))] := hD
  refine va_putF (D := G.1) (ci := 2) (v := .ref q_1) (ty := .array .int) (C := RX0) (T := TX0) (N := 10) hx hb hts wsi_X0_init_X0 tyX0 tyX0_ok nmX0 hown hK hP hD hS 0 rfl rfl 9 (by decide) (hts (.fieldLink "Cellarscheduler$Brew" 47 "Cellarscheduler$Brew" "bottlesByClass" "[I") (List.mem_of_getElem? (i := 14) (by decide +kernel))) (fun _ h9 => h9) rfl hin rfl (by decide +kernel) rfl rfl (Nat.le_of_ble_eq_true rfl) dX0_init_58 (fun H locs hP hD hS => ?_)
  have hP : zP G [(h0, .inr (2, [.int tk, .int rp, .int li, .int st, .int 0, .int 0, .int 0, .int 0, .ref (G.2.2 10), .ref q_1])), (q_1, .inl (G.2.1 0, 4, .inl (fun _ => 0)))] H := hP
  have hD : va_D A [(h0, .inr (2, [.int tk, .int rp, .int li, .int st, .int 0, .int 0, .int 0, .int 0, .ref (G.2.2 10), .ref q_1])), (q_1, .inl (G.2.1 0, 4, .inl (fun _ => 0)))] := hD
  exact zWv (q_1) hx hb hr hlocks trivial hP hD hK hS (z_pick (n := 2) [0, 1] [] rfl (by decide) rfl rfl) (Nat.le_of_ble_eq_true rfl) (Nat.le_of_ble_eq_true rfl) dX0_init_61
