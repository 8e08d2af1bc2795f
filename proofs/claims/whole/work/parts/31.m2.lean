theorem wsi_X3_voids_X3 : ∀ w ∈ wsX30, w ∈ wsX3_voids := fun w h => List.mem_cons_of_mem _ (List.mem_append_right _ h)
set_option maxHeartbeats 4000000 in
set_option maxRecDepth 100000 in
/-- voids -/
theorem c_X3_voids (l : Launch) (G : zG) (sz : Nat) (h0 : Nat) (m0 : Nat) (m1 : Nat) (m2 : Nat) (m3 : Nat) (m4 : Nat) (m5 : Nat) (m6 : Nat) (m7 : Nat) (m8 : Nat) (m9 : Nat) (m10 : Nat) (m11 : Nat) (nb : Int32) (dy : Int32) (pd : Int32) (ow : Int32) (th : Int32) (lf : Nat → Int32) (gn : Nat → Int32) (jj : Nat) (hjj : jj < 20) : Met l yX3_voids wsX3_voids { frames := 0, cells := 0, slots := 0, locals := 0 } (zPc G [.ref h0, .int (nI jj)] [(h0, .inr (5, [.ref m0, .ref m1, .ref m2, .ref m3, .ref m4, .ref m5, .ref m6, .ref m7, .ref m8, .ref m9, .ref m10, .ref m11, .int nb, .int dy, .int pd, .int ow, .int th])), (m7, .inl (G.2.1 0, 20, .inl lf)), (m9, .inl (G.2.1 0, 20, .inl gn))] sz) (zQv G (fun (u : Unit) => True) (fun u => [(h0, .inr (5, [.ref m0, .ref m1, .ref m2, .ref m3, .ref m4, .ref m5, .ref m6, .ref m7, .ref m8, .ref m9, .ref m10, .ref m11, .int nb, .int dy, .int pd, .int ow, .int th])), (m7, .inl (G.2.1 0, 20, .inl (upd lf jj 0))), (m9, .inl (G.2.1 0, 20, .inl (upd gn jj ((gn jj) + (lf jj)))))]) (va_A [(h0, .inr (5, [.ref m0, .ref m1, .ref m2, .ref m3, .ref m4, .ref m5, .ref m6, .ref m7, .ref m8, .ref m9, .ref m10, .ref m11, .int nb, .int dy, .int pd, .int ow, .int th])), (m7, .inl (G.2.1 0, 20, .inl lf)), (m9, .inl (G.2.1 0, 20, .inl gn))] sz)) 0 0 (va_A [(h0, .inr (5, [.ref m0, .ref m1, .ref m2, .ref m3, .ref m4, .ref m5, .ref m6, .ref m7, .ref m8, .ref m9, .ref m10, .ref m11, .int nb, .int dy, .int pd, .int ow, .int th])), (m7, .inl (G.2.1 0, 20, .inl lf)), (m9, .inl (G.2.1 0, 20, .inl gn))] sz) := by
  refine zOfW (Qc := fun A => zQv G (fun (u : Unit) => True) (fun u => [(h0, .inr (5, [.ref m0, .ref m1, .ref m2, .ref m3, .ref m4, .ref m5, .ref m6, .ref m7, .ref m8, .ref m9, .ref m10, .ref m11, .int nb, .int dy, .int pd, .int ow, .int th])), (m7, .inl (G.2.1 0, 20, .inl (upd lf jj 0))), (m9, .inl (G.2.1 0, 20, .inl (upd gn jj ((gn jj) + (lf jj)))))]) A) (fr := fun A => A) (cc := cX3_voids) (maxL := 2) (ret := none) (by decide) rfl (Nat.le_of_ble_eq_true rfl) ?_
  intro p e s m below meth c hx hb hml hr hlocks hown hin hts A hP hK hD hE hA hS ls hl
  have hl : lv_has ls 2 [(0, .ref h0), (1, .int (nI jj))] := hl
  have hown : s.vm.findClass RX3 = some m.cls := hown
  have hP : zP G [(h0, .inr (5, [.ref m0, .ref m1, .ref m2, .ref m3, .ref m4, .ref m5, .ref m6, .ref m7, .ref m8, .ref m9, .ref m10, .ref m11, .int nb, .int dy, .int pd, .int ow, .int th])), (m7, .inl (G.2.1 0, 20, .inl lf)), (m9, .inl (G.2.1 0, 20, .inl gn))] s.heap := hP
  have hD : va_D A [(h0, .inr (5, [.ref m0, .ref m1, .ref m2, .ref m3, .ref m4, .ref m5, .ref m6, .ref m7, .ref m8, .ref m9, .ref m10, .ref m11, .int nb, .int dy, .int pd, .int ow, .int th])), (m7, .inl (G.2.1 0, 20, .inl lf)), (m9, .inl (G.2.1 0, 20, .inl gn))] := hD
  refine lv_aload_n hx hb dX3_voids_0 rfl (lv_at hl 0 rfl) ?_
  refine va_get (D := G.1) (ci := 5) (v := .ref m9) (C := RX3) (T := TX3) (N := 17) hx hb hts wsi_X3_voids_X3 hown hK hP 0 rfl rfl 9 (by decide) (hts (.fieldLink "CellarschedulerModel" 37 "CellarschedulerModel" "gone" "[I") (List.mem_of_getElem? (i := 1) (by decide +kernel))) (fun _ h9 => h9) rfl dX3_voids_1 ?_
  refine lv_iload_n hx hb dX3_voids_4 rfl (lv_at hl 1 rfl) ?_
  refine lv_dup2_11 hx hb dX3_voids_5 rfl rfl ?_
  refine zIald hx hb hK hP 2 rfl jj rfl (by omega) (by decide) dX3_voids_6 ?_
  refine lv_aload_n hx hb dX3_voids_7 rfl (lv_at hl 0 rfl) ?_
  refine va_get (D := G.1) (ci := 5) (v := .ref m7) (C := RX3) (T := TX3) (N := 17) hx hb hts wsi_X3_voids_X3 hown hK hP 0 rfl rfl 7 (by decide) (hts (.fieldLink "CellarschedulerModel" 31 "CellarschedulerModel" "left" "[I") (List.mem_of_getElem? (i := 2) (by decide +kernel))) (fun _ h9 => h9) rfl dX3_voids_8 ?_
  refine lv_iload_n hx hb dX3_voids_11 rfl (lv_at hl 1 rfl) ?_
  refine zIald hx hb hK hP 1 rfl jj rfl (by omega) (by decide) dX3_voids_12 ?_
  refine lv_iadd hx hb dX3_voids_13 ?_
  refine zIast hx hb hK hP hD hS 2 rfl jj rfl (by omega) (by decide) dX3_voids_14 (fun H locs hP hD hS => ?_)
  have hP : zP G [(h0, .inr (5, [.ref m0, .ref m1, .ref m2, .ref m3, .ref m4, .ref m5, .ref m6, .ref m7, .ref m8, .ref m9, .ref m10, .ref m11, .int nb, .int dy, .int pd, .int ow, .int th])), (m7, .inl (G.2.1 0, 20, .inl lf)), (m9, .inl (G.2.1 0, 20, .inl (upd gn jj ((gn jj) + (lf jj)))))] H := hP
  have hD : va_D A [(h0, .inr (5, [.ref m0, .ref m1, .ref m2, .ref m3, .ref m4, .ref m5, .ref m6, .ref m7, .ref m8, .ref m9, .ref m10, .ref m11, .int nb, .int dy, .int pd, .int ow, .int th])), (m7, .inl (G.2.1 0, 20, .inl lf)), (m9, .inl (G.2.1 0, 20, .inl (upd gn jj ((gn jj) + (lf jj)))))] := hD
  refine lv_aload_n hx hb dX3_voids_15 rfl (lv_at hl 0 rfl) ?_
  refine va_get (D := G.1) (ci := 5) (v := .ref m7) (C := RX3) (T := TX3) (N := 17) hx hb hts wsi_X3_voids_X3 hown hK hP 0 rfl rfl 7 (by decide) (hts (.fieldLink "CellarschedulerModel" 31 "CellarschedulerModel" "left" "[I") (List.mem_of_getElem? (i := 2) (by decide +kernel))) (fun _ h9 => h9) rfl dX3_voids_16 ?_
  refine lv_iload_n hx hb dX3_voids_19 rfl (lv_at hl 1 rfl) ?_
  refine lv_iconst (v := 0) hx hb dX3_voids_20 (by decide) ?_
  refine zIast hx hb hK hP hD hS 1 rfl jj rfl (by omega) (by decide) dX3_voids_21 (fun H locs hP hD hS => ?_)
  have hP : zP G [(h0, .inr (5, [.ref m0, .ref m1, .ref m2, .ref m3, .ref m4, .ref m5, .ref m6, .ref m7, .ref m8, .ref m9, .ref m10, .ref m11, .int nb, .int dy, .int pd, .int ow, .int th])), (m7, .inl (G.2.1 0, 20, .inl (upd lf jj 0))), (m9, .inl (G.2.1 0, 20, .inl (upd gn jj ((gn jj) + (lf jj)))))] H := hP
  have hD : va_D A [(h0, .inr (5, [.ref m0, .ref m1, .ref m2, .ref m3, .ref m4, .ref m5, .ref m6, .ref m7, .ref m8, .ref m9, .ref m10, .ref m11, .int nb, .int dy, .int pd, .int ow, .int th])), (m7, .inl (G.2.1 0, 20, .inl (upd lf jj 0))), (m9, .inl (G.2.1 0, 20, .inl (upd gn jj ((gn jj) + (lf jj)))))] := hD
  exact zWv () hx hb hr hlocks trivial hP hD hK hS (z_pick (n := 3) [0, 1, 2] [] rfl (by decide) rfl rfl) (Nat.le_of_ble_eq_true rfl) (Nat.le_of_ble_eq_true rfl) dX3_voids_22

theorem wsi_X3_isRipe_X3 : ∀ w ∈ wsX30, w ∈ wsX3_isRipe := fun w h => List.mem_cons_of_mem _ (List.mem_append_right _ h)
def f_X3_isRipe (dy : Int32) (bl : Nat → Int32) (bd : Nat → Int32) (yy : Nat → Int32) (jj : Nat) : Int32 := if (bl jj) ≤ 0 then 0 else (if (dy - (bd jj)) < (f_X3_days (yy jj)) then 0 else 1)
set_option maxHeartbeats 4000000 in
set_option maxRecDepth 100000 in
/-- isRipe -/
theorem c_X3_isRipe (l : Launch) (G : zG) (sz : Nat) (h0 : Nat) (m0 : Nat) (m1 : Nat) (m2 : Nat) (m3 : Nat) (m4 : Nat) (m5 : Nat) (m6 : Nat) (m7 : Nat) (m8 : Nat) (m9 : Nat) (m10 : Nat) (m11 : Nat) (nb : Int32) (dy : Int32) (pd : Int32) (ow : Int32) (th : Int32) (bl : Nat → Int32) (bd : Nat → Int32) (yy : Nat → Int32) (jj : Nat) (hjj : jj < 20) : Met l yX3_isRipe wsX3_isRipe { frames := 1, cells := 0, slots := 0, locals := 21 } (zPc G [.ref h0, .int (nI jj)] [(h0, .inr (5, [.ref m0, .ref m1, .ref m2, .ref m3, .ref m4, .ref m5, .ref m6, .ref m7, .ref m8, .ref m9, .ref m10, .ref m11, .int nb, .int dy, .int pd, .int ow, .int th])), (m2, .inl (G.2.1 0, 20, .inl bl)), (m3, .inl (G.2.1 0, 20, .inl bd)), (m4, .inl (G.2.1 0, 20, .inl yy))] sz) (vp_Si (fun z => z = f_X3_isRipe dy bl bd yy jj)) 0 0 (fun _ => False) := by
  refine zOfW (Qc := fun _ => vp_Si (fun z => z = f_X3_isRipe dy bl bd yy jj)) (fr := fun _ _ => False) (cc := cX3_isRipe) (maxL := 2) (ret := (some .boolean)) (by decide) rfl (Nat.le_of_ble_eq_true rfl) ?_
  intro p e s m below meth c hx hb hml hr hlocks hown hin hts A hP hK hD hE hA hS ls hl
  have hl : lv_has ls 2 [(0, .ref h0), (1, .int (nI jj))] := hl
  have hown : s.vm.findClass RX3 = some m.cls := hown
  have hP : zP G [(h0, .inr (5, [.ref m0, .ref m1, .ref m2, .ref m3, .ref m4, .ref m5, .ref m6, .ref m7, .ref m8, .ref m9, .ref m10, .ref m11, .int nb, .int dy, .int pd, .int ow, .int th])), (m2, .inl (G.2.1 0, 20, .inl bl)), (m3, .inl (G.2.1 0, 20, .inl bd)), (m4, .inl (G.2.1 0, 20, .inl yy))] s.heap := hP
  have hD : va_D A [(h0, .inr (5, [.ref m0, .ref m1, .ref m2, .ref m3, .ref m4, .ref m5, .ref m6, .ref m7, .ref m8, .ref m9, .ref m10, .ref m11, .int nb, .int dy, .int pd, .int ow, .int th])), (m2, .inl (G.2.1 0, 20, .inl bl)), (m3, .inl (G.2.1 0, 20, .inl bd)), (m4, .inl (G.2.1 0, 20, .inl yy))] := hD
  refine lv_aload_n hx hb dX3_isRipe_0 rfl (lv_at hl 0 rfl) ?_
  refine va_get (D := G.1) (ci := 5) (v := .ref m2) (C := RX3) (T := TX3) (N := 17) hx hb hts wsi_X3_isRipe_X3 hown hK hP 0 rfl rfl 2 (by decide) (hts (.fieldLink "CellarschedulerModel" 16 "CellarschedulerModel" "bl" "[I") (List.mem_of_getElem? (i := 1) (by decide +kernel))) (fun _ h9 => h9) rfl dX3_isRipe_1 ?_
  refine lv_iload_n hx hb dX3_isRipe_4 rfl (lv_at hl 1 rfl) ?_
  refine zIald hx hb hK hP 1 rfl jj rfl (by omega) (by decide) dX3_isRipe_5 ?_
  refine lv_if_le (tgt := 37) hx hb dX3_isRipe_6 (by decide) (fun c_1 => ?_) (fun c_1 => ?_)
  · refine lv_iconst (v := 0) hx hb dX3_isRipe_37 (by decide) ?_
    exact zRi hx hb hr hlocks rfl (by rw [f_X3_isRipe, if_pos c_1]) rfl rfl (Nat.le_of_ble_eq_true rfl) (Nat.le_of_ble_eq_true rfl) dX3_isRipe_38
  · refine lv_aload_n hx hb dX3_isRipe_9 rfl (lv_at hl 0 rfl) ?_
    refine va_get (D := G.1) (ci := 5) (v := .int dy) (C := RX3) (T := TX3) (N := 17) hx hb hts wsi_X3_isRipe_X3 hown hK hP 0 rfl rfl 13 (by decide) (hts (.fieldLink "CellarschedulerModel" 61 "CellarschedulerModel" "day" "I") (List.mem_of_getElem? (i := 2) (by decide +kernel))) (fun _ h9 => h9) rfl dX3_isRipe_10 ?_
    refine lv_aload_n hx hb dX3_isRipe_13 rfl (lv_at hl 0 rfl) ?_
    refine va_get (D := G.1) (ci := 5) (v := .ref m3) (C := RX3) (T := TX3) (N := 17) hx hb hts wsi_X3_isRipe_X3 hown hK hP 0 rfl rfl 3 (by decide) (hts (.fieldLink "CellarschedulerModel" 19 "CellarschedulerModel" "bd" "[I") (List.mem_of_getElem? (i := 3) (by decide +kernel))) (fun _ h9 => h9) rfl dX3_isRipe_14 ?_
    refine lv_iload_n hx hb dX3_isRipe_17 rfl (lv_at hl 1 rfl) ?_
    refine zIald hx hb hK hP 2 rfl jj rfl (by omega) (by decide) dX3_isRipe_18 ?_
    refine lv_isub hx hb dX3_isRipe_19 ?_
    refine lv_aload_n hx hb dX3_isRipe_20 rfl (lv_at hl 0 rfl) ?_
    refine lv_aload_n hx hb dX3_isRipe_21 rfl (lv_at hl 0 rfl) ?_
    refine va_get (D := G.1) (ci := 5) (v := .ref m4) (C := RX3) (T := TX3) (N := 17) hx hb hts wsi_X3_isRipe_X3 hown hK hP 0 rfl rfl 4 (by decide) (hts (.fieldLink "CellarschedulerModel" 22 "CellarschedulerModel" "by" "[I") (List.mem_of_getElem? (i := 4) (by decide +kernel))) (fun _ h9 => h9) rfl dX3_isRipe_22 ?_
    refine lv_iload_n hx hb dX3_isRipe_25 rfl (lv_at hl 1 rfl) ?_
    refine zIald hx hb hK hP 3 rfl jj rfl (by omega) (by decide) dX3_isRipe_26 ?_
    refine zCi (r := f_X3_days (yy jj)) (va_runV (As := [.int (yy jj)]) (rest := [.int (dy - (bd jj))]) ⟨hx, hb, hml, hown, hts⟩ (c_X3_days l G s.heap.size h0 m0 m1 m2 m3 m4 m5 m6 m7 m8 m9 m10 m11 nb dy pd ow th (yy jj)) (cwV 1 hts gX3_isRipe_X3_days rfl rfl rfl (by decide +kernel) ⟨(Nat.le_of_ble_eq_true rfl), (Nat.le_of_ble_eq_true rfl)⟩) (zPreV hE hS hA hP hD hK (z_pick (n := 4) [0] [1, 2, 3] rfl (by decide) rfl rfl) (va_recv hK hP (ci := 5) (q0 := 0) rfl rfl)) rfl rfl hl.1 rfl (lv_room (Nat.le_of_ble_eq_true rfl)) dX3_isRipe_27 ⟨(Nat.le_of_ble_eq_true rfl), (Nat.le_of_ble_eq_true rfl)⟩).run ?_
    refine lv_icmp_lt (tgt := 37) hx hb dX3_isRipe_30 (by decide) (fun c_2 => ?_) (fun c_2 => ?_)
    · refine lv_iconst (v := 0) hx hb dX3_isRipe_37 (by decide) ?_
      exact zRi hx hb hr hlocks rfl (by rw [f_X3_isRipe, if_neg c_1, if_pos c_2]) rfl rfl (Nat.le_of_ble_eq_true rfl) (Nat.le_of_ble_eq_true rfl) dX3_isRipe_38
    · refine lv_iconst (v := 1) hx hb dX3_isRipe_33 (by decide) ?_
      refine lv_goto (tgt := 38) hx hb dX3_isRipe_34 (by decide) ?_
      exact zRi hx hb hr hlocks rfl (by rw [f_X3_isRipe, if_neg c_1, if_neg c_2]) rfl rfl (Nat.le_of_ble_eq_true rfl) (Nat.le_of_ble_eq_true rfl) dX3_isRipe_38

theorem wsi_X3_empties_X3 : ∀ w ∈ wsX30, w ∈ wsX3_empties := fun w h => List.mem_cons_of_mem _ (List.mem_append_right _ h)
def f_X3_empties_tk (tk : Nat → Int32) (bl : Nat → Int32) (jj : Nat) (vv : Nat) : Nat → Int32 := if (bl jj) = 0 then (upd tk vv (-1)) else tk
set_option maxHeartbeats 4000000 in
set_option maxRecDepth 100000 in
/-- empties -/
theorem c_X3_empties (l : Launch) (G : zG) (sz : Nat) (h0 : Nat) (m0 : Nat) (m1 : Nat) (m2 : Nat) (m3 : Nat) (m4 : Nat) (m5 : Nat) (m6 : Nat) (m7 : Nat) (m8 : Nat) (m9 : Nat) (m10 : Nat) (m11 : Nat) (nb : Int32) (dy : Int32) (pd : Int32) (ow : Int32) (th : Int32) (tk : Nat → Int32) (bt : Nat → Int32) (bl : Nat → Int32) (jj : Nat) (hjj : jj < 20) (vv : Nat) (hvv : vv < 8) (hbv : bt jj = nI vv) : Met l yX3_empties wsX3_empties { frames := 0, cells := 0, slots := 0, locals := 0 } (zPc G [.ref h0, .int (nI jj)] [(h0, .inr (5, [.ref m0, .ref m1, .ref m2, .ref m3, .ref m4, .ref m5, .ref m6, .ref m7, .ref m8, .ref m9, .ref m10, .ref m11, .int nb, .int dy, .int pd, .int ow, .int th])), (m0, .inl (G.2.1 0, 8, .inl tk)), (m1, .inl (G.2.1 0, 20, .inl bt)), (m2, .inl (G.2.1 0, 20, .inl bl))] sz) (zQv G (fun (u : (Nat → Int32)) => u = f_X3_empties_tk tk bl jj vv) (fun u => [(h0, .inr (5, [.ref m0, .ref m1, .ref m2, .ref m3, .ref m4, .ref m5, .ref m6, .ref m7, .ref m8, .ref m9, .ref m10, .ref m11, .int nb, .int dy, .int pd, .int ow, .int th])), (m0, .inl (G.2.1 0, 8, .inl u)), (m1, .inl (G.2.1 0, 20, .inl bt)), (m2, .inl (G.2.1 0, 20, .inl bl))]) (va_A [(h0, .inr (5, [.ref m0, .ref m1, .ref m2, .ref m3, .ref m4, .ref m5, .ref m6, .ref m7, .ref m8, .ref m9, .ref m10, .ref m11, .int nb, .int dy, .int pd, .int ow, .int th])), (m0, .inl (G.2.1 0, 8, .inl tk)), (m1, .inl (G.2.1 0, 20, .inl bt)), (m2, .inl (G.2.1 0, 20, .inl bl))] sz)) 0 0 (va_A [(h0, .inr (5, [.ref m0, .ref m1, .ref m2, .ref m3, .ref m4, .ref m5, .ref m6, .ref m7, .ref m8, .ref m9, .ref m10, .ref m11, .int nb, .int dy, .int pd, .int ow, .int th])), (m0, .inl (G.2.1 0, 8, .inl tk)), (m1, .inl (G.2.1 0, 20, .inl bt)), (m2, .inl (G.2.1 0, 20, .inl bl))] sz) := by
  refine zOfW (Qc := fun A => zQv G (fun (u : (Nat → Int32)) => u = f_X3_empties_tk tk bl jj vv) (fun u => [(h0, .inr (5, [.ref m0, .ref m1, .ref m2, .ref m3, .ref m4, .ref m5, .ref m6, .ref m7, .ref m8, .ref m9, .ref m10, .ref m11, .int nb, .int dy, .int pd, .int ow, .int th])), (m0, .inl (G.2.1 0, 8, .inl u)), (m1, .inl (G.2.1 0, 20, .inl bt)), (m2, .inl (G.2.1 0, 20, .inl bl))]) A) (fr := fun A => A) (cc := cX3_empties) (maxL := 2) (ret := none) (by decide) rfl (Nat.le_of_ble_eq_true rfl) ?_
  intro p e s m below meth c hx hb hml hr hlocks hown hin hts A hP hK hD hE hA hS ls hl
  have hl : lv_has ls 2 [(0, .ref h0), (1, .int (nI jj))] := hl
  have hown : s.vm.findClass RX3 = some m.cls := hown
  have hP : zP G [(h0, .inr (5, [.ref m0, .ref m1, .ref m2, .ref m3, .ref m4, .ref m5, .ref m6, .ref m7, .ref m8, .ref m9, .ref m10, .ref m11, .int nb, .int dy, .int pd, .int ow, .int th])), (m0, .inl (G.2.1 0, 8, .inl tk)), (m1, .inl (G.2.1 0, 20, .inl bt)), (m2, .inl (G.2.1 0, 20, .inl bl))] s.heap := hP
  have hD : va_D A [(h0, .inr (5, [.ref m0, .ref m1, .ref m2, .ref m3, .ref m4, .ref m5, .ref m6, .ref m7, .ref m8, .ref m9, .ref m10, .ref m11, .int nb, .int dy, .int pd, .int ow, .int th])), (m0, .inl (G.2.1 0, 8, .inl tk)), (m1, .inl (G.2.1 0, 20, .inl bt)), (m2, .inl (G.2.1 0, 20, .inl bl))] := hD
  refine lv_aload_n hx hb dX3_empties_0 rfl (lv_at hl 0 rfl) ?_
  refine va_get (D := G.1) (ci := 5) (v := .ref m2) (C := RX3) (T := TX3) (N := 17) hx hb hts wsi_X3_empties_X3 hown hK hP 0 rfl rfl 2 (by decide) (hts (.fieldLink "CellarschedulerModel" 16 "CellarschedulerModel" "bl" "[I") (List.mem_of_getElem? (i := 1) (by decide +kernel))) (fun _ h9 => h9) rfl dX3_empties_1 ?_
  refine lv_iload_n hx hb dX3_empties_4 rfl (lv_at hl 1 rfl) ?_
  refine zIald hx hb hK hP 3 rfl jj rfl (by omega) (by decide) dX3_empties_5 ?_
  refine lv_if_ne (tgt := 21) hx hb dX3_empties_6 (by decide) (fun c_1 => ?_) (fun c_1 => ?_)
  · exact zWv (tk) hx hb hr hlocks (by rw [f_X3_empties_tk, if_neg c_1]) hP hD hK hS (z_pick (n := 4) [0, 1, 2, 3] [] rfl (by decide) rfl rfl) (Nat.le_of_ble_eq_true rfl) (Nat.le_of_ble_eq_true rfl) dX3_empties_21
  · refine lv_aload_n hx hb dX3_empties_9 rfl (lv_at hl 0 rfl) ?_
    refine va_get (D := G.1) (ci := 5) (v := .ref m0) (C := RX3) (T := TX3) (N := 17) hx hb hts wsi_X3_empties_X3 hown hK hP 0 rfl rfl 0 (by decide) (hts (.fieldLink "CellarschedulerModel" 7 "CellarschedulerModel" "tank" "[I") (List.mem_of_getElem? (i := 2) (by decide +kernel))) (fun _ h9 => h9) rfl dX3_empties_10 ?_
    refine lv_aload_n hx hb dX3_empties_13 rfl (lv_at hl 0 rfl) ?_
    refine va_get (D := G.1) (ci := 5) (v := .ref m1) (C := RX3) (T := TX3) (N := 17) hx hb hts wsi_X3_empties_X3 hown hK hP 0 rfl rfl 1 (by decide) (hts (.fieldLink "CellarschedulerModel" 13 "CellarschedulerModel" "bt" "[I") (List.mem_of_getElem? (i := 3) (by decide +kernel))) (fun _ h9 => h9) rfl dX3_empties_14 ?_
    refine lv_iload_n hx hb dX3_empties_17 rfl (lv_at hl 1 rfl) ?_
    refine zIald hx hb hK hP 2 rfl jj rfl (by omega) (by decide) dX3_empties_18 ?_
    refine zTop (v := nI vv) hbv ?_
    refine lv_iconst (v := (-1)) hx hb dX3_empties_19 (by decide) ?_
    refine zIast hx hb hK hP hD hS 1 rfl vv rfl (by omega) (by decide) dX3_empties_20 (fun H locs hP hD hS => ?_)
    have hP : zP G [(h0, .inr (5, [.ref m0, .ref m1, .ref m2, .ref m3, .ref m4, .ref m5, .ref m6, .ref m7, .ref m8, .ref m9, .ref m10, .ref m11, .int nb, .int dy, .int pd, .int ow, .int th])), (m0, .inl (G.2.1 0, 8, .inl (upd tk vv (-1)))), (m1, .inl (G.2.1 0, 20, .inl bt)), (m2, .inl (G.2.1 0, 20, .inl bl))] H := hP
    have hD : va_D A [(h0, .inr (5, [.ref m0, .ref m1, .ref m2, .ref m3, .ref m4, .ref m5, .ref m6, .ref m7, .ref m8, .ref m9, .ref m10, .ref m11, .int nb, .int dy, .int pd, .int ow, .int th])), (m0, .inl (G.2.1 0, 8, .inl (upd tk vv (-1)))), (m1, .inl (G.2.1 0, 20, .inl bt)), (m2, .inl (G.2.1 0, 20, .inl bl))] := hD
    exact zWv (upd tk vv (-1)) hx hb hr hlocks (by rw [f_X3_empties_tk, if_pos c_1]) hP hD hK hS (z_pick (n := 4) [0, 1, 2, 3] [] rfl (by decide) rfl rfl) (Nat.le_of_ble_eq_true rfl) (Nat.le_of_ble_eq_true rfl) dX3_empties_21

theorem wsi_X3_measures_X3 : ∀ w ∈ wsX30, w ∈ wsX3_measures := fun w h => List.mem_cons_of_mem _ (List.mem_append_right _ h)
def f_X3_measures (ow : Int32) (lf : Nat → Int32) (lc : Nat → Int32) (gn : Nat → Int32) (bo : Nat → Int32) (jj : Nat) (sg : Int32) : Int32 := if (f_X3_classOf sg) = 0 then (if 0 ≤ (lc jj) then 0 else 0) else (if (f_X3_classOf sg) = 1 then (if 1 ≤ (lc jj) then (0 + ((bo (4 * jj + 0)) * 2)) else (0 + ((bo (4 * jj + 0)) * 2))) else (if (f_X3_classOf sg) = 2 then (if 2 ≤ (lc jj) then ((0 + ((bo (4 * jj + 0)) * 5)) + (((upd (upd bo (4 * jj + 2) ((bo (4 * jj + 2)) + (bo (4 * jj + 0)))) (4 * jj + 0) 0) (4 * jj + 1)) * 3)) else ((0 + ((bo (4 * jj + 0)) * 5)) + (((upd (upd bo (4 * jj + 2) ((bo (4 * jj + 2)) + (bo (4 * jj + 0)))) (4 * jj + 0) 0) (4 * jj + 1)) * 3))) else (if 3 ≤ (lc jj) then (((0 + ((bo (4 * jj + 0)) * 11)) + (((upd (upd bo (4 * jj + 3) ((bo (4 * jj + 3)) + (bo (4 * jj + 0)))) (4 * jj + 0) 0) (4 * jj + 1)) * 9)) + (((upd (upd (upd (upd bo (4 * jj + 3) ((bo (4 * jj + 3)) + (bo (4 * jj + 0)))) (4 * jj + 0) 0) (4 * jj + 3) (((upd (upd bo (4 * jj + 3) ((bo (4 * jj + 3)) + (bo (4 * jj + 0)))) (4 * jj + 0) 0) (4 * jj + 3)) + ((upd (upd bo (4 * jj + 3) ((bo (4 * jj + 3)) + (bo (4 * jj + 0)))) (4 * jj + 0) 0) (4 * jj + 1)))) (4 * jj + 1) 0) (4 * jj + 2)) * 6)) else (((0 + ((bo (4 * jj + 0)) * 11)) + (((upd (upd bo (4 * jj + 3) ((bo (4 * jj + 3)) + (bo (4 * jj + 0)))) (4 * jj + 0) 0) (4 * jj + 1)) * 9)) + (((upd (upd (upd (upd bo (4 * jj + 3) ((bo (4 * jj + 3)) + (bo (4 * jj + 0)))) (4 * jj + 0) 0) (4 * jj + 3) (((upd (upd bo (4 * jj + 3) ((bo (4 * jj + 3)) + (bo (4 * jj + 0)))) (4 * jj + 0) 0) (4 * jj + 3)) + ((upd (upd bo (4 * jj + 3) ((bo (4 * jj + 3)) + (bo (4 * jj + 0)))) (4 * jj + 0) 0) (4 * jj + 1)))) (4 * jj + 1) 0) (4 * jj + 2)) * 6)))))
def f_X3_measures_lf (ow : Int32) (lf : Nat → Int32) (lc : Nat → Int32) (gn : Nat → Int32) (bo : Nat → Int32) (jj : Nat) (sg : Int32) : Nat → Int32 := if (f_X3_classOf sg) = 0 then (if 0 ≤ (lc jj) then lf else (upd lf jj 0)) else (if (f_X3_classOf sg) = 1 then (if 1 ≤ (lc jj) then lf else (upd lf jj 0)) else (if (f_X3_classOf sg) = 2 then (if 2 ≤ (lc jj) then lf else (upd lf jj 0)) else (if 3 ≤ (lc jj) then lf else (upd lf jj 0))))
def f_X3_measures_gn (ow : Int32) (lf : Nat → Int32) (lc : Nat → Int32) (gn : Nat → Int32) (bo : Nat → Int32) (jj : Nat) (sg : Int32) : Nat → Int32 := if (f_X3_classOf sg) = 0 then (if 0 ≤ (lc jj) then gn else (upd gn jj ((gn jj) + (lf jj)))) else (if (f_X3_classOf sg) = 1 then (if 1 ≤ (lc jj) then gn else (upd gn jj ((gn jj) + (lf jj)))) else (if (f_X3_classOf sg) = 2 then (if 2 ≤ (lc jj) then gn else (upd gn jj ((gn jj) + (lf jj)))) else (if 3 ≤ (lc jj) then gn else (upd gn jj ((gn jj) + (lf jj))))))
def f_X3_measures_bo (ow : Int32) (lf : Nat → Int32) (lc : Nat → Int32) (gn : Nat → Int32) (bo : Nat → Int32) (jj : Nat) (sg : Int32) : Nat → Int32 := if (f_X3_classOf sg) = 0 then (if 0 ≤ (lc jj) then bo else bo) else (if (f_X3_classOf sg) = 1 then (if 1 ≤ (lc jj) then (upd (upd bo (4 * jj + 1) ((bo (4 * jj + 1)) + (bo (4 * jj + 0)))) (4 * jj + 0) 0) else (upd (upd bo (4 * jj + 1) ((bo (4 * jj + 1)) + (bo (4 * jj + 0)))) (4 * jj + 0) 0)) else (if (f_X3_classOf sg) = 2 then (if 2 ≤ (lc jj) then (upd (upd (upd (upd bo (4 * jj + 2) ((bo (4 * jj + 2)) + (bo (4 * jj + 0)))) (4 * jj + 0) 0) (4 * jj + 2) (((upd (upd bo (4 * jj + 2) ((bo (4 * jj + 2)) + (bo (4 * jj + 0)))) (4 * jj + 0) 0) (4 * jj + 2)) + ((upd (upd bo (4 * jj + 2) ((bo (4 * jj + 2)) + (bo (4 * jj + 0)))) (4 * jj + 0) 0) (4 * jj + 1)))) (4 * jj + 1) 0) else (upd (upd (upd (upd bo (4 * jj + 2) ((bo (4 * jj + 2)) + (bo (4 * jj + 0)))) (4 * jj + 0) 0) (4 * jj + 2) (((upd (upd bo (4 * jj + 2) ((bo (4 * jj + 2)) + (bo (4 * jj + 0)))) (4 * jj + 0) 0) (4 * jj + 2)) + ((upd (upd bo (4 * jj + 2) ((bo (4 * jj + 2)) + (bo (4 * jj + 0)))) (4 * jj + 0) 0) (4 * jj + 1)))) (4 * jj + 1) 0)) else (if 3 ≤ (lc jj) then (upd (upd (upd (upd (upd (upd bo (4 * jj + 3) ((bo (4 * jj + 3)) + (bo (4 * jj + 0)))) (4 * jj + 0) 0) (4 * jj + 3) (((upd (upd bo (4 * jj + 3) ((bo (4 * jj + 3)) + (bo (4 * jj + 0)))) (4 * jj + 0) 0) (4 * jj + 3)) + ((upd (upd bo (4 * jj + 3) ((bo (4 * jj + 3)) + (bo (4 * jj + 0)))) (4 * jj + 0) 0) (4 * jj + 1)))) (4 * jj + 1) 0) (4 * jj + 3) (((upd (upd (upd (upd bo (4 * jj + 3) ((bo (4 * jj + 3)) + (bo (4 * jj + 0)))) (4 * jj + 0) 0) (4 * jj + 3) (((upd (upd bo (4 * jj + 3) ((bo (4 * jj + 3)) + (bo (4 * jj + 0)))) (4 * jj + 0) 0) (4 * jj + 3)) + ((upd (upd bo (4 * jj + 3) ((bo (4 * jj + 3)) + (bo (4 * jj + 0)))) (4 * jj + 0) 0) (4 * jj + 1)))) (4 * jj + 1) 0) (4 * jj + 3)) + ((upd (upd (upd (upd bo (4 * jj + 3) ((bo (4 * jj + 3)) + (bo (4 * jj + 0)))) (4 * jj + 0) 0) (4 * jj + 3) (((upd (upd bo (4 * jj + 3) ((bo (4 * jj + 3)) + (bo (4 * jj + 0)))) (4 * jj + 0) 0) (4 * jj + 3)) + ((upd (upd bo (4 * jj + 3) ((bo (4 * jj + 3)) + (bo (4 * jj + 0)))) (4 * jj + 0) 0) (4 * jj + 1)))) (4 * jj + 1) 0) (4 * jj + 2)))) (4 * jj + 2) 0) else (upd (upd (upd (upd (upd (upd bo (4 * jj + 3) ((bo (4 * jj + 3)) + (bo (4 * jj + 0)))) (4 * jj + 0) 0) (4 * jj + 3) (((upd (upd bo (4 * jj + 3) ((bo (4 * jj + 3)) + (bo (4 * jj + 0)))) (4 * jj + 0) 0) (4 * jj + 3)) + ((upd (upd bo (4 * jj + 3) ((bo (4 * jj + 3)) + (bo (4 * jj + 0)))) (4 * jj + 0) 0) (4 * jj + 1)))) (4 * jj + 1) 0) (4 * jj + 3) (((upd (upd (upd (upd bo (4 * jj + 3) ((bo (4 * jj + 3)) + (bo (4 * jj + 0)))) (4 * jj + 0) 0) (4 * jj + 3) (((upd (upd bo (4 * jj + 3) ((bo (4 * jj + 3)) + (bo (4 * jj + 0)))) (4 * jj + 0) 0) (4 * jj + 3)) + ((upd (upd bo (4 * jj + 3) ((bo (4 * jj + 3)) + (bo (4 * jj + 0)))) (4 * jj + 0) 0) (4 * jj + 1)))) (4 * jj + 1) 0) (4 * jj + 3)) + ((upd (upd (upd (upd bo (4 * jj + 3) ((bo (4 * jj + 3)) + (bo (4 * jj + 0)))) (4 * jj + 0) 0) (4 * jj + 3) (((upd (upd bo (4 * jj + 3) ((bo (4 * jj + 3)) + (bo (4 * jj + 0)))) (4 * jj + 0) 0) (4 * jj + 3)) + ((upd (upd bo (4 * jj + 3) ((bo (4 * jj + 3)) + (bo (4 * jj + 0)))) (4 * jj + 0) 0) (4 * jj + 1)))) (4 * jj + 1) 0) (4 * jj + 2)))) (4 * jj + 2) 0))))
def f_X3_measures_ow (ow : Int32) (lf : Nat → Int32) (lc : Nat → Int32) (gn : Nat → Int32) (bo : Nat → Int32) (jj : Nat) (sg : Int32) : Int32 := if (f_X3_classOf sg) = 0 then (if 0 ≤ (lc jj) then (ow + 0) else (ow + 0)) else (if (f_X3_classOf sg) = 1 then (if 1 ≤ (lc jj) then (ow + (0 + ((bo (4 * jj + 0)) * 2))) else (ow + (0 + ((bo (4 * jj + 0)) * 2)))) else (if (f_X3_classOf sg) = 2 then (if 2 ≤ (lc jj) then (ow + ((0 + ((bo (4 * jj + 0)) * 5)) + (((upd (upd bo (4 * jj + 2) ((bo (4 * jj + 2)) + (bo (4 * jj + 0)))) (4 * jj + 0) 0) (4 * jj + 1)) * 3))) else (ow + ((0 + ((bo (4 * jj + 0)) * 5)) + (((upd (upd bo (4 * jj + 2) ((bo (4 * jj + 2)) + (bo (4 * jj + 0)))) (4 * jj + 0) 0) (4 * jj + 1)) * 3)))) else (if 3 ≤ (lc jj) then (ow + (((0 + ((bo (4 * jj + 0)) * 11)) + (((upd (upd bo (4 * jj + 3) ((bo (4 * jj + 3)) + (bo (4 * jj + 0)))) (4 * jj + 0) 0) (4 * jj + 1)) * 9)) + (((upd (upd (upd (upd bo (4 * jj + 3) ((bo (4 * jj + 3)) + (bo (4 * jj + 0)))) (4 * jj + 0) 0) (4 * jj + 3) (((upd (upd bo (4 * jj + 3) ((bo (4 * jj + 3)) + (bo (4 * jj + 0)))) (4 * jj + 0) 0) (4 * jj + 3)) + ((upd (upd bo (4 * jj + 3) ((bo (4 * jj + 3)) + (bo (4 * jj + 0)))) (4 * jj + 0) 0) (4 * jj + 1)))) (4 * jj + 1) 0) (4 * jj + 2)) * 6))) else (ow + (((0 + ((bo (4 * jj + 0)) * 11)) + (((upd (upd bo (4 * jj + 3) ((bo (4 * jj + 3)) + (bo (4 * jj + 0)))) (4 * jj + 0) 0) (4 * jj + 1)) * 9)) + (((upd (upd (upd (upd bo (4 * jj + 3) ((bo (4 * jj + 3)) + (bo (4 * jj + 0)))) (4 * jj + 0) 0) (4 * jj + 3) (((upd (upd bo (4 * jj + 3) ((bo (4 * jj + 3)) + (bo (4 * jj + 0)))) (4 * jj + 0) 0) (4 * jj + 3)) + ((upd (upd bo (4 * jj + 3) ((bo (4 * jj + 3)) + (bo (4 * jj + 0)))) (4 * jj + 0) 0) (4 * jj + 1)))) (4 * jj + 1) 0) (4 * jj + 2)) * 6))))))
set_option maxHeartbeats 4000000 in
set_option maxRecDepth 100000 in
/-- measures: at most three turns -/
theorem c_X3_measures (l : Launch) (G : zG) (sz : Nat) (h0 : Nat) (m0 : Nat) (m1 : Nat) (m2 : Nat) (m3 : Nat) (m4 : Nat) (m5 : Nat) (m6 : Nat) (m7 : Nat) (m8 : Nat) (m9 : Nat) (m10 : Nat) (m11 : Nat) (nb : Int32) (dy : Int32) (pd : Int32) (ow : Int32) (th : Int32) (bs : Nat → Int32) (bm : Nat → Int32) (lf : Nat → Int32) (lc : Nat → Int32) (gn : Nat → Int32) (bo : Nat → Int32) (jj : Nat) (hjj : jj < 20) (sg : Int32) : Met l yX3_measures wsX3_measures { frames := 1, cells := 0, slots := 0, locals := 21 } (zPc G [.ref h0, .int (nI jj), .int sg] [(h0, .inr (5, [.ref m0, .ref m1, .ref m2, .ref m3, .ref m4, .ref m5, .ref m6, .ref m7, .ref m8, .ref m9, .ref m10, .ref m11, .int nb, .int dy, .int pd, .int ow, .int th])), (m5, .inl (G.2.1 0, 20, .inl bs)), (m6, .inl (G.2.1 0, 20, .inl bm)), (m7, .inl (G.2.1 0, 20, .inl lf)), (m8, .inl (G.2.1 0, 20, .inl lc)), (m9, .inl (G.2.1 0, 20, .inl gn)), (m11, .inl (G.2.1 0, 80, .inl bo))] sz) (zQi G (fun (r : Int32) (u : (Nat → Int32) × (Nat → Int32) × (Nat → Int32) × Int32) => r = f_X3_measures ow lf lc gn bo jj sg ∧ u.1 = f_X3_measures_lf ow lf lc gn bo jj sg ∧ u.2.1 = f_X3_measures_gn ow lf lc gn bo jj sg ∧ u.2.2.1 = f_X3_measures_bo ow lf lc gn bo jj sg ∧ u.2.2.2 = f_X3_measures_ow ow lf lc gn bo jj sg) (fun u => [(h0, .inr (5, [.ref m0, .ref m1, .ref m2, .ref m3, .ref m4, .ref m5, .ref m6, .ref m7, .ref m8, .ref m9, .ref m10, .ref m11, .int nb, .int dy, .int pd, .int u.2.2.2, .int th])), (m5, .inl (G.2.1 0, 20, .inl (upd bs jj sg))), (m6, .inl (G.2.1 0, 20, .inl (upd bm jj 1))), (m7, .inl (G.2.1 0, 20, .inl u.1)), (m8, .inl (G.2.1 0, 20, .inl lc)), (m9, .inl (G.2.1 0, 20, .inl u.2.1)), (m11, .inl (G.2.1 0, 80, .inl u.2.2.1))]) (va_A [(h0, .inr (5, [.ref m0, .ref m1, .ref m2, .ref m3, .ref m4, .ref m5, .ref m6, .ref m7, .ref m8, .ref m9, .ref m10, .ref m11, .int nb, .int dy, .int pd, .int ow, .int th])), (m5, .inl (G.2.1 0, 20, .inl bs)), (m6, .inl (G.2.1 0, 20, .inl bm)), (m7, .inl (G.2.1 0, 20, .inl lf)), (m8, .inl (G.2.1 0, 20, .inl lc)), (m9, .inl (G.2.1 0, 20, .inl gn)), (m11, .inl (G.2.1 0, 80, .inl bo))] sz)) 0 0 (va_A [(h0, .inr (5, [.ref m0, .ref m1, .ref m2, .ref m3, .ref m4, .ref m5, .ref m6, .ref m7, .ref m8, .ref m9, .ref m10, .ref m11, .int nb, .int dy, .int pd, .int ow, .int th])), (m5, .inl (G.2.1 0, 20, .inl bs)), (m6, .inl (G.2.1 0, 20, .inl bm)), (m7, .inl (G.2.1 0, 20, .inl lf)), (m8, .inl (G.2.1 0, 20, .inl lc)), (m9, .inl (G.2.1 0, 20, .inl gn)), (m11, .inl (G.2.1 0, 80, .inl bo))] sz) := by
  refine zOfW (Qc := fun A => zQi G (fun (r : Int32) (u : (Nat → Int32) × (Nat → Int32) × (Nat → Int32) × Int32) => r = f_X3_measures ow lf lc gn bo jj sg ∧ u.1 = f_X3_measures_lf ow lf lc gn bo jj sg ∧ u.2.1 = f_X3_measures_gn ow lf lc gn bo jj sg ∧ u.2.2.1 = f_X3_measures_bo ow lf lc gn bo jj sg ∧ u.2.2.2 = f_X3_measures_ow ow lf lc gn bo jj sg) (fun u => [(h0, .inr (5, [.ref m0, .ref m1, .ref m2, .ref m3, .ref m4, .ref m5, .ref m6, .ref m7, .ref m8, .ref m9, .ref m10, .ref m11, .int nb, .int dy, .int pd, .int u.2.2.2, .int th])), (m5, .inl (G.2.1 0, 20, .inl (upd bs jj sg))), (m6, .inl (G.2.1 0, 20, .inl (upd bm jj 1))), (m7, .inl (G.2.1 0, 20, .inl u.1)), (m8, .inl (G.2.1 0, 20, .inl lc)), (m9, .inl (G.2.1 0, 20, .inl u.2.1)), (m11, .inl (G.2.1 0, 80, .inl u.2.2.1))]) A) (fr := fun A => A) (cc := cX3_measures) (maxL := 6) (ret := (some .int)) (by decide) rfl (Nat.le_of_ble_eq_true rfl) ?_
  intro p e s m below meth c hx hb hml hr hlocks hown hin hts A hP hK hD hE hA hS ls hl
  have hl : lv_has ls 6 [(0, .ref h0), (1, .int (nI jj)), (2, .int sg)] := hl
  have hown : s.vm.findClass RX3 = some m.cls := hown
  have hP : zP G [(h0, .inr (5, [.ref m0, .ref m1, .ref m2, .ref m3, .ref m4, .ref m5, .ref m6, .ref m7, .ref m8, .ref m9, .ref m10, .ref m11, .int nb, .int dy, .int pd, .int ow, .int th])), (m5, .inl (G.2.1 0, 20, .inl bs)), (m6, .inl (G.2.1 0, 20, .inl bm)), (m7, .inl (G.2.1 0, 20, .inl lf)), (m8, .inl (G.2.1 0, 20, .inl lc)), (m9, .inl (G.2.1 0, 20, .inl gn)), (m11, .inl (G.2.1 0, 80, .inl bo))] s.heap := hP
  have hD : va_D A [(h0, .inr (5, [.ref m0, .ref m1, .ref m2, .ref m3, .ref m4, .ref m5, .ref m6, .ref m7, .ref m8, .ref m9, .ref m10, .ref m11, .int nb, .int dy, .int pd, .int ow, .int th])), (m5, .inl (G.2.1 0, 20, .inl bs)), (m6, .inl (G.2.1 0, 20, .inl bm)), (m7, .inl (G.2.1 0, 20, .inl lf)), (m8, .inl (G.2.1 0, 20, .inl lc)), (m9, .inl (G.2.1 0, 20, .inl gn)), (m11, .inl (G.2.1 0, 80, .inl bo))] := hD
  refine lv_aload_n hx hb dX3_measures_0 rfl (lv_at hl 0 rfl) ?_
  refine lv_iload_n hx hb dX3_measures_1 rfl (lv_at hl 2 rfl) ?_
  refine zCi (r := f_X3_classOf sg) (va_runV (As := [.int sg]) (rest := []) ⟨hx, hb, hml, hown, hts⟩ (c_X3_classOf l G s.heap.size h0 m0 m1 m2 m3 m4 m5 m6 m7 m8 m9 m10 m11 nb dy pd ow th sg) (cwV 1 hts gX3_measures_X3_classOf rfl rfl rfl (by decide +kernel) ⟨(Nat.le_of_ble_eq_true rfl), (Nat.le_of_ble_eq_true rfl)⟩) (zPreV hE hS hA hP hD hK (z_pick (n := 7) [0] [1, 2, 3, 4, 5, 6] rfl (by decide) rfl rfl) (va_recv hK hP (ci := 5) (q0 := 0) rfl rfl)) rfl rfl hl.1 rfl (lv_room (Nat.le_of_ble_eq_true rfl)) dX3_measures_2 ⟨(Nat.le_of_ble_eq_true rfl), (Nat.le_of_ble_eq_true rfl)⟩).run ?_
  rcases z_mcls sg with hs_1 | hs_1 | hs_1 | hs_1
  · refine zTop (v := 0) hs_1 ?_
    refine lv_istore_n (lv' := [(3, .int 0), (0, .ref h0), (1, .int (nI jj)), (2, .int sg)]) hx hb dX3_measures_5 rfl hl (by decide) rfl (fun ls hl => ?_)
    refine lv_aload_n hx hb dX3_measures_6 rfl (lv_at hl 1 rfl) ?_
    refine va_get (D := G.1) (ci := 5) (v := .ref m5) (C := RX3) (T := TX3) (N := 17) hx hb hts wsi_X3_measures_X3 hown hK hP 0 rfl rfl 5 (by decide) (hts (.fieldLink "CellarschedulerModel" 25 "CellarschedulerModel" "bs" "[I") (List.mem_of_getElem? (i := 1) (by decide +kernel))) (fun _ h9 => h9) rfl dX3_measures_7 ?_
    refine lv_iload_n hx hb dX3_measures_10 rfl (lv_at hl 2 rfl) ?_
    refine lv_iload_n hx hb dX3_measures_11 rfl (lv_at hl 3 rfl) ?_
    refine zIast hx hb hK hP hD hS 1 rfl jj rfl (by omega) (by decide) dX3_measures_12 (fun H locs hP hD hS => ?_)
    have hP : zP G [(h0, .inr (5, [.ref m0, .ref m1, .ref m2, .ref m3, .ref m4, .ref m5, .ref m6, .ref m7, .ref m8, .ref m9, .ref m10, .ref m11, .int nb, .int dy, .int pd, .int ow, .int th])), (m5, .inl (G.2.1 0, 20, .inl (upd bs jj sg))), (m6, .inl (G.2.1 0, 20, .inl bm)), (m7, .inl (G.2.1 0, 20, .inl lf)), (m8, .inl (G.2.1 0, 20, .inl lc)), (m9, .inl (G.2.1 0, 20, .inl gn)), (m11, .inl (G.2.1 0, 80, .inl bo))] H := hP
    have hD : va_D A [(h0, .inr (5, [.ref m0, .ref m1, .ref m2, .ref m3, .ref m4, .ref m5, .ref m6, .ref m7, .ref m8, .ref m9, .ref m10, .ref m11, .int nb, .int dy, .int pd, .int ow, .int th])), (m5, .inl (G.2.1 0, 20, .inl (upd bs jj sg))), (m6, .inl (G.2.1 0, 20, .inl bm)), (m7, .inl (G.2.1 0, 20, .inl lf)), (m8, .inl (G.2.1 0, 20, .inl lc)), (m9, .inl (G.2.1 0, 20, .inl gn)), (m11, .inl (G.2.1 0, 80, .inl bo))] := hD
    refine lv_aload_n hx hb dX3_measures_13 rfl (lv_at hl 1 rfl) ?_
    refine va_get (D := G.1) (ci := 5) (v := .ref m6) (C := RX3) (T := TX3) (N := 17) hx hb hts wsi_X3_measures_X3 hown hK hP 0 rfl rfl 6 (by decide) (hts (.fieldLink "CellarschedulerModel" 28 "CellarschedulerModel" "bm" "[I") (List.mem_of_getElem? (i := 2) (by decide +kernel))) (fun _ h9 => h9) rfl dX3_measures_14 ?_
    refine lv_iload_n hx hb dX3_measures_17 rfl (lv_at hl 2 rfl) ?_
    refine lv_iconst (v := 1) hx hb dX3_measures_18 (by decide) ?_
    refine zIast hx hb hK hP hD hS 2 rfl jj rfl (by omega) (by decide) dX3_measures_19 (fun H locs hP hD hS => ?_)
    have hP : zP G [(h0, .inr (5, [.ref m0, .ref m1, .ref m2, .ref m3, .ref m4, .ref m5, .ref m6, .ref m7, .ref m8, .ref m9, .ref m10, .ref m11, .int nb, .int dy, .int pd, .int ow, .int th])), (m5, .inl (G.2.1 0, 20, .inl (upd bs jj sg))), (m6, .inl (G.2.1 0, 20, .inl (upd bm jj 1))), (m7, .inl (G.2.1 0, 20, .inl lf)), (m8, .inl (G.2.1 0, 20, .inl lc)), (m9, .inl (G.2.1 0, 20, .inl gn)), (m11, .inl (G.2.1 0, 80, .inl bo))] H := hP
    have hD : va_D A [(h0, .inr (5, [.ref m0, .ref m1, .ref m2, .ref m3, .ref m4, .ref m5, .ref m6, .ref m7, .ref m8, .ref m9, .ref m10, .ref m11, .int nb, .int dy, .int pd, .int ow, .int th])), (m5, .inl (G.2.1 0, 20, .inl (upd bs jj sg))), (m6, .inl (G.2.1 0, 20, .inl (upd bm jj 1))), (m7, .inl (G.2.1 0, 20, .inl lf)), (m8, .inl (G.2.1 0, 20, .inl lc)), (m9, .inl (G.2.1 0, 20, .inl gn)), (m11, .inl (G.2.1 0, 80, .inl bo))] := hD
    refine lv_iload_n hx hb dX3_measures_20 rfl (lv_at hl 0 rfl) ?_
    refine lv_aload_n hx hb dX3_measures_21 rfl (lv_at hl 1 rfl) ?_
    refine va_get (D := G.1) (ci := 5) (v := .ref m8) (C := RX3) (T := TX3) (N := 17) hx hb hts wsi_X3_measures_X3 hown hK hP 0 rfl rfl 8 (by decide) (hts (.fieldLink "CellarschedulerModel" 34 "CellarschedulerModel" "leftClass" "[I") (List.mem_of_getElem? (i := 3) (by decide +kernel))) (fun _ h9 => h9) rfl dX3_measures_22 ?_
    refine lv_iload_n hx hb dX3_measures_25 rfl (lv_at hl 2 rfl) ?_
    refine zIald hx hb hK hP 4 rfl jj rfl (by omega) (by decide) dX3_measures_26 ?_
    refine lv_icmp_le (tgt := 35) hx hb dX3_measures_27 (by decide) (fun c_2 => ?_) (fun c_2 => ?_)
    · refine lv_iconst (v := 0) hx hb dX3_measures_35 (by decide) ?_
      refine lv_istore (lv' := [(4, .int 0), (3, .int 0), (0, .ref h0), (1, .int (nI jj)), (2, .int sg)]) hx hb dX3_measures_36 hl (by decide) rfl (fun ls hl => ?_)
      refine lv_iconst (v := 0) hx hb dX3_measures_38 (by decide) ?_
      refine lv_istore (lv' := [(5, .int 0), (4, .int 0), (3, .int 0), (0, .ref h0), (1, .int (nI jj)), (2, .int sg)]) hx hb dX3_measures_39 hl (by decide) rfl (fun ls hl => ?_)
      refine lv_iload hx hb dX3_measures_41 (lv_at hl 0 rfl) ?_
      refine lv_iload_n hx hb dX3_measures_43 rfl (lv_at hl 2 rfl) ?_
      refine lv_icmp_ge (tgt := 118) hx hb dX3_measures_44 (by decide) (fun c_3 => ?_) (fun c_3 => absurd (by decide) c_3)
      refine lv_aload_n hx hb dX3_measures_118 rfl (lv_at hl 3 rfl) ?_
      refine lv_dup hx hb dX3_measures_119 rfl ?_
      refine va_get (D := G.1) (ci := 5) (v := .int ow) (C := RX3) (T := TX3) (N := 17) hx hb hts wsi_X3_measures_X3 hown hK hP 0 rfl rfl 15 (by decide) (hts (.fieldLink "CellarschedulerModel" 101 "CellarschedulerModel" "owed" "I") (List.mem_of_getElem? (i := 5) (by decide +kernel))) (fun _ h9 => h9) rfl dX3_measures_120 ?_
      refine lv_iload hx hb dX3_measures_123 (lv_at hl 1 rfl) ?_
      refine lv_iadd hx hb dX3_measures_125 ?_
      refine va_put (D := G.1) (ci := 5) (v := .int (ow + 0)) (ty := .int) (C := RX3) (T := TX3) (N := 17) hx hb hts wsi_X3_measures_X3 tyX3 tyX3_ok nmX3 hown hK hP hD hS 0 rfl rfl 15 (by decide) (hts (.fieldLink "CellarschedulerModel" 101 "CellarschedulerModel" "owed" "I") (List.mem_of_getElem? (i := 5) (by decide +kernel))) (fun _ h9 => h9) rfl (by decide +kernel) rfl rfl (Nat.le_of_ble_eq_true rfl) dX3_measures_126 (fun H locs hP hD hS => ?_)
      have hP : zP G [(h0, .inr (5, [.ref m0, .ref m1, .ref m2, .ref m3, .ref m4, .ref m5, .ref m6, .ref m7, .ref m8, .ref m9, .ref m10, .ref m11, .int nb, .int dy, .int pd, .int (ow + 0), .int th])), (m5, .inl (G.2.1 0, 20, .inl (upd bs jj sg))), (m6, .inl (G.2.1 0, 20, .inl (upd bm jj 1))), (m7, .inl (G.2.1 0, 20, .inl lf)), (m8, .inl (G.2.1 0, 20, .inl lc)), (m9, .inl (G.2.1 0, 20, .inl gn)), (m11, .inl (G.2.1 0, 80, .inl bo))] H := hP
      have hD : va_D A [(h0, .inr (5, [.ref m0, .ref m1, .ref m2, .ref m3, .ref m4, .ref m5, .ref m6, .ref m7, .ref m8, .ref m9, .ref m10, .ref m11, .int nb, .int dy, .int pd, .int (ow + 0), .int th])), (m5, .inl (G.2.1 0, 20, .inl (upd bs jj sg))), (m6, .inl (G.2.1 0, 20, .inl (upd bm jj 1))), (m7, .inl (G.2.1 0, 20, .inl lf)), (m8, .inl (G.2.1 0, 20, .inl lc)), (m9, .inl (G.2.1 0, 20, .inl gn)), (m11, .inl (G.2.1 0, 80, .inl bo))] := hD
      refine lv_iload hx hb dX3_measures_129 (lv_at hl 1 rfl) ?_
      exact zWi (lf, gn, bo, ow + 0) hx hb hr hlocks rfl ⟨(by rw [f_X3_measures, if_pos hs_1, if_pos c_2]), (by rw [f_X3_measures_lf, if_pos hs_1, if_pos c_2]), (by rw [f_X3_measures_gn, if_pos hs_1, if_pos c_2]), (by rw [f_X3_measures_bo, if_pos hs_1, if_pos c_2]), (by rw [f_X3_measures_ow, if_pos hs_1, if_pos c_2])⟩ hP hD hK hS (z_pick (n := 7) [0, 1, 2, 3, 4, 5, 6] [] rfl (by decide) rfl rfl) (Nat.le_of_ble_eq_true rfl) (Nat.le_of_ble_eq_true rfl) dX3_measures_131
    · refine lv_aload_n hx hb dX3_measures_30 rfl (lv_at hl 1 rfl) ?_
      refine lv_iload_n hx hb dX3_measures_31 rfl (lv_at hl 2 rfl) ?_
      refine zDv (wr := [(m5, .inl (G.2.1 0, 20, .inl (upd bs jj sg))), (m6, .inl (G.2.1 0, 20, .inl (upd bm jj 1))), (m8, .inl (G.2.1 0, 20, .inl lc)), (m11, .inl (G.2.1 0, 80, .inl bo))]) (va_runV (As := [.int (nI jj)]) (rest := []) ⟨hx, hb, hml, hown, hts⟩ (c_X3_voids l G H.size h0 m0 m1 m2 m3 m4 m5 m6 m7 m8 m9 m10 m11 nb dy pd ow th lf gn jj (by assumption)) (cwV 1 hts gX3_measures_X3_voids rfl rfl rfl (by decide +kernel) ⟨(Nat.le_of_ble_eq_true rfl), (Nat.le_of_ble_eq_true rfl)⟩) (zPreV hE hS hA hP hD hK (z_pick (n := 7) [0, 3, 5] [1, 2, 4, 6] rfl (by decide) rfl rfl) (va_recv hK hP (ci := 5) (q0 := 0) rfl rfl)) rfl rfl hl.1 rfl (lv_room (Nat.le_of_ble_eq_true rfl)) dX3_measures_32 ⟨(Nat.le_of_ble_eq_true rfl), (Nat.le_of_ble_eq_true rfl)⟩) hP hD hS hA (z_pick (n := 7) [0, 3, 5] [1, 2, 4, 6] rfl (by decide) rfl rfl) (fun u_4 H locs hp_5 hP hD hS => ?_)
      have hP : zP G [(h0, .inr (5, [.ref m0, .ref m1, .ref m2, .ref m3, .ref m4, .ref m5, .ref m6, .ref m7, .ref m8, .ref m9, .ref m10, .ref m11, .int nb, .int dy, .int pd, .int ow, .int th])), (m7, .inl (G.2.1 0, 20, .inl (upd lf jj 0))), (m9, .inl (G.2.1 0, 20, .inl (upd gn jj ((gn jj) + (lf jj))))), (m5, .inl (G.2.1 0, 20, .inl (upd bs jj sg))), (m6, .inl (G.2.1 0, 20, .inl (upd bm jj 1))), (m8, .inl (G.2.1 0, 20, .inl lc)), (m11, .inl (G.2.1 0, 80, .inl bo))] H := hP
      have hD : va_D A [(h0, .inr (5, [.ref m0, .ref m1, .ref m2, .ref m3, .ref m4, .ref m5, .ref m6, .ref m7, .ref m8, .ref m9, .ref m10, .ref m11, .int nb, .int dy, .int pd, .int ow, .int th])), (m7, .inl (G.2.1 0, 20, .inl (upd lf jj 0))), (m9, .inl (G.2.1 0, 20, .inl (upd gn jj ((gn jj) + (lf jj))))), (m5, .inl (G.2.1 0, 20, .inl (upd bs jj sg))), (m6, .inl (G.2.1 0, 20, .inl (upd bm jj 1))), (m8, .inl (G.2.1 0, 20, .inl lc)), (m11, .inl (G.2.1 0, 80, .inl bo))] := hD
      refine lv_iconst (v := 0) hx hb dX3_measures_35 (by decide) ?_
      refine lv_istore (lv' := [(4, .int 0), (3, .int 0), (0, .ref h0), (1, .int (nI jj)), (2, .int sg)]) hx hb dX3_measures_36 hl (by decide) rfl (fun ls hl => ?_)
      refine lv_iconst (v := 0) hx hb dX3_measures_38 (by decide) ?_
      refine lv_istore (lv' := [(5, .int 0), (4, .int 0), (3, .int 0), (0, .ref h0), (1, .int (nI jj)), (2, .int sg)]) hx hb dX3_measures_39 hl (by decide) rfl (fun ls hl => ?_)
      refine lv_iload hx hb dX3_measures_41 (lv_at hl 0 rfl) ?_
      refine lv_iload_n hx hb dX3_measures_43 rfl (lv_at hl 2 rfl) ?_
      refine lv_icmp_ge (tgt := 118) hx hb dX3_measures_44 (by decide) (fun c_6 => ?_) (fun c_6 => absurd (by decide) c_6)
      refine lv_aload_n hx hb dX3_measures_118 rfl (lv_at hl 3 rfl) ?_
      refine lv_dup hx hb dX3_measures_119 rfl ?_
      refine va_get (D := G.1) (ci := 5) (v := .int ow) (C := RX3) (T := TX3) (N := 17) hx hb hts wsi_X3_measures_X3 hown hK hP 0 rfl rfl 15 (by decide) (hts (.fieldLink "CellarschedulerModel" 101 "CellarschedulerModel" "owed" "I") (List.mem_of_getElem? (i := 5) (by decide +kernel))) (fun _ h9 => h9) rfl dX3_measures_120 ?_
      refine lv_iload hx hb dX3_measures_123 (lv_at hl 1 rfl) ?_
      refine lv_iadd hx hb dX3_measures_125 ?_
      refine va_put (D := G.1) (ci := 5) (v := .int (ow + 0)) (ty := .int) (C := RX3) (T := TX3) (N := 17) hx hb hts wsi_X3_measures_X3 tyX3 tyX3_ok nmX3 hown hK hP hD hS 0 rfl rfl 15 (by decide) (hts (.fieldLink "CellarschedulerModel" 101 "CellarschedulerModel" "owed" "I") (List.mem_of_getElem? (i := 5) (by decide +kernel))) (fun _ h9 => h9) rfl (by decide +kernel) rfl rfl (Nat.le_of_ble_eq_true rfl) dX3_measures_126 (fun H locs hP hD hS => ?_)
      have hP : zP G [(h0, .inr (5, [.ref m0, .ref m1, .ref m2, .ref m3, .ref m4, .ref m5, .ref m6, .ref m7, .ref m8, .ref m9, .ref m10, .ref m11, .int nb, .int dy, .int pd, .int (ow + 0), .int th])), (m7, .inl (G.2.1 0, 20, .inl (upd lf jj 0))), (m9, .inl (G.2.1 0, 20, .inl (upd gn jj ((gn jj) + (lf jj))))), (m5, .inl (G.2.1 0, 20, .inl (upd bs jj sg))), (m6, .inl (G.2.1 0, 20, .inl (upd bm jj 1))), (m8, .inl (G.2.1 0, 20, .inl lc)), (m11, .inl (G.2.1 0, 80, .inl bo))] H := hP
      have hD : va_D A [(h0, .inr (5, [.ref m0, .ref m1, .ref m2, .ref m3, .ref m4, .ref m5, .ref m6, .ref m7, .ref m8, .ref m9, .ref m10, .ref m11, .int nb, .int dy, .int pd, .int (ow + 0), .int th])), (m7, .inl (G.2.1 0, 20, .inl (upd lf jj 0))), (m9, .inl (G.2.1 0, 20, .inl (upd gn jj ((gn jj) + (lf jj))))), (m5, .inl (G.2.1 0, 20, .inl (upd bs jj sg))), (m6, .inl (G.2.1 0, 20, .inl (upd bm jj 1))), (m8, .inl (G.2.1 0, 20, .inl lc)), (m11, .inl (G.2.1 0, 80, .inl bo))] := hD
      refine lv_iload hx hb dX3_measures_129 (lv_at hl 1 rfl) ?_
      exact zWi (upd lf jj 0, upd gn jj ((gn jj) + (lf jj)), bo, ow + 0) hx hb hr hlocks rfl ⟨(by rw [f_X3_measures, if_pos hs_1, if_neg c_2]), (by rw [f_X3_measures_lf, if_pos hs_1, if_neg c_2]), (by rw [f_X3_measures_gn, if_pos hs_1, if_neg c_2]), (by rw [f_X3_measures_bo, if_pos hs_1, if_neg c_2]), (by rw [f_X3_measures_ow, if_pos hs_1, if_neg c_2])⟩ hP hD hK hS (z_pick (n := 7) [0, 3, 4, 1, 5, 2, 6] [] rfl (by decide) rfl rfl) (Nat.le_of_ble_eq_true rfl) (Nat.le_of_ble_eq_true rfl) dX3_measures_131
  · have hn_7 : ¬ (f_X3_classOf sg) = 0 := by rw [hs_1]; decide
    refine zTop (v := 1) hs_1 ?_
    refine lv_istore_n (lv' := [(3, .int 1), (0, .ref h0), (1, .int (nI jj)), (2, .int sg)]) hx hb dX3_measures_5 rfl hl (by decide) rfl (fun ls hl => ?_)
    refine lv_aload_n hx hb dX3_measures_6 rfl (lv_at hl 1 rfl) ?_
    refine va_get (D := G.1) (ci := 5) (v := .ref m5) (C := RX3) (T := TX3) (N := 17) hx hb hts wsi_X3_measures_X3 hown hK hP 0 rfl rfl 5 (by decide) (hts (.fieldLink "CellarschedulerModel" 25 "CellarschedulerModel" "bs" "[I") (List.mem_of_getElem? (i := 1) (by decide +kernel))) (fun _ h9 => h9) rfl dX3_measures_7 ?_
    refine lv_iload_n hx hb dX3_measures_10 rfl (lv_at hl 2 rfl) ?_
    refine lv_iload_n hx hb dX3_measures_11 rfl (lv_at hl 3 rfl) ?_
    refine zIast hx hb hK hP hD hS 1 rfl jj rfl (by omega) (by decide) dX3_measures_12 (fun H locs hP hD hS => ?_)
    have hP : zP G [(h0, .inr (5, [.ref m0, .ref m1, .ref m2, .ref m3, .ref m4, .ref m5, .ref m6, .ref m7, .ref m8, .ref m9, .ref m10, .ref m11, .int nb, .int dy, .int pd, .int ow, .int th])), (m5, .inl (G.2.1 0, 20, .inl (upd bs jj sg))), (m6, .inl (G.2.1 0, 20, .inl bm)), (m7, .inl (G.2.1 0, 20, .inl lf)), (m8, .inl (G.2.1 0, 20, .inl lc)), (m9, .inl (G.2.1 0, 20, .inl gn)), (m11, .inl (G.2.1 0, 80, .inl bo))] H := hP
    have hD : va_D A [(h0, .inr (5, [.ref m0, .ref m1, .ref m2, .ref m3, .ref m4, .ref m5, .ref m6, .ref m7, .ref m8, .ref m9, .ref m10, .ref m11, .int nb, .int dy, .int pd, .int ow, .int th])), (m5, .inl (G.2.1 0, 20, .inl (upd bs jj sg))), (m6, .inl (G.2.1 0, 20, .inl bm)), (m7, .inl (G.2.1 0, 20, .inl lf)), (m8, .inl (G.2.1 0, 20, .inl lc)), (m9, .inl (G.2.1 0, 20, .inl gn)), (m11, .inl (G.2.1 0, 80, .inl bo))] := hD
    refine lv_aload_n hx hb dX3_measures_13 rfl (lv_at hl 1 rfl) ?_
    refine va_get (D := G.1) (ci := 5) (v := .ref m6) (C := RX3) (T := TX3) (N := 17) hx hb hts wsi_X3_measures_X3 hown hK hP 0 rfl rfl 6 (by decide) (hts (.fieldLink "CellarschedulerModel" 28 "CellarschedulerModel" "bm" "[I") (List.mem_of_getElem? (i := 2) (by decide +kernel))) (fun _ h9 => h9) rfl dX3_measures_14 ?_
    refine lv_iload_n hx hb dX3_measures_17 rfl (lv_at hl 2 rfl) ?_
    refine lv_iconst (v := 1) hx hb dX3_measures_18 (by decide) ?_
    refine zIast hx hb hK hP hD hS 2 rfl jj rfl (by omega) (by decide) dX3_measures_19 (fun H locs hP hD hS => ?_)
    have hP : zP G [(h0, .inr (5, [.ref m0, .ref m1, .ref m2, .ref m3, .ref m4, .ref m5, .ref m6, .ref m7, .ref m8, .ref m9, .ref m10, .ref m11, .int nb, .int dy, .int pd, .int ow, .int th])), (m5, .inl (G.2.1 0, 20, .inl (upd bs jj sg))), (m6, .inl (G.2.1 0, 20, .inl (upd bm jj 1))), (m7, .inl (G.2.1 0, 20, .inl lf)), (m8, .inl (G.2.1 0, 20, .inl lc)), (m9, .inl (G.2.1 0, 20, .inl gn)), (m11, .inl (G.2.1 0, 80, .inl bo))] H := hP
    have hD : va_D A [(h0, .inr (5, [.ref m0, .ref m1, .ref m2, .ref m3, .ref m4, .ref m5, .ref m6, .ref m7, .ref m8, .ref m9, .ref m10, .ref m11, .int nb, .int dy, .int pd, .int ow, .int th])), (m5, .inl (G.2.1 0, 20, .inl (upd bs jj sg))), (m6, .inl (G.2.1 0, 20, .inl (upd bm jj 1))), (m7, .inl (G.2.1 0, 20, .inl lf)), (m8, .inl (G.2.1 0, 20, .inl lc)), (m9, .inl (G.2.1 0, 20, .inl gn)), (m11, .inl (G.2.1 0, 80, .inl bo))] := hD
    refine lv_iload_n hx hb dX3_measures_20 rfl (lv_at hl 0 rfl) ?_
    refine lv_aload_n hx hb dX3_measures_21 rfl (lv_at hl 1 rfl) ?_
    refine va_get (D := G.1) (ci := 5) (v := .ref m8) (C := RX3) (T := TX3) (N := 17) hx hb hts wsi_X3_measures_X3 hown hK hP 0 rfl rfl 8 (by decide) (hts (.fieldLink "CellarschedulerModel" 34 "CellarschedulerModel" "leftClass" "[I") (List.mem_of_getElem? (i := 3) (by decide +kernel))) (fun _ h9 => h9) rfl dX3_measures_22 ?_
    refine lv_iload_n hx hb dX3_measures_25 rfl (lv_at hl 2 rfl) ?_
    refine zIald hx hb hK hP 4 rfl jj rfl (by omega) (by decide) dX3_measures_26 ?_
    refine lv_icmp_le (tgt := 35) hx hb dX3_measures_27 (by decide) (fun c_8 => ?_) (fun c_8 => ?_)
    · refine lv_iconst (v := 0) hx hb dX3_measures_35 (by decide) ?_
      refine lv_istore (lv' := [(4, .int 0), (3, .int 1), (0, .ref h0), (1, .int (nI jj)), (2, .int sg)]) hx hb dX3_measures_36 hl (by decide) rfl (fun ls hl => ?_)
      refine lv_iconst (v := 0) hx hb dX3_measures_38 (by decide) ?_
      refine lv_istore (lv' := [(5, .int 0), (4, .int 0), (3, .int 1), (0, .ref h0), (1, .int (nI jj)), (2, .int sg)]) hx hb dX3_measures_39 hl (by decide) rfl (fun ls hl => ?_)
      refine lv_iload hx hb dX3_measures_41 (lv_at hl 0 rfl) ?_
      refine lv_iload_n hx hb dX3_measures_43 rfl (lv_at hl 2 rfl) ?_
      refine lv_icmp_ge (tgt := 118) hx hb dX3_measures_44 (by decide) (fun c_9 => absurd c_9 (by decide)) (fun c_9 => ?_)
      refine lv_iload hx hb dX3_measures_47 (lv_at hl 1 rfl) ?_
      refine lv_aload_n hx hb dX3_measures_49 rfl (lv_at hl 3 rfl) ?_
      refine va_get (D := G.1) (ci := 5) (v := .ref m11) (C := RX3) (T := TX3) (N := 17) hx hb hts wsi_X3_measures_X3 hown hK hP 0 rfl rfl 11 (by decide) (hts (.fieldLink "CellarschedulerModel" 43 "CellarschedulerModel" "bottles" "[I") (List.mem_of_getElem? (i := 4) (by decide +kernel))) (fun _ h9 => h9) rfl dX3_measures_50 ?_
      refine lv_iconst (v := 4) hx hb dX3_measures_53 (by decide) ?_
      refine lv_iload_n hx hb dX3_measures_54 rfl (lv_at hl 4 rfl) ?_
      refine lv_imul hx hb dX3_measures_55 ?_
      refine zTop (v := nI (4 * jj)) (show (4 * (nI jj) : Int32) = nI (4 * jj) from pk_mul 4 jj) ?_
      refine lv_iload hx hb dX3_measures_56 (lv_at hl 0 rfl) ?_
      refine lv_iadd hx hb dX3_measures_58 ?_
      refine zTop (v := nI (4 * jj + 0)) (show ((nI (4 * jj)) + 0 : Int32) = nI (4 * jj + 0) from nI_add (4 * jj) 0) ?_
      refine zIald hx hb hK hP 6 rfl (4 * jj + 0) rfl (by omega) (by decide) dX3_measures_59 ?_
      refine lv_aload_n hx hb dX3_measures_60 rfl (lv_at hl 3 rfl) ?_
      refine lv_iload_n hx hb dX3_measures_61 rfl (lv_at hl 2 rfl) ?_
      refine zCi (r := f_X3_stamp 1) (va_runV (As := [.int 1]) (rest := [.int (bo (4 * jj + 0)), .int 0]) ⟨hx, hb, hml, hown, hts⟩ (c_X3_stamp l G H.size h0 m0 m1 m2 m3 m4 m5 m6 m7 m8 m9 m10 m11 nb dy pd ow th 1) (cwV 1 hts gX3_measures_X3_stamp rfl rfl rfl (by decide +kernel) ⟨(Nat.le_of_ble_eq_true rfl), (Nat.le_of_ble_eq_true rfl)⟩) (zPreV hE hS hA hP hD hK (z_pick (n := 7) [0] [1, 2, 3, 4, 5, 6] rfl (by decide) rfl rfl) (va_recv hK hP (ci := 5) (q0 := 0) rfl rfl)) rfl rfl hl.1 rfl (lv_room (Nat.le_of_ble_eq_true rfl)) dX3_measures_62 ⟨(Nat.le_of_ble_eq_true rfl), (Nat.le_of_ble_eq_true rfl)⟩).run ?_
      refine zTop (v := 3) (by decide +kernel) ?_
      refine lv_aload_n hx hb dX3_measures_65 rfl (lv_at hl 3 rfl) ?_
      refine lv_iload hx hb dX3_measures_66 (lv_at hl 0 rfl) ?_
      refine zCi (r := f_X3_stamp 0) (va_runV (As := [.int 0]) (rest := [.int 3, .int (bo (4 * jj + 0)), .int 0]) ⟨hx, hb, hml, hown, hts⟩ (c_X3_stamp l G H.size h0 m0 m1 m2 m3 m4 m5 m6 m7 m8 m9 m10 m11 nb dy pd ow th 0) (cwV 1 hts gX3_measures_X3_stamp rfl rfl rfl (by decide +kernel) ⟨(Nat.le_of_ble_eq_true rfl), (Nat.le_of_ble_eq_true rfl)⟩) (zPreV hE hS hA hP hD hK (z_pick (n := 7) [0] [1, 2, 3, 4, 5, 6] rfl (by decide) rfl rfl) (va_recv hK hP (ci := 5) (q0 := 0) rfl rfl)) rfl rfl hl.1 rfl (lv_room (Nat.le_of_ble_eq_true rfl)) dX3_measures_68 ⟨(Nat.le_of_ble_eq_true rfl), (Nat.le_of_ble_eq_true rfl)⟩).run ?_
      refine zTop (v := 1) (by decide +kernel) ?_
      refine lv_isub hx hb dX3_measures_71 ?_
      refine zTop (v := 2) (by decide) ?_
      refine lv_imul hx hb dX3_measures_72 ?_
      refine lv_iadd hx hb dX3_measures_73 ?_
      refine lv_istore (lv' := [(4, .int (0 + ((bo (4 * jj + 0)) * 2))), (5, .int 0), (3, .int 1), (0, .ref h0), (1, .int (nI jj)), (2, .int sg)]) hx hb dX3_measures_74 hl (by decide) rfl (fun ls hl => ?_)
      refine lv_aload_n hx hb dX3_measures_76 rfl (lv_at hl 3 rfl) ?_
      refine va_get (D := G.1) (ci := 5) (v := .ref m11) (C := RX3) (T := TX3) (N := 17) hx hb hts wsi_X3_measures_X3 hown hK hP 0 rfl rfl 11 (by decide) (hts (.fieldLink "CellarschedulerModel" 43 "CellarschedulerModel" "bottles" "[I") (List.mem_of_getElem? (i := 4) (by decide +kernel))) (fun _ h9 => h9) rfl dX3_measures_77 ?_
      refine lv_iconst (v := 4) hx hb dX3_measures_80 (by decide) ?_
      refine lv_iload_n hx hb dX3_measures_81 rfl (lv_at hl 4 rfl) ?_
      refine lv_imul hx hb dX3_measures_82 ?_
      refine zTop (v := nI (4 * jj)) (show (4 * (nI jj) : Int32) = nI (4 * jj) from pk_mul 4 jj) ?_
      refine lv_iload_n hx hb dX3_measures_83 rfl (lv_at hl 2 rfl) ?_
      refine lv_iadd hx hb dX3_measures_84 ?_
      refine zTop (v := nI (4 * jj + 1)) (show ((nI (4 * jj)) + 1 : Int32) = nI (4 * jj + 1) from nI_add (4 * jj) 1) ?_
      refine lv_dup2_11 hx hb dX3_measures_85 rfl rfl ?_
      refine zIald hx hb hK hP 6 rfl (4 * jj + 1) rfl (by omega) (by decide) dX3_measures_86 ?_
      refine lv_aload_n hx hb dX3_measures_87 rfl (lv_at hl 3 rfl) ?_
      refine va_get (D := G.1) (ci := 5) (v := .ref m11) (C := RX3) (T := TX3) (N := 17) hx hb hts wsi_X3_measures_X3 hown hK hP 0 rfl rfl 11 (by decide) (hts (.fieldLink "CellarschedulerModel" 43 "CellarschedulerModel" "bottles" "[I") (List.mem_of_getElem? (i := 4) (by decide +kernel))) (fun _ h9 => h9) rfl dX3_measures_88 ?_
      refine lv_iconst (v := 4) hx hb dX3_measures_91 (by decide) ?_
      refine lv_iload_n hx hb dX3_measures_92 rfl (lv_at hl 4 rfl) ?_
      refine lv_imul hx hb dX3_measures_93 ?_
      refine zTop (v := nI (4 * jj)) (show (4 * (nI jj) : Int32) = nI (4 * jj) from pk_mul 4 jj) ?_
      refine lv_iload hx hb dX3_measures_94 (lv_at hl 1 rfl) ?_
      refine lv_iadd hx hb dX3_measures_96 ?_
      refine zTop (v := nI (4 * jj + 0)) (show ((nI (4 * jj)) + 0 : Int32) = nI (4 * jj + 0) from nI_add (4 * jj) 0) ?_
      refine zIald hx hb hK hP 6 rfl (4 * jj + 0) rfl (by omega) (by decide) dX3_measures_97 ?_
      refine lv_iadd hx hb dX3_measures_98 ?_
      refine zIast hx hb hK hP hD hS 6 rfl (4 * jj + 1) rfl (by omega) (by decide) dX3_measures_99 (fun H locs hP hD hS => ?_)
      have hP : zP G [(h0, .inr (5, [.ref m0, .ref m1, .ref m2, .ref m3, .ref m4, .ref m5, .ref m6, .ref m7, .ref m8, .ref m9, .ref m10, .ref m11, .int nb, .int dy, .int pd, .int ow, .int th])), (m5, .inl (G.2.1 0, 20, .inl (upd bs jj sg))), (m6, .inl (G.2.1 0, 20, .inl (upd bm jj 1))), (m7, .inl (G.2.1 0, 20, .inl lf)), (m8, .inl (G.2.1 0, 20, .inl lc)), (m9, .inl (G.2.1 0, 20, .inl gn)), (m11, .inl (G.2.1 0, 80, .inl (upd bo (4 * jj + 1) ((bo (4 * jj + 1)) + (bo (4 * jj + 0))))))] H := hP
      have hD : va_D A [(h0, .inr (5, [.ref m0, .ref m1, .ref m2, .ref m3, .ref m4, .ref m5, .ref m6, .ref m7, .ref m8, .ref m9, .ref m10, .ref m11, .int nb, .int dy, .int pd, .int ow, .int th])), (m5, .inl (G.2.1 0, 20, .inl (upd bs jj sg))), (m6, .inl (G.2.1 0, 20, .inl (upd bm jj 1))), (m7, .inl (G.2.1 0, 20, .inl lf)), (m8, .inl (G.2.1 0, 20, .inl lc)), (m9, .inl (G.2.1 0, 20, .inl gn)), (m11, .inl (G.2.1 0, 80, .inl (upd bo (4 * jj + 1) ((bo (4 * jj + 1)) + (bo (4 * jj + 0))))))] := hD
      refine lv_aload_n hx hb dX3_measures_100 rfl (lv_at hl 3 rfl) ?_
      refine va_get (D := G.1) (ci := 5) (v := .ref m11) (C := RX3) (T := TX3) (N := 17) hx hb hts wsi_X3_measures_X3 hown hK hP 0 rfl rfl 11 (by decide) (hts (.fieldLink "CellarschedulerModel" 43 "CellarschedulerModel" "bottles" "[I") (List.mem_of_getElem? (i := 4) (by decide +kernel))) (fun _ h9 => h9) rfl dX3_measures_101 ?_
      refine lv_iconst (v := 4) hx hb dX3_measures_104 (by decide) ?_
      refine lv_iload_n hx hb dX3_measures_105 rfl (lv_at hl 4 rfl) ?_
      refine lv_imul hx hb dX3_measures_106 ?_
      refine zTop (v := nI (4 * jj)) (show (4 * (nI jj) : Int32) = nI (4 * jj) from pk_mul 4 jj) ?_
      refine lv_iload hx hb dX3_measures_107 (lv_at hl 1 rfl) ?_
      refine lv_iadd hx hb dX3_measures_109 ?_
      refine zTop (v := nI (4 * jj + 0)) (show ((nI (4 * jj)) + 0 : Int32) = nI (4 * jj + 0) from nI_add (4 * jj) 0) ?_
      refine lv_iconst (v := 0) hx hb dX3_measures_110 (by decide) ?_
      refine zIast hx hb hK hP hD hS 6 rfl (4 * jj + 0) rfl (by omega) (by decide) dX3_measures_111 (fun H locs hP hD hS => ?_)
      have hP : zP G [(h0, .inr (5, [.ref m0, .ref m1, .ref m2, .ref m3, .ref m4, .ref m5, .ref m6, .ref m7, .ref m8, .ref m9, .ref m10, .ref m11, .int nb, .int dy, .int pd, .int ow, .int th])), (m5, .inl (G.2.1 0, 20, .inl (upd bs jj sg))), (m6, .inl (G.2.1 0, 20, .inl (upd bm jj 1))), (m7, .inl (G.2.1 0, 20, .inl lf)), (m8, .inl (G.2.1 0, 20, .inl lc)), (m9, .inl (G.2.1 0, 20, .inl gn)), (m11, .inl (G.2.1 0, 80, .inl (upd (upd bo (4 * jj + 1) ((bo (4 * jj + 1)) + (bo (4 * jj + 0)))) (4 * jj + 0) 0)))] H := hP
      have hD : va_D A [(h0, .inr (5, [.ref m0, .ref m1, .ref m2, .ref m3, .ref m4, .ref m5, .ref m6, .ref m7, .ref m8, .ref m9, .ref m10, .ref m11, .int nb, .int dy, .int pd, .int ow, .int th])), (m5, .inl (G.2.1 0, 20, .inl (upd bs jj sg))), (m6, .inl (G.2.1 0, 20, .inl (upd bm jj 1))), (m7, .inl (G.2.1 0, 20, .inl lf)), (m8, .inl (G.2.1 0, 20, .inl lc)), (m9, .inl (G.2.1 0, 20, .inl gn)), (m11, .inl (G.2.1 0, 80, .inl (upd (upd bo (4 * jj + 1) ((bo (4 * jj + 1)) + (bo (4 * jj + 0)))) (4 * jj + 0) 0)))] := hD
      refine lv_iinc (v := 1) (lv' := [(5, .int 1), (4, .int (0 + ((bo (4 * jj + 0)) * 2))), (3, .int 1), (0, .ref h0), (1, .int (nI jj)), (2, .int sg)]) hx hb dX3_measures_112 hl (k := 1) rfl (by decide) (by decide) rfl (fun ls hl => ?_)
      refine lv_goto (tgt := 41) hx hb dX3_measures_115 (by decide) ?_
      refine lv_iload hx hb dX3_measures_41 (lv_at hl 0 rfl) ?_
      refine lv_iload_n hx hb dX3_measures_43 rfl (lv_at hl 2 rfl) ?_
      refine lv_icmp_ge (tgt := 118) hx hb dX3_measures_44 (by decide) (fun c_10 => ?_) (fun c_10 => absurd (by decide) c_10)
      refine lv_aload_n hx hb dX3_measures_118 rfl (lv_at hl 3 rfl) ?_
      refine lv_dup hx hb dX3_measures_119 rfl ?_
      refine va_get (D := G.1) (ci := 5) (v := .int ow) (C := RX3) (T := TX3) (N := 17) hx hb hts wsi_X3_measures_X3 hown hK hP 0 rfl rfl 15 (by decide) (hts (.fieldLink "CellarschedulerModel" 101 "CellarschedulerModel" "owed" "I") (List.mem_of_getElem? (i := 5) (by decide +kernel))) (fun _ h9 => h9) rfl dX3_measures_120 ?_
      refine lv_iload hx hb dX3_measures_123 (lv_at hl 1 rfl) ?_
      refine lv_iadd hx hb dX3_measures_125 ?_
      refine va_put (D := G.1) (ci := 5) (v := .int (ow + (0 + ((bo (4 * jj + 0)) * 2)))) (ty := .int) (C := RX3) (T := TX3) (N := 17) hx hb hts wsi_X3_measures_X3 tyX3 tyX3_ok nmX3 hown hK hP hD hS 0 rfl rfl 15 (by decide) (hts (.fieldLink "CellarschedulerModel" 101 "CellarschedulerModel" "owed" "I") (List.mem_of_getElem? (i := 5) (by decide +kernel))) (fun _ h9 => h9) rfl (by decide +kernel) rfl rfl (Nat.le_of_ble_eq_true rfl) dX3_measures_126 (fun H locs hP hD hS => ?_)
      have hP : zP G [(h0, .inr (5, [.ref m0, .ref m1, .ref m2, .ref m3, .ref m4, .ref m5, .ref m6, .ref m7, .ref m8, .ref m9, .ref m10, .ref m11, .int nb, .int dy, .int pd, .int (ow + (0 + ((bo (4 * jj + 0)) * 2))), .int th])), (m5, .inl (G.2.1 0, 20, .inl (upd bs jj sg))), (m6, .inl (G.2.1 0, 20, .inl (upd bm jj 1))), (m7, .inl (G.2.1 0, 20, .inl lf)), (m8, .inl (G.2.1 0, 20, .inl lc)), (m9, .inl (G.2.1 0, 20, .inl gn)), (m11, .inl (G.2.1 0, 80, .inl (upd (upd bo (4 * jj + 1) ((bo (4 * jj + 1)) + (bo (4 * jj + 0)))) (4 * jj + 0) 0)))] H := hP
      have hD : va_D A [(h0, .inr (5, [.ref m0, .ref m1, .ref m2, .ref m3, .ref m4, .ref m5, .ref m6, .ref m7, .ref m8, .ref m9, .ref m10, .ref m11, .int nb, .int dy, .int pd, .int (ow + (0 + ((bo (4 * jj + 0)) * 2))), .int th])), (m5, .inl (G.2.1 0, 20, .inl (upd bs jj sg))), (m6, .inl (G.2.1 0, 20, .inl (upd bm jj 1))), (m7, .inl (G.2.1 0, 20, .inl lf)), (m8, .inl (G.2.1 0, 20, .inl lc)), (m9, .inl (G.2.1 0, 20, .inl gn)), (m11, .inl (G.2.1 0, 80, .inl (upd (upd bo (4 * jj + 1) ((bo (4 * jj + 1)) + (bo (4 * jj + 0)))) (4 * jj + 0) 0)))] := hD
      refine lv_iload hx hb dX3_measures_129 (lv_at hl 1 rfl) ?_
      exact zWi (lf, gn, upd (upd bo (4 * jj + 1) ((bo (4 * jj + 1)) + (bo (4 * jj + 0)))) (4 * jj + 0) 0, ow + (0 + ((bo (4 * jj + 0)) * 2))) hx hb hr hlocks rfl ⟨(by rw [f_X3_measures, if_neg hn_7, if_pos hs_1, if_pos c_8]), (by rw [f_X3_measures_lf, if_neg hn_7, if_pos hs_1, if_pos c_8]), (by rw [f_X3_measures_gn, if_neg hn_7, if_pos hs_1, if_pos c_8]), (by rw [f_X3_measures_bo, if_neg hn_7, if_pos hs_1, if_pos c_8]), (by rw [f_X3_measures_ow, if_neg hn_7, if_pos hs_1, if_pos c_8])⟩ hP hD hK hS (z_pick (n := 7) [0, 1, 2, 3, 4, 5, 6] [] rfl (by decide) rfl rfl) (Nat.le_of_ble_eq_true rfl) (Nat.le_of_ble_eq_true rfl) dX3_measures_131
    · refine lv_aload_n hx hb dX3_measures_30 rfl (lv_at hl 1 rfl) ?_
      refine lv_iload_n hx hb dX3_measures_31 rfl (lv_at hl 2 rfl) ?_
      refine zDv (wr := [(m5, .inl (G.2.1 0, 20, .inl (upd bs jj sg))), (m6, .inl (G.2.1 0, 20, .inl (upd bm jj 1))), (m8, .inl (G.2.1 0, 20, .inl lc)), (m11, .inl (G.2.1 0, 80, .inl bo))]) (va_runV (As := [.int (nI jj)]) (rest := []) ⟨hx, hb, hml, hown, hts⟩ (c_X3_voids l G H.size h0 m0 m1 m2 m3 m4 m5 m6 m7 m8 m9 m10 m11 nb dy pd ow th lf gn jj (by assumption)) (cwV 1 hts gX3_measures_X3_voids rfl rfl rfl (by decide +kernel) ⟨(Nat.le_of_ble_eq_true rfl), (Nat.le_of_ble_eq_true rfl)⟩) (zPreV hE hS hA hP hD hK (z_pick (n := 7) [0, 3, 5] [1, 2, 4, 6] rfl (by decide) rfl rfl) (va_recv hK hP (ci := 5) (q0 := 0) rfl rfl)) rfl rfl hl.1 rfl (lv_room (Nat.le_of_ble_eq_true rfl)) dX3_measures_32 ⟨(Nat.le_of_ble_eq_true rfl), (Nat.le_of_ble_eq_true rfl)⟩) hP hD hS hA (z_pick (n := 7) [0, 3, 5] [1, 2, 4, 6] rfl (by decide) rfl rfl) (fun u_11 H locs hp_12 hP hD hS => ?_)
      have hP : zP G [(h0, .inr (5, [.ref m0, .ref m1, .ref m2, .ref m3, .ref m4, .ref m5, .ref m6, .ref m7, .ref m8, .ref m9, .ref m10, .ref m11, .int nb, .int dy, .int pd, .int ow, .int th])), (m7, .inl (G.2.1 0, 20, .inl (upd lf jj 0))), (m9, .inl (G.2.1 0, 20, .inl (upd gn jj ((gn jj) + (lf jj))))), (m5, .inl (G.2.1 0, 20, .inl (upd bs jj sg))), (m6, .inl (G.2.1 0, 20, .inl (upd bm jj 1))), (m8, .inl (G.2.1 0, 20, .inl lc)), (m11, .inl (G.2.1 0, 80, .inl bo))] H := hP
      have hD : va_D A [(h0, .inr (5, [.ref m0, .ref m1, .ref m2, .ref m3, .ref m4, .ref m5, .ref m6, .ref m7, .ref m8, .ref m9, .ref m10, .ref m11, .int nb, .int dy, .int pd, .int ow, .int th])), (m7, .inl (G.2.1 0, 20, .inl (upd lf jj 0))), (m9, .inl (G.2.1 0, 20, .inl (upd gn jj ((gn jj) + (lf jj))))), (m5, .inl (G.2.1 0, 20, .inl (upd bs jj sg))), (m6, .inl (G.2.1 0, 20, .inl (upd bm jj 1))), (m8, .inl (G.2.1 0, 20, .inl lc)), (m11, .inl (G.2.1 0, 80, .inl bo))] := hD
      refine lv_iconst (v := 0) hx hb dX3_measures_35 (by decide) ?_
      refine lv_istore (lv' := [(4, .int 0), (3, .int 1), (0, .ref h0), (1, .int (nI jj)), (2, .int sg)]) hx hb dX3_measures_36 hl (by decide) rfl (fun ls hl => ?_)
      refine lv_iconst (v := 0) hx hb dX3_measures_38 (by decide) ?_
      refine lv_istore (lv' := [(5, .int 0), (4, .int 0), (3, .int 1), (0, .ref h0), (1, .int (nI jj)), (2, .int sg)]) hx hb dX3_measures_39 hl (by decide) rfl (fun ls hl => ?_)
      refine lv_iload hx hb dX3_measures_41 (lv_at hl 0 rfl) ?_
      refine lv_iload_n hx hb dX3_measures_43 rfl (lv_at hl 2 rfl) ?_
      refine lv_icmp_ge (tgt := 118) hx hb dX3_measures_44 (by decide) (fun c_13 => absurd c_13 (by decide)) (fun c_13 => ?_)
      refine lv_iload hx hb dX3_measures_47 (lv_at hl 1 rfl) ?_
      refine lv_aload_n hx hb dX3_measures_49 rfl (lv_at hl 3 rfl) ?_
      refine va_get (D := G.1) (ci := 5) (v := .ref m11) (C := RX3) (T := TX3) (N := 17) hx hb hts wsi_X3_measures_X3 hown hK hP 0 rfl rfl 11 (by decide) (hts (.fieldLink "CellarschedulerModel" 43 "CellarschedulerModel" "bottles" "[I") (List.mem_of_getElem? (i := 4) (by decide +kernel))) (fun _ h9 => h9) rfl dX3_measures_50 ?_
      refine lv_iconst (v := 4) hx hb dX3_measures_53 (by decide) ?_
      refine lv_iload_n hx hb dX3_measures_54 rfl (lv_at hl 4 rfl) ?_
      refine lv_imul hx hb dX3_measures_55 ?_
      refine zTop (v := nI (4 * jj)) (show (4 * (nI jj) : Int32) = nI (4 * jj) from pk_mul 4 jj) ?_
      refine lv_iload hx hb dX3_measures_56 (lv_at hl 0 rfl) ?_
      refine lv_iadd hx hb dX3_measures_58 ?_
      refine zTop (v := nI (4 * jj + 0)) (show ((nI (4 * jj)) + 0 : Int32) = nI (4 * jj + 0) from nI_add (4 * jj) 0) ?_
      refine zIald hx hb hK hP 6 rfl (4 * jj + 0) rfl (by omega) (by decide) dX3_measures_59 ?_
      refine lv_aload_n hx hb dX3_measures_60 rfl (lv_at hl 3 rfl) ?_
      refine lv_iload_n hx hb dX3_measures_61 rfl (lv_at hl 2 rfl) ?_
      refine zCi (r := f_X3_stamp 1) (va_runV (As := [.int 1]) (rest := [.int (bo (4 * jj + 0)), .int 0]) ⟨hx, hb, hml, hown, hts⟩ (c_X3_stamp l G H.size h0 m0 m1 m2 m3 m4 m5 m6 m7 m8 m9 m10 m11 nb dy pd ow th 1) (cwV 1 hts gX3_measures_X3_stamp rfl rfl rfl (by decide +kernel) ⟨(Nat.le_of_ble_eq_true rfl), (Nat.le_of_ble_eq_true rfl)⟩) (zPreV hE hS hA hP hD hK (z_pick (n := 7) [0] [1, 2, 3, 4, 5, 6] rfl (by decide) rfl rfl) (va_recv hK hP (ci := 5) (q0 := 0) rfl rfl)) rfl rfl hl.1 rfl (lv_room (Nat.le_of_ble_eq_true rfl)) dX3_measures_62 ⟨(Nat.le_of_ble_eq_true rfl), (Nat.le_of_ble_eq_true rfl)⟩).run ?_
      refine zTop (v := 3) (by decide +kernel) ?_
      refine lv_aload_n hx hb dX3_measures_65 rfl (lv_at hl 3 rfl) ?_
      refine lv_iload hx hb dX3_measures_66 (lv_at hl 0 rfl) ?_
      refine zCi (r := f_X3_stamp 0) (va_runV (As := [.int 0]) (rest := [.int 3, .int (bo (4 * jj + 0)), .int 0]) ⟨hx, hb, hml, hown, hts⟩ (c_X3_stamp l G H.size h0 m0 m1 m2 m3 m4 m5 m6 m7 m8 m9 m10 m11 nb dy pd ow th 0) (cwV 1 hts gX3_measures_X3_stamp rfl rfl rfl (by decide +kernel) ⟨(Nat.le_of_ble_eq_true rfl), (Nat.le_of_ble_eq_true rfl)⟩) (zPreV hE hS hA hP hD hK (z_pick (n := 7) [0] [1, 2, 3, 4, 5, 6] rfl (by decide) rfl rfl) (va_recv hK hP (ci := 5) (q0 := 0) rfl rfl)) rfl rfl hl.1 rfl (lv_room (Nat.le_of_ble_eq_true rfl)) dX3_measures_68 ⟨(Nat.le_of_ble_eq_true rfl), (Nat.le_of_ble_eq_true rfl)⟩).run ?_
      refine zTop (v := 1) (by decide +kernel) ?_
      refine lv_isub hx hb dX3_measures_71 ?_
      refine zTop (v := 2) (by decide) ?_
      refine lv_imul hx hb dX3_measures_72 ?_
      refine lv_iadd hx hb dX3_measures_73 ?_
      refine lv_istore (lv' := [(4, .int (0 + ((bo (4 * jj + 0)) * 2))), (5, .int 0), (3, .int 1), (0, .ref h0), (1, .int (nI jj)), (2, .int sg)]) hx hb dX3_measures_74 hl (by decide) rfl (fun ls hl => ?_)
      refine lv_aload_n hx hb dX3_measures_76 rfl (lv_at hl 3 rfl) ?_
      refine va_get (D := G.1) (ci := 5) (v := .ref m11) (C := RX3) (T := TX3) (N := 17) hx hb hts wsi_X3_measures_X3 hown hK hP 0 rfl rfl 11 (by decide) (hts (.fieldLink "CellarschedulerModel" 43 "CellarschedulerModel" "bottles" "[I") (List.mem_of_getElem? (i := 4) (by decide +kernel))) (fun _ h9 => h9) rfl dX3_measures_77 ?_
      refine lv_iconst (v := 4) hx hb dX3_measures_80 (by decide) ?_
      refine lv_iload_n hx hb dX3_measures_81 rfl (lv_at hl 4 rfl) ?_
      refine lv_imul hx hb dX3_measures_82 ?_
      refine zTop (v := nI (4 * jj)) (show (4 * (nI jj) : Int32) = nI (4 * jj) from pk_mul 4 jj) ?_
      refine lv_iload_n hx hb dX3_measures_83 rfl (lv_at hl 2 rfl) ?_
      refine lv_iadd hx hb dX3_measures_84 ?_
      refine zTop (v := nI (4 * jj + 1)) (show ((nI (4 * jj)) + 1 : Int32) = nI (4 * jj + 1) from nI_add (4 * jj) 1) ?_
      refine lv_dup2_11 hx hb dX3_measures_85 rfl rfl ?_
      refine zIald hx hb hK hP 6 rfl (4 * jj + 1) rfl (by omega) (by decide) dX3_measures_86 ?_
      refine lv_aload_n hx hb dX3_measures_87 rfl (lv_at hl 3 rfl) ?_
      refine va_get (D := G.1) (ci := 5) (v := .ref m11) (C := RX3) (T := TX3) (N := 17) hx hb hts wsi_X3_measures_X3 hown hK hP 0 rfl rfl 11 (by decide) (hts (.fieldLink "CellarschedulerModel" 43 "CellarschedulerModel" "bottles" "[I") (List.mem_of_getElem? (i := 4) (by decide +kernel))) (fun _ h9 => h9) rfl dX3_measures_88 ?_
      refine lv_iconst (v := 4) hx hb dX3_measures_91 (by decide) ?_
      refine lv_iload_n hx hb dX3_measures_92 rfl (lv_at hl 4 rfl) ?_
      refine lv_imul hx hb dX3_measures_93 ?_
      refine zTop (v := nI (4 * jj)) (show (4 * (nI jj) : Int32) = nI (4 * jj) from pk_mul 4 jj) ?_
      refine lv_iload hx hb dX3_measures_94 (lv_at hl 1 rfl) ?_
      refine lv_iadd hx hb dX3_measures_96 ?_
      refine zTop (v := nI (4 * jj + 0)) (show ((nI (4 * jj)) + 0 : Int32) = nI (4 * jj + 0) from nI_add (4 * jj) 0) ?_
      refine zIald hx hb hK hP 6 rfl (4 * jj + 0) rfl (by omega) (by decide) dX3_measures_97 ?_
      refine lv_iadd hx hb dX3_measures_98 ?_
      refine zIast hx hb hK hP hD hS 6 rfl (4 * jj + 1) rfl (by omega) (by decide) dX3_measures_99 (fun H locs hP hD hS => ?_)
      have hP : zP G [(h0, .inr (5, [.ref m0, .ref m1, .ref m2, .ref m3, .ref m4, .ref m5, .ref m6, .ref m7, .ref m8, .ref m9, .ref m10, .ref m11, .int nb, .int dy, .int pd, .int ow, .int th])), (m7, .inl (G.2.1 0, 20, .inl (upd lf jj 0))), (m9, .inl (G.2.1 0, 20, .inl (upd gn jj ((gn jj) + (lf jj))))), (m5, .inl (G.2.1 0, 20, .inl (upd bs jj sg))), (m6, .inl (G.2.1 0, 20, .inl (upd bm jj 1))), (m8, .inl (G.2.1 0, 20, .inl lc)), (m11, .inl (G.2.1 0, 80, .inl (upd bo (4 * jj + 1) ((bo (4 * jj + 1)) + (bo (4 * jj + 0))))))] H := hP
      have hD : va_D A [(h0, .inr (5, [.ref m0, .ref m1, .ref m2, .ref m3, .ref m4, .ref m5, .ref m6, .ref m7, .ref m8, .ref m9, .ref m10, .ref m11, .int nb, .int dy, .int pd, .int ow, .int th])), (m7, .inl (G.2.1 0, 20, .inl (upd lf jj 0))), (m9, .inl (G.2.1 0, 20, .inl (upd gn jj ((gn jj) + (lf jj))))), (m5, .inl (G.2.1 0, 20, .inl (upd bs jj sg))), (m6, .inl (G.2.1 0, 20, .inl (upd bm jj 1))), (m8, .inl (G.2.1 0, 20, .inl lc)), (m11, .inl (G.2.1 0, 80, .inl (upd bo (4 * jj + 1) ((bo (4 * jj + 1)) + (bo (4 * jj + 0))))))] := hD
      refine lv_aload_n hx hb dX3_measures_100 rfl (lv_at hl 3 rfl) ?_
      refine va_get (D := G.1) (ci := 5) (v := .ref m11) (C := RX3) (T := TX3) (N := 17) hx hb hts wsi_X3_measures_X3 hown hK hP 0 rfl rfl 11 (by decide) (hts (.fieldLink "CellarschedulerModel" 43 "CellarschedulerModel" "bottles" "[I") (List.mem_of_getElem? (i := 4) (by decide +kernel))) (fun _ h9 => h9) rfl dX3_measures_101 ?_
      refine lv_iconst (v := 4) hx hb dX3_measures_104 (by decide) ?_
      refine lv_iload_n hx hb dX3_measures_105 rfl (lv_at hl 4 rfl) ?_
      refine lv_imul hx hb dX3_measures_106 ?_
      refine zTop (v := nI (4 * jj)) (show (4 * (nI jj) : Int32) = nI (4 * jj) from pk_mul 4 jj) ?_
      refine lv_iload hx hb dX3_measures_107 (lv_at hl 1 rfl) ?_
      refine lv_iadd hx hb dX3_measures_109 ?_
      refine zTop (v := nI (4 * jj + 0)) (show ((nI (4 * jj)) + 0 : Int32) = nI (4 * jj + 0) from nI_add (4 * jj) 0) ?_
      refine lv_iconst (v := 0) hx hb dX3_measures_110 (by decide) ?_
      refine zIast hx hb hK hP hD hS 6 rfl (4 * jj + 0) rfl (by omega) (by decide) dX3_measures_111 (fun H locs hP hD hS => ?_)
      have hP : zP G [(h0, .inr (5, [.ref m0, .ref m1, .ref m2, .ref m3, .ref m4, .ref m5, .ref m6, .ref m7, .ref m8, .ref m9, .ref m10, .ref m11, .int nb, .int dy, .int pd, .int ow, .int th])), (m7, .inl (G.2.1 0, 20, .inl (upd lf jj 0))), (m9, .inl (G.2.1 0, 20, .inl (upd gn jj ((gn jj) + (lf jj))))), (m5, .inl (G.2.1 0, 20, .inl (upd bs jj sg))), (m6, .inl (G.2.1 0, 20, .inl (upd bm jj 1))), (m8, .inl (G.2.1 0, 20, .inl lc)), (m11, .inl (G.2.1 0, 80, .inl (upd (upd bo (4 * jj + 1) ((bo (4 * jj + 1)) + (bo (4 * jj + 0)))) (4 * jj + 0) 0)))] H := hP
      have hD : va_D A [(h0, .inr (5, [.ref m0, .ref m1, .ref m2, .ref m3, .ref m4, .ref m5, .ref m6, .ref m7, .ref m8, .ref m9, .ref m10, .ref m11, .int nb, .int dy, .int pd, .int ow, .int th])), (m7, .inl (G.2.1 0, 20, .inl (upd lf jj 0))), (m9, .inl (G.2.1 0, 20, .inl (upd gn jj ((gn jj) + (lf jj))))), (m5, .inl (G.2.1 0, 20, .inl (upd bs jj sg))), (m6, .inl (G.2.1 0, 20, .inl (upd bm jj 1))), (m8, .inl (G.2.1 0, 20, .inl lc)), (m11, .inl (G.2.1 0, 80, .inl (upd (upd bo (4 * jj + 1) ((bo (4 * jj + 1)) + (bo (4 * jj + 0)))) (4 * jj + 0) 0)))] := hD
      refine lv_iinc (v := 1) (lv' := [(5, .int 1), (4, .int (0 + ((bo (4 * jj + 0)) * 2))), (3, .int 1), (0, .ref h0), (1, .int (nI jj)), (2, .int sg)]) hx hb dX3_measures_112 hl (k := 1) rfl (by decide) (by decide) rfl (fun ls hl => ?_)
      refine lv_goto (tgt := 41) hx hb dX3_measures_115 (by decide) ?_
      refine lv_iload hx hb dX3_measures_41 (lv_at hl 0 rfl) ?_
      refine lv_iload_n hx hb dX3_measures_43 rfl (lv_at hl 2 rfl) ?_
      refine lv_icmp_ge (tgt := 118) hx hb dX3_measures_44 (by decide) (fun c_14 => ?_) (fun c_14 => absurd (by decide) c_14)
      refine lv_aload_n hx hb dX3_measures_118 rfl (lv_at hl 3 rfl) ?_
      refine lv_dup hx hb dX3_measures_119 rfl ?_
      refine va_get (D := G.1) (ci := 5) (v := .int ow) (C := RX3) (T := TX3) (N := 17) hx hb hts wsi_X3_measures_X3 hown hK hP 0 rfl rfl 15 (by decide) (hts (.fieldLink "CellarschedulerModel" 101 "CellarschedulerModel" "owed" "I") (List.mem_of_getElem? (i := 5) (by decide +kernel))) (fun _ h9 => h9) rfl dX3_measures_120 ?_
      refine lv_iload hx hb dX3_measures_123 (lv_at hl 1 rfl) ?_
      refine lv_iadd hx hb dX3_measures_125 ?_
      refine va_put (D := G.1) (ci := 5) (v := .int (ow + (0 + ((bo (4 * jj + 0)) * 2)))) (ty := .int) (C := RX3) (T := TX3) (N := 17) hx hb hts wsi_X3_measures_X3 tyX3 tyX3_ok nmX3 hown hK hP hD hS 0 rfl rfl 15 (by decide) (hts (.fieldLink "CellarschedulerModel" 101 "CellarschedulerModel" "owed" "I") (List.mem_of_getElem? (i := 5) (by decide +kernel))) (fun _ h9 => h9) rfl (by decide +kernel) rfl rfl (Nat.le_of_ble_eq_true rfl) dX3_measures_126 (fun H locs hP hD hS => ?_)
      have hP : zP G [(h0, .inr (5, [.ref m0, .ref m1, .ref m2, .ref m3, .ref m4, .ref m5, .ref m6, .ref m7, .ref m8, .ref m9, .ref m10, .ref m11, .int nb, .int dy, .int pd, .int (ow + (0 + ((bo (4 * jj + 0)) * 2))), .int th])), (m7, .inl (G.2.1 0, 20, .inl (upd lf jj 0))), (m9, .inl (G.2.1 0, 20, .inl (upd gn jj ((gn jj) + (lf jj))))), (m5, .inl (G.2.1 0, 20, .inl (upd bs jj sg))), (m6, .inl (G.2.1 0, 20, .inl (upd bm jj 1))), (m8, .inl (G.2.1 0, 20, .inl lc)), (m11, .inl (G.2.1 0, 80, .inl (upd (upd bo (4 * jj + 1) ((bo (4 * jj + 1)) + (bo (4 * jj + 0)))) (4 * jj + 0) 0)))] H := hP
      have hD : va_D A [(h0, .inr (5, [.ref m0, .ref m1, .ref m2, .ref m3, .ref m4, .ref m5, .ref m6, .ref m7, .ref m8, .ref m9, .ref m10, .ref m11, .int nb, .int dy, .int pd, .int (ow + (0 + ((bo (4 * jj + 0)) * 2))), .int th])), (m7, .inl (G.2.1 0, 20, .inl (upd lf jj 0))), (m9, .inl (G.2.1 0, 20, .inl (upd gn jj ((gn jj) + (lf jj))))), (m5, .inl (G.2.1 0, 20, .inl (upd bs jj sg))), (m6, .inl (G.2.1 0, 20, .inl (upd bm jj 1))), (m8, .inl (G.2.1 0, 20, .inl lc)), (m11, .inl (G.2.1 0, 80, .inl (upd (upd bo (4 * jj + 1) ((bo (4 * jj + 1)) + (bo (4 * jj + 0)))) (4 * jj + 0) 0)))] := hD
      refine lv_iload hx hb dX3_measures_129 (lv_at hl 1 rfl) ?_
      exact zWi (upd lf jj 0, upd gn jj ((gn jj) + (lf jj)), upd (upd bo (4 * jj + 1) ((bo (4 * jj + 1)) + (bo (4 * jj + 0)))) (4 * jj + 0) 0, ow + (0 + ((bo (4 * jj + 0)) * 2))) hx hb hr hlocks rfl ⟨(by rw [f_X3_measures, if_neg hn_7, if_pos hs_1, if_neg c_8]), (by rw [f_X3_measures_lf, if_neg hn_7, if_pos hs_1, if_neg c_8]), (by rw [f_X3_measures_gn, if_neg hn_7, if_pos hs_1, if_neg c_8]), (by rw [f_X3_measures_bo, if_neg hn_7, if_pos hs_1, if_neg c_8]), (by rw [f_X3_measures_ow, if_neg hn_7, if_pos hs_1, if_neg c_8])⟩ hP hD hK hS (z_pick (n := 7) [0, 3, 4, 1, 5, 2, 6] [] rfl (by decide) rfl rfl) (Nat.le_of_ble_eq_true rfl) (Nat.le_of_ble_eq_true rfl) dX3_measures_131
  · have hn_15 : ¬ (f_X3_classOf sg) = 0 := by rw [hs_1]; decide
    have hn_16 : ¬ (f_X3_classOf sg) = 1 := by rw [hs_1]; decide
    refine zTop (v := 2) hs_1 ?_
    refine lv_istore_n (lv' := [(3, .int 2), (0, .ref h0), (1, .int (nI jj)), (2, .int sg)]) hx hb dX3_measures_5 rfl hl (by decide) rfl (fun ls hl => ?_)
    refine lv_aload_n hx hb dX3_measures_6 rfl (lv_at hl 1 rfl) ?_
    refine va_get (D := G.1) (ci := 5) (v := .ref m5) (C := RX3) (T := TX3) (N := 17) hx hb hts wsi_X3_measures_X3 hown hK hP 0 rfl rfl 5 (by decide) (hts (.fieldLink "CellarschedulerModel" 25 "CellarschedulerModel" "bs" "[I") (List.mem_of_getElem? (i := 1) (by decide +kernel))) (fun _ h9 => h9) rfl dX3_measures_7 ?_
    refine lv_iload_n hx hb dX3_measures_10 rfl (lv_at hl 2 rfl) ?_
    refine lv_iload_n hx hb dX3_measures_11 rfl (lv_at hl 3 rfl) ?_
    refine zIast hx hb hK hP hD hS 1 rfl jj rfl (by omega) (by decide) dX3_measures_12 (fun H locs hP hD hS => ?_)
    have hP : zP G [(h0, .inr (5, [.ref m0, .ref m1, .ref m2, .ref m3, .ref m4, .ref m5, .ref m6, .ref m7, .ref m8, .ref m9, .ref m10, .ref m11, .int nb, .int dy, .int pd, .int ow, .int th])), (m5, .inl (G.2.1 0, 20, .inl (upd bs jj sg))), (m6, .inl (G.2.1 0, 20, .inl bm)), (m7, .inl (G.2.1 0, 20, .inl lf)), (m8, .inl (G.2.1 0, 20, .inl lc)), (m9, .inl (G.2.1 0, 20, .inl gn)), (m11, .inl (G.2.1 0, 80, .inl bo))] H := hP
    have hD : va_D A [(h0, .inr (5, [.ref m0, .ref m1, .ref m2, .ref m3, .ref m4, .ref m5, .ref m6, .ref m7, .ref m8, .ref m9, .ref m10, .ref m11, .int nb, .int dy, .int pd, .int ow, .int th])), (m5, .inl (G.2.1 0, 20, .inl (upd bs jj sg))), (m6, .inl (G.2.1 0, 20, .inl bm)), (m7, .inl (G.2.1 0, 20, .inl lf)), (m8, .inl (G.2.1 0, 20, .inl lc)), (m9, .inl (G.2.1 0, 20, .inl gn)), (m11, .inl (G.2.1 0, 80, .inl bo))] := hD
    refine lv_aload_n hx hb dX3_measures_13 rfl (lv_at hl 1 rfl) ?_
    refine va_get (D := G.1) (ci := 5) (v := .ref m6) (C := RX3) (T := TX3) (N := 17) hx hb hts wsi_X3_measures_X3 hown hK hP 0 rfl rfl 6 (by decide) (hts (.fieldLink "CellarschedulerModel" 28 "CellarschedulerModel" "bm" "[I") (List.mem_of_getElem? (i := 2) (by decide +kernel))) (fun _ h9 => h9) rfl dX3_measures_14 ?_
    refine lv_iload_n hx hb dX3_measures_17 rfl (lv_at hl 2 rfl) ?_
    refine lv_iconst (v := 1) hx hb dX3_measures_18 (by decide) ?_
    refine zIast hx hb hK hP hD hS 2 rfl jj rfl (by omega) (by decide) dX3_measures_19 (fun H locs hP hD hS => ?_)
    have hP : zP G [(h0, .inr (5, [.ref m0, .ref m1, .ref m2, .ref m3, .ref m4, .ref m5, .ref m6, .ref m7, .ref m8, .ref m9, .ref m10, .ref m11, .int nb, .int dy, .int pd, .int ow, .int th])), (m5, .inl (G.2.1 0, 20, .inl (upd bs jj sg))), (m6, .inl (G.2.1 0, 20, .inl (upd bm jj 1))), (m7, .inl (G.2.1 0, 20, .inl lf)), (m8, .inl (G.2.1 0, 20, .inl lc)), (m9, .inl (G.2.1 0, 20, .inl gn)), (m11, .inl (G.2.1 0, 80, .inl bo))] H := hP
    have hD : va_D A [(h0, .inr (5, [.ref m0, .ref m1, .ref m2, .ref m3, .ref m4, .ref m5, .ref m6, .ref m7, .ref m8, .ref m9, .ref m10, .ref m11, .int nb, .int dy, .int pd, .int ow, .int th])), (m5, .inl (G.2.1 0, 20, .inl (upd bs jj sg))), (m6, .inl (G.2.1 0, 20, .inl (upd bm jj 1))), (m7, .inl (G.2.1 0, 20, .inl lf)), (m8, .inl (G.2.1 0, 20, .inl lc)), (m9, .inl (G.2.1 0, 20, .inl gn)), (m11, .inl (G.2.1 0, 80, .inl bo))] := hD
    refine lv_iload_n hx hb dX3_measures_20 rfl (lv_at hl 0 rfl) ?_
    refine lv_aload_n hx hb dX3_measures_21 rfl (lv_at hl 1 rfl) ?_
    refine va_get (D := G.1) (ci := 5) (v := .ref m8) (C := RX3) (T := TX3) (N := 17) hx hb hts wsi_X3_measures_X3 hown hK hP 0 rfl rfl 8 (by decide) (hts (.fieldLink "CellarschedulerModel" 34 "CellarschedulerModel" "leftClass" "[I") (List.mem_of_getElem? (i := 3) (by decide +kernel))) (fun _ h9 => h9) rfl dX3_measures_22 ?_
    refine lv_iload_n hx hb dX3_measures_25 rfl (lv_at hl 2 rfl) ?_
    refine zIald hx hb hK hP 4 rfl jj rfl (by omega) (by decide) dX3_measures_26 ?_
    refine lv_icmp_le (tgt := 35) hx hb dX3_measures_27 (by decide) (fun c_17 => ?_) (fun c_17 => ?_)
    · refine lv_iconst (v := 0) hx hb dX3_measures_35 (by decide) ?_
      refine lv_istore (lv' := [(4, .int 0), (3, .int 2), (0, .ref h0), (1, .int (nI jj)), (2, .int sg)]) hx hb dX3_measures_36 hl (by decide) rfl (fun ls hl => ?_)
      refine lv_iconst (v := 0) hx hb dX3_measures_38 (by decide) ?_
      refine lv_istore (lv' := [(5, .int 0), (4, .int 0), (3, .int 2), (0, .ref h0), (1, .int (nI jj)), (2, .int sg)]) hx hb dX3_measures_39 hl (by decide) rfl (fun ls hl => ?_)
      refine lv_iload hx hb dX3_measures_41 (lv_at hl 0 rfl) ?_
      refine lv_iload_n hx hb dX3_measures_43 rfl (lv_at hl 2 rfl) ?_
      refine lv_icmp_ge (tgt := 118) hx hb dX3_measures_44 (by decide) (fun c_18 => absurd c_18 (by decide)) (fun c_18 => ?_)
      refine lv_iload hx hb dX3_measures_47 (lv_at hl 1 rfl) ?_
      refine lv_aload_n hx hb dX3_measures_49 rfl (lv_at hl 3 rfl) ?_
      refine va_get (D := G.1) (ci := 5) (v := .ref m11) (C := RX3) (T := TX3) (N := 17) hx hb hts wsi_X3_measures_X3 hown hK hP 0 rfl rfl 11 (by decide) (hts (.fieldLink "CellarschedulerModel" 43 "CellarschedulerModel" "bottles" "[I") (List.mem_of_getElem? (i := 4) (by decide +kernel))) (fun _ h9 => h9) rfl dX3_measures_50 ?_
      refine lv_iconst (v := 4) hx hb dX3_measures_53 (by decide) ?_
      refine lv_iload_n hx hb dX3_measures_54 rfl (lv_at hl 4 rfl) ?_
      refine lv_imul hx hb dX3_measures_55 ?_
      refine zTop (v := nI (4 * jj)) (show (4 * (nI jj) : Int32) = nI (4 * jj) from pk_mul 4 jj) ?_
      refine lv_iload hx hb dX3_measures_56 (lv_at hl 0 rfl) ?_
      refine lv_iadd hx hb dX3_measures_58 ?_
      refine zTop (v := nI (4 * jj + 0)) (show ((nI (4 * jj)) + 0 : Int32) = nI (4 * jj + 0) from nI_add (4 * jj) 0) ?_
      refine zIald hx hb hK hP 6 rfl (4 * jj + 0) rfl (by omega) (by decide) dX3_measures_59 ?_
      refine lv_aload_n hx hb dX3_measures_60 rfl (lv_at hl 3 rfl) ?_
      refine lv_iload_n hx hb dX3_measures_61 rfl (lv_at hl 2 rfl) ?_
      refine zCi (r := f_X3_stamp 2) (va_runV (As := [.int 2]) (rest := [.int (bo (4 * jj + 0)), .int 0]) ⟨hx, hb, hml, hown, hts⟩ (c_X3_stamp l G H.size h0 m0 m1 m2 m3 m4 m5 m6 m7 m8 m9 m10 m11 nb dy pd ow th 2) (cwV 1 hts gX3_measures_X3_stamp rfl rfl rfl (by decide +kernel) ⟨(Nat.le_of_ble_eq_true rfl), (Nat.le_of_ble_eq_true rfl)⟩) (zPreV hE hS hA hP hD hK (z_pick (n := 7) [0] [1, 2, 3, 4, 5, 6] rfl (by decide) rfl rfl) (va_recv hK hP (ci := 5) (q0 := 0) rfl rfl)) rfl rfl hl.1 rfl (lv_room (Nat.le_of_ble_eq_true rfl)) dX3_measures_62 ⟨(Nat.le_of_ble_eq_true rfl), (Nat.le_of_ble_eq_true rfl)⟩).run ?_
      refine zTop (v := 6) (by decide +kernel) ?_
      refine lv_aload_n hx hb dX3_measures_65 rfl (lv_at hl 3 rfl) ?_
      refine lv_iload hx hb dX3_measures_66 (lv_at hl 0 rfl) ?_
      refine zCi (r := f_X3_stamp 0) (va_runV (As := [.int 0]) (rest := [.int 6, .int (bo (4 * jj + 0)), .int 0]) ⟨hx, hb, hml, hown, hts⟩ (c_X3_stamp l G H.size h0 m0 m1 m2 m3 m4 m5 m6 m7 m8 m9 m10 m11 nb dy pd ow th 0) (cwV 1 hts gX3_measures_X3_stamp rfl rfl rfl (by decide +kernel) ⟨(Nat.le_of_ble_eq_true rfl), (Nat.le_of_ble_eq_true rfl)⟩) (zPreV hE hS hA hP hD hK (z_pick (n := 7) [0] [1, 2, 3, 4, 5, 6] rfl (by decide) rfl rfl) (va_recv hK hP (ci := 5) (q0 := 0) rfl rfl)) rfl rfl hl.1 rfl (lv_room (Nat.le_of_ble_eq_true rfl)) dX3_measures_68 ⟨(Nat.le_of_ble_eq_true rfl), (Nat.le_of_ble_eq_true rfl)⟩).run ?_
      refine zTop (v := 1) (by decide +kernel) ?_
      refine lv_isub hx hb dX3_measures_71 ?_
      refine zTop (v := 5) (by decide) ?_
      refine lv_imul hx hb dX3_measures_72 ?_
      refine lv_iadd hx hb dX3_measures_73 ?_
      refine lv_istore (lv' := [(4, .int (0 + ((bo (4 * jj + 0)) * 5))), (5, .int 0), (3, .int 2), (0, .ref h0), (1, .int (nI jj)), (2, .int sg)]) hx hb dX3_measures_74 hl (by decide) rfl (fun ls hl => ?_)
      refine lv_aload_n hx hb dX3_measures_76 rfl (lv_at hl 3 rfl) ?_
      refine va_get (D := G.1) (ci := 5) (v := .ref m11) (C := RX3) (T := TX3) (N := 17) hx hb hts wsi_X3_measures_X3 hown hK hP 0 rfl rfl 11 (by decide) (hts (.fieldLink "CellarschedulerModel" 43 "CellarschedulerModel" "bottles" "[I") (List.mem_of_getElem? (i := 4) (by decide +kernel))) (fun _ h9 => h9) rfl dX3_measures_77 ?_
      refine lv_iconst (v := 4) hx hb dX3_measures_80 (by decide) ?_
      refine lv_iload_n hx hb dX3_measures_81 rfl (lv_at hl 4 rfl) ?_
      refine lv_imul hx hb dX3_measures_82 ?_
      refine zTop (v := nI (4 * jj)) (show (4 * (nI jj) : Int32) = nI (4 * jj) from pk_mul 4 jj) ?_
      refine lv_iload_n hx hb dX3_measures_83 rfl (lv_at hl 2 rfl) ?_
      refine lv_iadd hx hb dX3_measures_84 ?_
      refine zTop (v := nI (4 * jj + 2)) (show ((nI (4 * jj)) + 2 : Int32) = nI (4 * jj + 2) from nI_add (4 * jj) 2) ?_
      refine lv_dup2_11 hx hb dX3_measures_85 rfl rfl ?_
      refine zIald hx hb hK hP 6 rfl (4 * jj + 2) rfl (by omega) (by decide) dX3_measures_86 ?_
      refine lv_aload_n hx hb dX3_measures_87 rfl (lv_at hl 3 rfl) ?_
      refine va_get (D := G.1) (ci := 5) (v := .ref m11) (C := RX3) (T := TX3) (N := 17) hx hb hts wsi_X3_measures_X3 hown hK hP 0 rfl rfl 11 (by decide) (hts (.fieldLink "CellarschedulerModel" 43 "CellarschedulerModel" "bottles" "[I") (List.mem_of_getElem? (i := 4) (by decide +kernel))) (fun _ h9 => h9) rfl dX3_measures_88 ?_
      refine lv_iconst (v := 4) hx hb dX3_measures_91 (by decide) ?_
      refine lv_iload_n hx hb dX3_measures_92 rfl (lv_at hl 4 rfl) ?_
      refine lv_imul hx hb dX3_measures_93 ?_
      refine zTop (v := nI (4 * jj)) (show (4 * (nI jj) : Int32) = nI (4 * jj) from pk_mul 4 jj) ?_
      refine lv_iload hx hb dX3_measures_94 (lv_at hl 1 rfl) ?_
      refine lv_iadd hx hb dX3_measures_96 ?_
      refine zTop (v := nI (4 * jj + 0)) (show ((nI (4 * jj)) + 0 : Int32) = nI (4 * jj + 0) from nI_add (4 * jj) 0) ?_
      refine zIald hx hb hK hP 6 rfl (4 * jj + 0) rfl (by omega) (by decide) dX3_measures_97 ?_
      refine lv_iadd hx hb dX3_measures_98 ?_
      refine zIast hx hb hK hP hD hS 6 rfl (4 * jj + 2) rfl (by omega) (by decide) dX3_measures_99 (fun H locs hP hD hS => ?_)
      have hP : zP G [(h0, .inr (5, [.ref m0, .ref m1, .ref m2, .ref m3, .ref m4, .ref m5, .ref m6, .ref m7, .ref m8, .ref m9, .ref m10, .ref m11, .int nb, .int dy, .int pd, .int ow, .int th])), (m5, .inl (G.2.1 0, 20, .inl (upd bs jj sg))), (m6, .inl (G.2.1 0, 20, .inl (upd bm jj 1))), (m7, .inl (G.2.1 0, 20, .inl lf)), (m8, .inl (G.2.1 0, 20, .inl lc)), (m9, .inl (G.2.1 0, 20, .inl gn)), (m11, .inl (G.2.1 0, 80, .inl (upd bo (4 * jj + 2) ((bo (4 * jj + 2)) + (bo (4 * jj + 0))))))] H := hP
      have hD : va_D A [(h0, .inr (5, [.ref m0, .ref m1, .ref m2, .ref m3, .ref m4, .ref m5, .ref m6, .ref m7, .ref m8, .ref m9, .ref m10, .ref m11, .int nb, .int dy, .int pd, .int ow, .int th])), (m5, .inl (G.2.1 0, 20, .inl (upd bs jj sg))), (m6, .inl (G.2.1 0, 20, .inl (upd bm jj 1))), (m7, .inl (G.2.1 0, 20, .inl lf)), (m8, .inl (G.2.1 0, 20, .inl lc)), (m9, .inl (G.2.1 0, 20, .inl gn)), (m11, .inl (G.2.1 0, 80, .inl (upd bo (4 * jj + 2) ((bo (4 * jj + 2)) + (bo (4 * jj + 0))))))] := hD
      refine lv_aload_n hx hb dX3_measures_100 rfl (lv_at hl 3 rfl) ?_
      refine va_get (D := G.1) (ci := 5) (v := .ref m11) (C := RX3) (T := TX3) (N := 17) hx hb hts wsi_X3_measures_X3 hown hK hP 0 rfl rfl 11 (by decide) (hts (.fieldLink "CellarschedulerModel" 43 "CellarschedulerModel" "bottles" "[I") (List.mem_of_getElem? (i := 4) (by decide +kernel))) (fun _ h9 => h9) rfl dX3_measures_101 ?_
      refine lv_iconst (v := 4) hx hb dX3_measures_104 (by decide) ?_
      refine lv_iload_n hx hb dX3_measures_105 rfl (lv_at hl 4 rfl) ?_
      refine lv_imul hx hb dX3_measures_106 ?_
      refine zTop (v := nI (4 * jj)) (show (4 * (nI jj) : Int32) = nI (4 * jj) from pk_mul 4 jj) ?_
      refine lv_iload hx hb dX3_measures_107 (lv_at hl 1 rfl) ?_
      refine lv_iadd hx hb dX3_measures_109 ?_
      refine zTop (v := nI (4 * jj + 0)) (show ((nI (4 * jj)) + 0 : Int32) = nI (4 * jj + 0) from nI_add (4 * jj) 0) ?_
      refine lv_iconst (v := 0) hx hb dX3_measures_110 (by decide) ?_
      refine zIast hx hb hK hP hD hS 6 rfl (4 * jj + 0) rfl (by omega) (by decide) dX3_measures_111 (fun H locs hP hD hS => ?_)
      have hP : zP G [(h0, .inr (5, [.ref m0, .ref m1, .ref m2, .ref m3, .ref m4, .ref m5, .ref m6, .ref m7, .ref m8, .ref m9, .ref m10, .ref m11, .int nb, .int dy, .int pd, .int ow, .int th])), (m5, .inl (G.2.1 0, 20, .inl (upd bs jj sg))), (m6, .inl (G.2.1 0, 20, .inl (upd bm jj 1))), (m7, .inl (G.2.1 0, 20, .inl lf)), (m8, .inl (G.2.1 0, 20, .inl lc)), (m9, .inl (G.2.1 0, 20, .inl gn)), (m11, .inl (G.2.1 0, 80, .inl (upd (upd bo (4 * jj + 2) ((bo (4 * jj + 2)) + (bo (4 * jj + 0)))) (4 * jj + 0) 0)))] H := hP
      have hD : va_D A [(h0, .inr (5, [.ref m0, .ref m1, .ref m2, .ref m3, .ref m4, .ref m5, .ref m6, .ref m7, .ref m8, .ref m9, .ref m10, .ref m11, .int nb, .int dy, .int pd, .int ow, .int th])), (m5, .inl (G.2.1 0, 20, .inl (upd bs jj sg))), (m6, .inl (G.2.1 0, 20, .inl (upd bm jj 1))), (m7, .inl (G.2.1 0, 20, .inl lf)), (m8, .inl (G.2.1 0, 20, .inl lc)), (m9, .inl (G.2.1 0, 20, .inl gn)), (m11, .inl (G.2.1 0, 80, .inl (upd (upd bo (4 * jj + 2) ((bo (4 * jj + 2)) + (bo (4 * jj + 0)))) (4 * jj + 0) 0)))] := hD
      refine lv_iinc (v := 1) (lv' := [(5, .int 1), (4, .int (0 + ((bo (4 * jj + 0)) * 5))), (3, .int 2), (0, .ref h0), (1, .int (nI jj)), (2, .int sg)]) hx hb dX3_measures_112 hl (k := 1) rfl (by decide) (by decide) rfl (fun ls hl => ?_)
      refine lv_goto (tgt := 41) hx hb dX3_measures_115 (by decide) ?_
      refine lv_iload hx hb dX3_measures_41 (lv_at hl 0 rfl) ?_
      refine lv_iload_n hx hb dX3_measures_43 rfl (lv_at hl 2 rfl) ?_
      refine lv_icmp_ge (tgt := 118) hx hb dX3_measures_44 (by decide) (fun c_19 => absurd c_19 (by decide)) (fun c_19 => ?_)
      refine lv_iload hx hb dX3_measures_47 (lv_at hl 1 rfl) ?_
      refine lv_aload_n hx hb dX3_measures_49 rfl (lv_at hl 3 rfl) ?_
      refine va_get (D := G.1) (ci := 5) (v := .ref m11) (C := RX3) (T := TX3) (N := 17) hx hb hts wsi_X3_measures_X3 hown hK hP 0 rfl rfl 11 (by decide) (hts (.fieldLink "CellarschedulerModel" 43 "CellarschedulerModel" "bottles" "[I") (List.mem_of_getElem? (i := 4) (by decide +kernel))) (fun _ h9 => h9) rfl dX3_measures_50 ?_
      refine lv_iconst (v := 4) hx hb dX3_measures_53 (by decide) ?_
      refine lv_iload_n hx hb dX3_measures_54 rfl (lv_at hl 4 rfl) ?_
      refine lv_imul hx hb dX3_measures_55 ?_
      refine zTop (v := nI (4 * jj)) (show (4 * (nI jj) : Int32) = nI (4 * jj) from pk_mul 4 jj) ?_
      refine lv_iload hx hb dX3_measures_56 (lv_at hl 0 rfl) ?_
      refine lv_iadd hx hb dX3_measures_58 ?_
      refine zTop (v := nI (4 * jj + 1)) (show ((nI (4 * jj)) + 1 : Int32) = nI (4 * jj + 1) from nI_add (4 * jj) 1) ?_
      refine zIald hx hb hK hP 6 rfl (4 * jj + 1) rfl (by omega) (by decide) dX3_measures_59 ?_
      refine lv_aload_n hx hb dX3_measures_60 rfl (lv_at hl 3 rfl) ?_
      refine lv_iload_n hx hb dX3_measures_61 rfl (lv_at hl 2 rfl) ?_
      refine zCi (r := f_X3_stamp 2) (va_runV (As := [.int 2]) (rest := [.int ((upd (upd bo (4 * jj + 2) ((bo (4 * jj + 2)) + (bo (4 * jj + 0)))) (4 * jj + 0) 0) (4 * jj + 1)), .int (0 + ((bo (4 * jj + 0)) * 5))]) ⟨hx, hb, hml, hown, hts⟩ (c_X3_stamp l G H.size h0 m0 m1 m2 m3 m4 m5 m6 m7 m8 m9 m10 m11 nb dy pd ow th 2) (cwV 1 hts gX3_measures_X3_stamp rfl rfl rfl (by decide +kernel) ⟨(Nat.le_of_ble_eq_true rfl), (Nat.le_of_ble_eq_true rfl)⟩) (zPreV hE hS hA hP hD hK (z_pick (n := 7) [0] [1, 2, 3, 4, 5, 6] rfl (by decide) rfl rfl) (va_recv hK hP (ci := 5) (q0 := 0) rfl rfl)) rfl rfl hl.1 rfl (lv_room (Nat.le_of_ble_eq_true rfl)) dX3_measures_62 ⟨(Nat.le_of_ble_eq_true rfl), (Nat.le_of_ble_eq_true rfl)⟩).run ?_
      refine zTop (v := 6) (by decide +kernel) ?_
      refine lv_aload_n hx hb dX3_measures_65 rfl (lv_at hl 3 rfl) ?_
      refine lv_iload hx hb dX3_measures_66 (lv_at hl 0 rfl) ?_
      refine zCi (r := f_X3_stamp 1) (va_runV (As := [.int 1]) (rest := [.int 6, .int ((upd (upd bo (4 * jj + 2) ((bo (4 * jj + 2)) + (bo (4 * jj + 0)))) (4 * jj + 0) 0) (4 * jj + 1)), .int (0 + ((bo (4 * jj + 0)) * 5))]) ⟨hx, hb, hml, hown, hts⟩ (c_X3_stamp l G H.size h0 m0 m1 m2 m3 m4 m5 m6 m7 m8 m9 m10 m11 nb dy pd ow th 1) (cwV 1 hts gX3_measures_X3_stamp rfl rfl rfl (by decide +kernel) ⟨(Nat.le_of_ble_eq_true rfl), (Nat.le_of_ble_eq_true rfl)⟩) (zPreV hE hS hA hP hD hK (z_pick (n := 7) [0] [1, 2, 3, 4, 5, 6] rfl (by decide) rfl rfl) (va_recv hK hP (ci := 5) (q0 := 0) rfl rfl)) rfl rfl hl.1 rfl (lv_room (Nat.le_of_ble_eq_true rfl)) dX3_measures_68 ⟨(Nat.le_of_ble_eq_true rfl), (Nat.le_of_ble_eq_true rfl)⟩).run ?_
      refine zTop (v := 3) (by decide +kernel) ?_
      refine lv_isub hx hb dX3_measures_71 ?_
      refine zTop (v := 3) (by decide) ?_
      refine lv_imul hx hb dX3_measures_72 ?_
      refine lv_iadd hx hb dX3_measures_73 ?_
      refine lv_istore (lv' := [(4, .int ((0 + ((bo (4 * jj + 0)) * 5)) + (((upd (upd bo (4 * jj + 2) ((bo (4 * jj + 2)) + (bo (4 * jj + 0)))) (4 * jj + 0) 0) (4 * jj + 1)) * 3))), (5, .int 1), (3, .int 2), (0, .ref h0), (1, .int (nI jj)), (2, .int sg)]) hx hb dX3_measures_74 hl (by decide) rfl (fun ls hl => ?_)
      refine lv_aload_n hx hb dX3_measures_76 rfl (lv_at hl 3 rfl) ?_
      refine va_get (D := G.1) (ci := 5) (v := .ref m11) (C := RX3) (T := TX3) (N := 17) hx hb hts wsi_X3_measures_X3 hown hK hP 0 rfl rfl 11 (by decide) (hts (.fieldLink "CellarschedulerModel" 43 "CellarschedulerModel" "bottles" "[I") (List.mem_of_getElem? (i := 4) (by decide +kernel))) (fun _ h9 => h9) rfl dX3_measures_77 ?_
      refine lv_iconst (v := 4) hx hb dX3_measures_80 (by decide) ?_
      refine lv_iload_n hx hb dX3_measures_81 rfl (lv_at hl 4 rfl) ?_
      refine lv_imul hx hb dX3_measures_82 ?_
      refine zTop (v := nI (4 * jj)) (show (4 * (nI jj) : Int32) = nI (4 * jj) from pk_mul 4 jj) ?_
      refine lv_iload_n hx hb dX3_measures_83 rfl (lv_at hl 2 rfl) ?_
      refine lv_iadd hx hb dX3_measures_84 ?_
      refine zTop (v := nI (4 * jj + 2)) (show ((nI (4 * jj)) + 2 : Int32) = nI (4 * jj + 2) from nI_add (4 * jj) 2) ?_
      refine lv_dup2_11 hx hb dX3_measures_85 rfl rfl ?_
      refine zIald hx hb hK hP 6 rfl (4 * jj + 2) rfl (by omega) (by decide) dX3_measures_86 ?_
      refine lv_aload_n hx hb dX3_measures_87 rfl (lv_at hl 3 rfl) ?_
      refine va_get (D := G.1) (ci := 5) (v := .ref m11) (C := RX3) (T := TX3) (N := 17) hx hb hts wsi_X3_measures_X3 hown hK hP 0 rfl rfl 11 (by decide) (hts (.fieldLink "CellarschedulerModel" 43 "CellarschedulerModel" "bottles" "[I") (List.mem_of_getElem? (i := 4) (by decide +kernel))) (fun _ h9 => h9) rfl dX3_measures_88 ?_
      refine lv_iconst (v := 4) hx hb dX3_measures_91 (by decide) ?_
      refine lv_iload_n hx hb dX3_measures_92 rfl (lv_at hl 4 rfl) ?_
      refine lv_imul hx hb dX3_measures_93 ?_
      refine zTop (v := nI (4 * jj)) (show (4 * (nI jj) : Int32) = nI (4 * jj) from pk_mul 4 jj) ?_
      refine lv_iload hx hb dX3_measures_94 (lv_at hl 1 rfl) ?_
      refine lv_iadd hx hb dX3_measures_96 ?_
      refine zTop (v := nI (4 * jj + 1)) (show ((nI (4 * jj)) + 1 : Int32) = nI (4 * jj + 1) from nI_add (4 * jj) 1) ?_
      refine zIald hx hb hK hP 6 rfl (4 * jj + 1) rfl (by omega) (by decide) dX3_measures_97 ?_
      refine lv_iadd hx hb dX3_measures_98 ?_
      refine zIast hx hb hK hP hD hS 6 rfl (4 * jj + 2) rfl (by omega) (by decide) dX3_measures_99 (fun H locs hP hD hS => ?_)
      have hP : zP G [(h0, .inr (5, [.ref m0, .ref m1, .ref m2, .ref m3, .ref m4, .ref m5, .ref m6, .ref m7, .ref m8, .ref m9, .ref m10, .ref m11, .int nb, .int dy, .int pd, .int ow, .int th])), (m5, .inl (G.2.1 0, 20, .inl (upd bs jj sg))), (m6, .inl (G.2.1 0, 20, .inl (upd bm jj 1))), (m7, .inl (G.2.1 0, 20, .inl lf)), (m8, .inl (G.2.1 0, 20, .inl lc)), (m9, .inl (G.2.1 0, 20, .inl gn)), (m11, .inl (G.2.1 0, 80, .inl (upd (upd (upd bo (4 * jj + 2) ((bo (4 * jj + 2)) + (bo (4 * jj + 0)))) (4 * jj + 0) 0) (4 * jj + 2) (((upd (upd bo (4 * jj + 2) ((bo (4 * jj + 2)) + (bo (4 * jj + 0)))) (4 * jj + 0) 0) (4 * jj + 2)) + ((upd (upd bo (4 * jj + 2) ((bo (4 * jj + 2)) + (bo (4 * jj + 0)))) (4 * jj + 0) 0) (4 * jj + 1))))))] H := hP
      have hD : va_D A [(h0, .inr (5, [.ref m0, .ref m1, .ref m2, .ref m3, .ref m4, .ref m5, .ref m6, .ref m7, .ref m8, .ref m9, .ref m10, .ref m11, .int nb, .int dy, .int pd, .int ow, .int th])), (m5, .inl (G.2.1 0, 20, .inl (upd bs jj sg))), (m6, .inl (G.2.1 0, 20, .inl (upd bm jj 1))), (m7, .inl (G.2.1 0, 20, .inl lf)), (m8, .inl (G.2.1 0, 20, .inl lc)), (m9, .inl (G.2.1 0, 20, .inl gn)), (m11, .inl (G.2.1 0, 80, .inl (upd (upd (upd bo (4 * jj + 2) ((bo (4 * jj + 2)) + (bo (4 * jj + 0)))) (4 * jj + 0) 0) (4 * jj + 2) (((upd (upd bo (4 * jj + 2) ((bo (4 * jj + 2)) + (bo (4 * jj + 0)))) (4 * jj + 0) 0) (4 * jj + 2)) + ((upd (upd bo (4 * jj + 2) ((bo (4 * jj + 2)) + (bo (4 * jj + 0)))) (4 * jj + 0) 0) (4 * jj + 1))))))] := hD
      refine lv_aload_n hx hb dX3_measures_100 rfl (lv_at hl 3 rfl) ?_
      refine va_get (D := G.1) (ci := 5) (v := .ref m11) (C := RX3) (T := TX3) (N := 17) hx hb hts wsi_X3_measures_X3 hown hK hP 0 rfl rfl 11 (by decide) (hts (.fieldLink "CellarschedulerModel" 43 "CellarschedulerModel" "bottles" "[I") (List.mem_of_getElem? (i := 4) (by decide +kernel))) (fun _ h9 => h9) rfl dX3_measures_101 ?_
      refine lv_iconst (v := 4) hx hb dX3_measures_104 (by decide) ?_
      refine lv_iload_n hx hb dX3_measures_105 rfl (lv_at hl 4 rfl) ?_
      refine lv_imul hx hb dX3_measures_106 ?_
      refine zTop (v := nI (4 * jj)) (show (4 * (nI jj) : Int32) = nI (4 * jj) from pk_mul 4 jj) ?_
      refine lv_iload hx hb dX3_measures_107 (lv_at hl 1 rfl) ?_
      refine lv_iadd hx hb dX3_measures_109 ?_
      refine zTop (v := nI (4 * jj + 1)) (show ((nI (4 * jj)) + 1 : Int32) = nI (4 * jj + 1) from nI_add (4 * jj) 1) ?_
      refine lv_iconst (v := 0) hx hb dX3_measures_110 (by decide) ?_
      refine zIast hx hb hK hP hD hS 6 rfl (4 * jj + 1) rfl (by omega) (by decide) dX3_measures_111 (fun H locs hP hD hS => ?_)
      have hP : zP G [(h0, .inr (5, [.ref m0, .ref m1, .ref m2, .ref m3, .ref m4, .ref m5, .ref m6, .ref m7, .ref m8, .ref m9, .ref m10, .ref m11, .int nb, .int dy, .int pd, .int ow, .int th])), (m5, .inl (G.2.1 0, 20, .inl (upd bs jj sg))), (m6, .inl (G.2.1 0, 20, .inl (upd bm jj 1))), (m7, .inl (G.2.1 0, 20, .inl lf)), (m8, .inl (G.2.1 0, 20, .inl lc)), (m9, .inl (G.2.1 0, 20, .inl gn)), (m11, .inl (G.2.1 0, 80, .inl (upd (upd (upd (upd bo (4 * jj + 2) ((bo (4 * jj + 2)) + (bo (4 * jj + 0)))) (4 * jj + 0) 0) (4 * jj + 2) (((upd (upd bo (4 * jj + 2) ((bo (4 * jj + 2)) + (bo (4 * jj + 0)))) (4 * jj + 0) 0) (4 * jj + 2)) + ((upd (upd bo (4 * jj + 2) ((bo (4 * jj + 2)) + (bo (4 * jj + 0)))) (4 * jj + 0) 0) (4 * jj + 1)))) (4 * jj + 1) 0)))] H := hP
      have hD : va_D A [(h0, .inr (5, [.ref m0, .ref m1, .ref m2, .ref m3, .ref m4, .ref m5, .ref m6, .ref m7, .ref m8, .ref m9, .ref m10, .ref m11, .int nb, .int dy, .int pd, .int ow, .int th])), (m5, .inl (G.2.1 0, 20, .inl (upd bs jj sg))), (m6, .inl (G.2.1 0, 20, .inl (upd bm jj 1))), (m7, .inl (G.2.1 0, 20, .inl lf)), (m8, .inl (G.2.1 0, 20, .inl lc)), (m9, .inl (G.2.1 0, 20, .inl gn)), (m11, .inl (G.2.1 0, 80, .inl (upd (upd (upd (upd bo (4 * jj + 2) ((bo (4 * jj + 2)) + (bo (4 * jj + 0)))) (4 * jj + 0) 0) (4 * jj + 2) (((upd (upd bo (4 * jj + 2) ((bo (4 * jj + 2)) + (bo (4 * jj + 0)))) (4 * jj + 0) 0) (4 * jj + 2)) + ((upd (upd bo (4 * jj + 2) ((bo (4 * jj + 2)) + (bo (4 * jj + 0)))) (4 * jj + 0) 0) (4 * jj + 1)))) (4 * jj + 1) 0)))] := hD
      refine lv_iinc (v := 2) (lv' := [(5, .int 2), (4, .int ((0 + ((bo (4 * jj + 0)) * 5)) + (((upd (upd bo (4 * jj + 2) ((bo (4 * jj + 2)) + (bo (4 * jj + 0)))) (4 * jj + 0) 0) (4 * jj + 1)) * 3))), (3, .int 2), (0, .ref h0), (1, .int (nI jj)), (2, .int sg)]) hx hb dX3_measures_112 hl (k := 1) rfl (by decide) (by decide) rfl (fun ls hl => ?_)
      refine lv_goto (tgt := 41) hx hb dX3_measures_115 (by decide) ?_
      refine lv_iload hx hb dX3_measures_41 (lv_at hl 0 rfl) ?_
      refine lv_iload_n hx hb dX3_measures_43 rfl (lv_at hl 2 rfl) ?_
      refine lv_icmp_ge (tgt := 118) hx hb dX3_measures_44 (by decide) (fun c_20 => ?_) (fun c_20 => absurd (by decide) c_20)
      refine lv_aload_n hx hb dX3_measures_118 rfl (lv_at hl 3 rfl) ?_
      refine lv_dup hx hb dX3_measures_119 rfl ?_
      refine va_get (D := G.1) (ci := 5) (v := .int ow) (C := RX3) (T := TX3) (N := 17) hx hb hts wsi_X3_measures_X3 hown hK hP 0 rfl rfl 15 (by decide) (hts (.fieldLink "CellarschedulerModel" 101 "CellarschedulerModel" "owed" "I") (List.mem_of_getElem? (i := 5) (by decide +kernel))) (fun _ h9 => h9) rfl dX3_measures_120 ?_
      refine lv_iload hx hb dX3_measures_123 (lv_at hl 1 rfl) ?_
      refine lv_iadd hx hb dX3_measures_125 ?_
      refine va_put (D := G.1) (ci := 5) (v := .int (ow + ((0 + ((bo (4 * jj + 0)) * 5)) + (((upd (upd bo (4 * jj + 2) ((bo (4 * jj + 2)) + (bo (4 * jj + 0)))) (4 * jj + 0) 0) (4 * jj + 1)) * 3)))) (ty := .int) (C := RX3) (T := TX3) (N := 17) hx hb hts wsi_X3_measures_X3 tyX3 tyX3_ok nmX3 hown hK hP hD hS 0 rfl rfl 15 (by decide) (hts (.fieldLink "CellarschedulerModel" 101 "CellarschedulerModel" "owed" "I") (List.mem_of_getElem? (i := 5) (by decide +kernel))) (fun _ h9 => h9) rfl (by decide +kernel) rfl rfl (Nat.le_of_ble_eq_true rfl) dX3_measures_126 (fun H locs hP hD hS => ?_)
      have hP : zP G [(h0, .inr (5, [.ref m0, .ref m1, .ref m2, .ref m3, .ref m4, .ref m5, .ref m6, .ref m7, .ref m8, .ref m9, .ref m10, .ref m11, .int nb, .int dy, .int pd, .int (ow + ((0 + ((bo (4 * jj + 0)) * 5)) + (((upd (upd bo (4 * jj + 2) ((bo (4 * jj + 2)) + (bo (4 * jj + 0)))) (4 * jj + 0) 0) (4 * jj + 1)) * 3))), .int th])), (m5, .inl (G.2.1 0, 20, .inl (upd bs jj sg))), (m6, .inl (G.2.1 0, 20, .inl (upd bm jj 1))), (m7, .inl (G.2.1 0, 20, .inl lf)), (m8, .inl (G.2.1 0, 20, .inl lc)), (m9, .inl (G.2.1 0, 20, .inl gn)), (m11, .inl (G.2.1 0, 80, .inl (upd (upd (upd (upd bo (4 * jj + 2) ((bo (4 * jj + 2)) + (bo (4 * jj + 0)))) (4 * jj + 0) 0) (4 * jj + 2) (((upd (upd bo (4 * jj + 2) ((bo (4 * jj + 2)) + (bo (4 * jj + 0)))) (4 * jj + 0) 0) (4 * jj + 2)) + ((upd (upd bo (4 * jj + 2) ((bo (4 * jj + 2)) + (bo (4 * jj + 0)))) (4 * jj + 0) 0) (4 * jj + 1)))) (4 * jj + 1) 0)))] H := hP
      have hD : va_D A [(h0, .inr (5, [.ref m0, .ref m1, .ref m2, .ref m3, .ref m4, .ref m5, .ref m6, .ref m7, .ref m8, .ref m9, .ref m10, .ref m11, .int nb, .int dy, .int pd, .int (ow + ((0 + ((bo (4 * jj + 0)) * 5)) + (((upd (upd bo (4 * jj + 2) ((bo (4 * jj + 2)) + (bo (4 * jj + 0)))) (4 * jj + 0) 0) (4 * jj + 1)) * 3))), .int th])), (m5, .inl (G.2.1 0, 20, .inl (upd bs jj sg))), (m6, .inl (G.2.1 0, 20, .inl (upd bm jj 1))), (m7, .inl (G.2.1 0, 20, .inl lf)), (m8, .inl (G.2.1 0, 20, .inl lc)), (m9, .inl (G.2.1 0, 20, .inl gn)), (m11, .inl (G.2.1 0, 80, .inl (upd (upd (upd (upd bo (4 * jj + 2) ((bo (4 * jj + 2)) + (bo (4 * jj + 0)))) (4 * jj + 0) 0) (4 * jj + 2) (((upd (upd bo (4 * jj + 2) ((bo (4 * jj + 2)) + (bo (4 * jj + 0)))) (4 * jj + 0) 0) (4 * jj + 2)) + ((upd (upd bo (4 * jj + 2) ((bo (4 * jj + 2)) + (bo (4 * jj + 0)))) (4 * jj + 0) 0) (4 * jj + 1)))) (4 * jj + 1) 0)))] := hD
      refine lv_iload hx hb dX3_measures_129 (lv_at hl 1 rfl) ?_
      exact zWi (lf, gn, upd (upd (upd (upd bo (4 * jj + 2) ((bo (4 * jj + 2)) + (bo (4 * jj + 0)))) (4 * jj + 0) 0) (4 * jj + 2) (((upd (upd bo (4 * jj + 2) ((bo (4 * jj + 2)) + (bo (4 * jj + 0)))) (4 * jj + 0) 0) (4 * jj + 2)) + ((upd (upd bo (4 * jj + 2) ((bo (4 * jj + 2)) + (bo (4 * jj + 0)))) (4 * jj + 0) 0) (4 * jj + 1)))) (4 * jj + 1) 0, ow + ((0 + ((bo (4 * jj + 0)) * 5)) + (((upd (upd bo (4 * jj + 2) ((bo (4 * jj + 2)) + (bo (4 * jj + 0)))) (4 * jj + 0) 0) (4 * jj + 1)) * 3))) hx hb hr hlocks rfl ⟨(by rw [f_X3_measures, if_neg hn_15, if_neg hn_16, if_pos hs_1, if_pos c_17]), (by rw [f_X3_measures_lf, if_neg hn_15, if_neg hn_16, if_pos hs_1, if_pos c_17]), (by rw [f_X3_measures_gn, if_neg hn_15, if_neg hn_16, if_pos hs_1, if_pos c_17]), (by rw [f_X3_measures_bo, if_neg hn_15, if_neg hn_16, if_pos hs_1, if_pos c_17]), (by rw [f_X3_measures_ow, if_neg hn_15, if_neg hn_16, if_pos hs_1, if_pos c_17])⟩ hP hD hK hS (z_pick (n := 7) [0, 1, 2, 3, 4, 5, 6] [] rfl (by decide) rfl rfl) (Nat.le_of_ble_eq_true rfl) (Nat.le_of_ble_eq_true rfl) dX3_measures_131
    · refine lv_aload_n hx hb dX3_measures_30 rfl (lv_at hl 1 rfl) ?_
      refine lv_iload_n hx hb dX3_measures_31 rfl (lv_at hl 2 rfl) ?_
      refine zDv (wr := [(m5, .inl (G.2.1 0, 20, .inl (upd bs jj sg))), (m6, .inl (G.2.1 0, 20, .inl (upd bm jj 1))), (m8, .inl (G.2.1 0, 20, .inl lc)), (m11, .inl (G.2.1 0, 80, .inl bo))]) (va_runV (As := [.int (nI jj)]) (rest := []) ⟨hx, hb, hml, hown, hts⟩ (c_X3_voids l G H.size h0 m0 m1 m2 m3 m4 m5 m6 m7 m8 m9 m10 m11 nb dy pd ow th lf gn jj (by assumption)) (cwV 1 hts gX3_measures_X3_voids rfl rfl rfl (by decide +kernel) ⟨(Nat.le_of_ble_eq_true rfl), (Nat.le_of_ble_eq_true rfl)⟩) (zPreV hE hS hA hP hD hK (z_pick (n := 7) [0, 3, 5] [1, 2, 4, 6] rfl (by decide) rfl rfl) (va_recv hK hP (ci := 5) (q0 := 0) rfl rfl)) rfl rfl hl.1 rfl (lv_room (Nat.le_of_ble_eq_true rfl)) dX3_measures_32 ⟨(Nat.le_of_ble_eq_true rfl), (Nat.le_of_ble_eq_true rfl)⟩) hP hD hS hA (z_pick (n := 7) [0, 3, 5] [1, 2, 4, 6] rfl (by decide) rfl rfl) (fun u_21 H locs hp_22 hP hD hS => ?_)
      have hP : zP G [(h0, .inr (5, [.ref m0, .ref m1, .ref m2, .ref m3, .ref m4, .ref m5, .ref m6, .ref m7, .ref m8, .ref m9, .ref m10, .ref m11, .int nb, .int dy, .int pd, .int ow, .int th])), (m7, .inl (G.2.1 0, 20, .inl (upd lf jj 0))), (m9, .inl (G.2.1 0, 20, .inl (upd gn jj ((gn jj) + (lf jj))))), (m5, .inl (G.2.1 0, 20, .inl (upd bs jj sg))), (m6, .inl (G.2.1 0, 20, .inl (upd bm jj 1))), (m8, .inl (G.2.1 0, 20, .inl lc)), (m11, .inl (G.2.1 0, 80, .inl bo))] H := hP
      have hD : va_D A [(h0, .inr (5, [.ref m0, .ref m1, .ref m2, .ref m3, .ref m4, .ref m5, .ref m6, .ref m7, .ref m8, .ref m9, .ref m10, .ref m11, .int nb, .int dy, .int pd, .int ow, .int th])), (m7, .inl (G.2.1 0, 20, .inl (upd lf jj 0))), (m9, .inl (G.2.1 0, 20, .inl (upd gn jj ((gn jj) + (lf jj))))), (m5, .inl (G.2.1 0, 20, .inl (upd bs jj sg))), (m6, .inl (G.2.1 0, 20, .inl (upd bm jj 1))), (m8, .inl (G.2.1 0, 20, .inl lc)), (m11, .inl (G.2.1 0, 80, .inl bo))] := hD
      refine lv_iconst (v := 0) hx hb dX3_measures_35 (by decide) ?_
      refine lv_istore (lv' := [(4, .int 0), (3, .int 2), (0, .ref h0), (1, .int (nI jj)), (2, .int sg)]) hx hb dX3_measures_36 hl (by decide) rfl (fun ls hl => ?_)
      refine lv_iconst (v := 0) hx hb dX3_measures_38 (by decide) ?_
      refine lv_istore (lv' := [(5, .int 0), (4, .int 0), (3, .int 2), (0, .ref h0), (1, .int (nI jj)), (2, .int sg)]) hx hb dX3_measures_39 hl (by decide) rfl (fun ls hl => ?_)
      refine lv_iload hx hb dX3_measures_41 (lv_at hl 0 rfl) ?_
      refine lv_iload_n hx hb dX3_measures_43 rfl (lv_at hl 2 rfl) ?_
      refine lv_icmp_ge (tgt := 118) hx hb dX3_measures_44 (by decide) (fun c_23 => absurd c_23 (by decide)) (fun c_23 => ?_)
      refine lv_iload hx hb dX3_measures_47 (lv_at hl 1 rfl) ?_
      refine lv_aload_n hx hb dX3_measures_49 rfl (lv_at hl 3 rfl) ?_
      refine va_get (D := G.1) (ci := 5) (v := .ref m11) (C := RX3) (T := TX3) (N := 17) hx hb hts wsi_X3_measures_X3 hown hK hP 0 rfl rfl 11 (by decide) (hts (.fieldLink "CellarschedulerModel" 43 "CellarschedulerModel" "bottles" "[I") (List.mem_of_getElem? (i := 4) (by decide +kernel))) (fun _ h9 => h9) rfl dX3_measures_50 ?_
      refine lv_iconst (v := 4) hx hb dX3_measures_53 (by decide) ?_
      refine lv_iload_n hx hb dX3_measures_54 rfl (lv_at hl 4 rfl) ?_
      refine lv_imul hx hb dX3_measures_55 ?_
      refine zTop (v := nI (4 * jj)) (show (4 * (nI jj) : Int32) = nI (4 * jj) from pk_mul 4 jj) ?_
      refine lv_iload hx hb dX3_measures_56 (lv_at hl 0 rfl) ?_
      refine lv_iadd hx hb dX3_measures_58 ?_
      refine zTop (v := nI (4 * jj + 0)) (show ((nI (4 * jj)) + 0 : Int32) = nI (4 * jj + 0) from nI_add (4 * jj) 0) ?_
      refine zIald hx hb hK hP 6 rfl (4 * jj + 0) rfl (by omega) (by decide) dX3_measures_59 ?_
      refine lv_aload_n hx hb dX3_measures_60 rfl (lv_at hl 3 rfl) ?_
      refine lv_iload_n hx hb dX3_measures_61 rfl (lv_at hl 2 rfl) ?_
      refine zCi (r := f_X3_stamp 2) (va_runV (As := [.int 2]) (rest := [.int (bo (4 * jj + 0)), .int 0]) ⟨hx, hb, hml, hown, hts⟩ (c_X3_stamp l G H.size h0 m0 m1 m2 m3 m4 m5 m6 m7 m8 m9 m10 m11 nb dy pd ow th 2) (cwV 1 hts gX3_measures_X3_stamp rfl rfl rfl (by decide +kernel) ⟨(Nat.le_of_ble_eq_true rfl), (Nat.le_of_ble_eq_true rfl)⟩) (zPreV hE hS hA hP hD hK (z_pick (n := 7) [0] [1, 2, 3, 4, 5, 6] rfl (by decide) rfl rfl) (va_recv hK hP (ci := 5) (q0 := 0) rfl rfl)) rfl rfl hl.1 rfl (lv_room (Nat.le_of_ble_eq_true rfl)) dX3_measures_62 ⟨(Nat.le_of_ble_eq_true rfl), (Nat.le_of_ble_eq_true rfl)⟩).run ?_
      refine zTop (v := 6) (by decide +kernel) ?_
      refine lv_aload_n hx hb dX3_measures_65 rfl (lv_at hl 3 rfl) ?_
      refine lv_iload hx hb dX3_measures_66 (lv_at hl 0 rfl) ?_
      refine zCi (r := f_X3_stamp 0) (va_runV (As := [.int 0]) (rest := [.int 6, .int (bo (4 * jj + 0)), .int 0]) ⟨hx, hb, hml, hown, hts⟩ (c_X3_stamp l G H.size h0 m0 m1 m2 m3 m4 m5 m6 m7 m8 m9 m10 m11 nb dy pd ow th 0) (cwV 1 hts gX3_measures_X3_stamp rfl rfl rfl (by decide +kernel) ⟨(Nat.le_of_ble_eq_true rfl), (Nat.le_of_ble_eq_true rfl)⟩) (zPreV hE hS hA hP hD hK (z_pick (n := 7) [0] [1, 2, 3, 4, 5, 6] rfl (by decide) rfl rfl) (va_recv hK hP (ci := 5) (q0 := 0) rfl rfl)) rfl rfl hl.1 rfl (lv_room (Nat.le_of_ble_eq_true rfl)) dX3_measures_68 ⟨(Nat.le_of_ble_eq_true rfl), (Nat.le_of_ble_eq_true rfl)⟩).run ?_
      refine zTop (v := 1) (by decide +kernel) ?_
      refine lv_isub hx hb dX3_measures_71 ?_
      refine zTop (v := 5) (by decide) ?_
      refine lv_imul hx hb dX3_measures_72 ?_
      refine lv_iadd hx hb dX3_measures_73 ?_
      refine lv_istore (lv' := [(4, .int (0 + ((bo (4 * jj + 0)) * 5))), (5, .int 0), (3, .int 2), (0, .ref h0), (1, .int (nI jj)), (2, .int sg)]) hx hb dX3_measures_74 hl (by decide) rfl (fun ls hl => ?_)
      refine lv_aload_n hx hb dX3_measures_76 rfl (lv_at hl 3 rfl) ?_
      refine va_get (D := G.1) (ci := 5) (v := .ref m11) (C := RX3) (T := TX3) (N := 17) hx hb hts wsi_X3_measures_X3 hown hK hP 0 rfl rfl 11 (by decide) (hts (.fieldLink "CellarschedulerModel" 43 "CellarschedulerModel" "bottles" "[I") (List.mem_of_getElem? (i := 4) (by decide +kernel))) (fun _ h9 => h9) rfl dX3_measures_77 ?_
      refine lv_iconst (v := 4) hx hb dX3_measures_80 (by decide) ?_
      refine lv_iload_n hx hb dX3_measures_81 rfl (lv_at hl 4 rfl) ?_
      refine lv_imul hx hb dX3_measures_82 ?_
      refine zTop (v := nI (4 * jj)) (show (4 * (nI jj) : Int32) = nI (4 * jj) from pk_mul 4 jj) ?_
      refine lv_iload_n hx hb dX3_measures_83 rfl (lv_at hl 2 rfl) ?_
      refine lv_iadd hx hb dX3_measures_84 ?_
      refine zTop (v := nI (4 * jj + 2)) (show ((nI (4 * jj)) + 2 : Int32) = nI (4 * jj + 2) from nI_add (4 * jj) 2) ?_
      refine lv_dup2_11 hx hb dX3_measures_85 rfl rfl ?_
      refine zIald hx hb hK hP 6 rfl (4 * jj + 2) rfl (by omega) (by decide) dX3_measures_86 ?_
      refine lv_aload_n hx hb dX3_measures_87 rfl (lv_at hl 3 rfl) ?_
      refine va_get (D := G.1) (ci := 5) (v := .ref m11) (C := RX3) (T := TX3) (N := 17) hx hb hts wsi_X3_measures_X3 hown hK hP 0 rfl rfl 11 (by decide) (hts (.fieldLink "CellarschedulerModel" 43 "CellarschedulerModel" "bottles" "[I") (List.mem_of_getElem? (i := 4) (by decide +kernel))) (fun _ h9 => h9) rfl dX3_measures_88 ?_
      refine lv_iconst (v := 4) hx hb dX3_measures_91 (by decide) ?_
      refine lv_iload_n hx hb dX3_measures_92 rfl (lv_at hl 4 rfl) ?_
      refine lv_imul hx hb dX3_measures_93 ?_
      refine zTop (v := nI (4 * jj)) (show (4 * (nI jj) : Int32) = nI (4 * jj) from pk_mul 4 jj) ?_
      refine lv_iload hx hb dX3_measures_94 (lv_at hl 1 rfl) ?_
      refine lv_iadd hx hb dX3_measures_96 ?_
      refine zTop (v := nI (4 * jj + 0)) (show ((nI (4 * jj)) + 0 : Int32) = nI (4 * jj + 0) from nI_add (4 * jj) 0) ?_
      refine zIald hx hb hK hP 6 rfl (4 * jj + 0) rfl (by omega) (by decide) dX3_measures_97 ?_
      refine lv_iadd hx hb dX3_measures_98 ?_
      refine zIast hx hb hK hP hD hS 6 rfl (4 * jj + 2) rfl (by omega) (by decide) dX3_measures_99 (fun H locs hP hD hS => ?_)
      have hP : zP G [(h0, .inr (5, [.ref m0, .ref m1, .ref m2, .ref m3, .ref m4, .ref m5, .ref m6, .ref m7, .ref m8, .ref m9, .ref m10, .ref m11, .int nb, .int dy, .int pd, .int ow, .int th])), (m7, .inl (G.2.1 0, 20, .inl (upd lf jj 0))), (m9, .inl (G.2.1 0, 20, .inl (upd gn jj ((gn jj) + (lf jj))))), (m5, .inl (G.2.1 0, 20, .inl (upd bs jj sg))), (m6, .inl (G.2.1 0, 20, .inl (upd bm jj 1))), (m8, .inl (G.2.1 0, 20, .inl lc)), (m11, .inl (G.2.1 0, 80, .inl (upd bo (4 * jj + 2) ((bo (4 * jj + 2)) + (bo (4 * jj + 0))))))] H := hP
      have hD : va_D A [(h0, .inr (5, [.ref m0, .ref m1, .ref m2, .ref m3, .ref m4, .ref m5, .ref m6, .ref m7, .ref m8, .ref m9, .ref m10, .ref m11, .int nb, .int dy, .int pd, .int ow, .int th])), (m7, .inl (G.2.1 0, 20, .inl (upd lf jj 0))), (m9, .inl (G.2.1 0, 20, .inl (upd gn jj ((gn jj) + (lf jj))))), (m5, .inl (G.2.1 0, 20, .inl (upd bs jj sg))), (m6, .inl (G.2.1 0, 20, .inl (upd bm jj 1))), (m8, .inl (G.2.1 0, 20, .inl lc)), (m11, .inl (G.2.1 0, 80, .inl (upd bo (4 * jj + 2) ((bo (4 * jj + 2)) + (bo (4 * jj + 0))))))] := hD
      refine lv_aload_n hx hb dX3_measures_100 rfl (lv_at hl 3 rfl) ?_
      refine va_get (D := G.1) (ci := 5) (v := .ref m11) (C := RX3) (T := TX3) (N := 17) hx hb hts wsi_X3_measures_X3 hown hK hP 0 rfl rfl 11 (by decide) (hts (.fieldLink "CellarschedulerModel" 43 "CellarschedulerModel" "bottles" "[I") (List.mem_of_getElem? (i := 4) (by decide +kernel))) (fun _ h9 => h9) rfl dX3_measures_101 ?_
      refine lv_iconst (v := 4) hx hb dX3_measures_104 (by decide) ?_
      refine lv_iload_n hx hb dX3_measures_105 rfl (lv_at hl 4 rfl) ?_
      refine lv_imul hx hb dX3_measures_106 ?_
      refine zTop (v := nI (4 * jj)) (show (4 * (nI jj) : Int32) = nI (4 * jj) from pk_mul 4 jj) ?_
      refine lv_iload hx hb dX3_measures_107 (lv_at hl 1 rfl) ?_
      refine lv_iadd hx hb dX3_measures_109 ?_
      refine zTop (v := nI (4 * jj + 0)) (show ((nI (4 * jj)) + 0 : Int32) = nI (4 * jj + 0) from nI_add (4 * jj) 0) ?_
      refine lv_iconst (v := 0) hx hb dX3_measures_110 (by decide) ?_
      refine zIast hx hb hK hP hD hS 6 rfl (4 * jj + 0) rfl (by omega) (by decide) dX3_measures_111 (fun H locs hP hD hS => ?_)
      have hP : zP G [(h0, .inr (5, [.ref m0, .ref m1, .ref m2, .ref m3, .ref m4, .ref m5, .ref m6, .ref m7, .ref m8, .ref m9, .ref m10, .ref m11, .int nb, .int dy, .int pd, .int ow, .int th])), (m7, .inl (G.2.1 0, 20, .inl (upd lf jj 0))), (m9, .inl (G.2.1 0, 20, .inl (upd gn jj ((gn jj) + (lf jj))))), (m5, .inl (G.2.1 0, 20, .inl (upd bs jj sg))), (m6, .inl (G.2.1 0, 20, .inl (upd bm jj 1))), (m8, .inl (G.2.1 0, 20, .inl lc)), (m11, .inl (G.2.1 0, 80, .inl (upd (upd bo (4 * jj + 2) ((bo (4 * jj + 2)) + (bo (4 * jj + 0)))) (4 * jj + 0) 0)))] H := hP
      have hD : va_D A [(h0, .inr (5, [.ref m0, .ref m1, .ref m2, .ref m3, .ref m4, .ref m5, .ref m6, .ref m7, .ref m8, .ref m9, .ref m10, .ref m11, .int nb, .int dy, .int pd, .int ow, .int th])), (m7, .inl (G.2.1 0, 20, .inl (upd lf jj 0))), (m9, .inl (G.2.1 0, 20, .inl (upd gn jj ((gn jj) + (lf jj))))), (m5, .inl (G.2.1 0, 20, .inl (upd bs jj sg))), (m6, .inl (G.2.1 0, 20, .inl (upd bm jj 1))), (m8, .inl (G.2.1 0, 20, .inl lc)), (m11, .inl (G.2.1 0, 80, .inl (upd (upd bo (4 * jj + 2) ((bo (4 * jj + 2)) + (bo (4 * jj + 0)))) (4 * jj + 0) 0)))] := hD
      refine lv_iinc (v := 1) (lv' := [(5, .int 1), (4, .int (0 + ((bo (4 * jj + 0)) * 5))), (3, .int 2), (0, .ref h0), (1, .int (nI jj)), (2, .int sg)]) hx hb dX3_measures_112 hl (k := 1) rfl (by decide) (by decide) rfl (fun ls hl => ?_)
      refine lv_goto (tgt := 41) hx hb dX3_measures_115 (by decide) ?_
      refine lv_iload hx hb dX3_measures_41 (lv_at hl 0 rfl) ?_
      refine lv_iload_n hx hb dX3_measures_43 rfl (lv_at hl 2 rfl) ?_
      refine lv_icmp_ge (tgt := 118) hx hb dX3_measures_44 (by decide) (fun c_24 => absurd c_24 (by decide)) (fun c_24 => ?_)
      refine lv_iload hx hb dX3_measures_47 (lv_at hl 1 rfl) ?_
      refine lv_aload_n hx hb dX3_measures_49 rfl (lv_at hl 3 rfl) ?_
      refine va_get (D := G.1) (ci := 5) (v := .ref m11) (C := RX3) (T := TX3) (N := 17) hx hb hts wsi_X3_measures_X3 hown hK hP 0 rfl rfl 11 (by decide) (hts (.fieldLink "CellarschedulerModel" 43 "CellarschedulerModel" "bottles" "[I") (List.mem_of_getElem? (i := 4) (by decide +kernel))) (fun _ h9 => h9) rfl dX3_measures_50 ?_
      refine lv_iconst (v := 4) hx hb dX3_measures_53 (by decide) ?_
      refine lv_iload_n hx hb dX3_measures_54 rfl (lv_at hl 4 rfl) ?_
      refine lv_imul hx hb dX3_measures_55 ?_
      refine zTop (v := nI (4 * jj)) (show (4 * (nI jj) : Int32) = nI (4 * jj) from pk_mul 4 jj) ?_
      refine lv_iload hx hb dX3_measures_56 (lv_at hl 0 rfl) ?_
      refine lv_iadd hx hb dX3_measures_58 ?_
      refine zTop (v := nI (4 * jj + 1)) (show ((nI (4 * jj)) + 1 : Int32) = nI (4 * jj + 1) from nI_add (4 * jj) 1) ?_
      refine zIald hx hb hK hP 6 rfl (4 * jj + 1) rfl (by omega) (by decide) dX3_measures_59 ?_
      refine lv_aload_n hx hb dX3_measures_60 rfl (lv_at hl 3 rfl) ?_
      refine lv_iload_n hx hb dX3_measures_61 rfl (lv_at hl 2 rfl) ?_
      refine zCi (r := f_X3_stamp 2) (va_runV (As := [.int 2]) (rest := [.int ((upd (upd bo (4 * jj + 2) ((bo (4 * jj + 2)) + (bo (4 * jj + 0)))) (4 * jj + 0) 0) (4 * jj + 1)), .int (0 + ((bo (4 * jj + 0)) * 5))]) ⟨hx, hb, hml, hown, hts⟩ (c_X3_stamp l G H.size h0 m0 m1 m2 m3 m4 m5 m6 m7 m8 m9 m10 m11 nb dy pd ow th 2) (cwV 1 hts gX3_measures_X3_stamp rfl rfl rfl (by decide +kernel) ⟨(Nat.le_of_ble_eq_true rfl), (Nat.le_of_ble_eq_true rfl)⟩) (zPreV hE hS hA hP hD hK (z_pick (n := 7) [0] [1, 2, 3, 4, 5, 6] rfl (by decide) rfl rfl) (va_recv hK hP (ci := 5) (q0 := 0) rfl rfl)) rfl rfl hl.1 rfl (lv_room (Nat.le_of_ble_eq_true rfl)) dX3_measures_62 ⟨(Nat.le_of_ble_eq_true rfl), (Nat.le_of_ble_eq_true rfl)⟩).run ?_
      refine zTop (v := 6) (by decide +kernel) ?_
      refine lv_aload_n hx hb dX3_measures_65 rfl (lv_at hl 3 rfl) ?_
      refine lv_iload hx hb dX3_measures_66 (lv_at hl 0 rfl) ?_
      refine zCi (r := f_X3_stamp 1) (va_runV (As := [.int 1]) (rest := [.int 6, .int ((upd (upd bo (4 * jj + 2) ((bo (4 * jj + 2)) + (bo (4 * jj + 0)))) (4 * jj + 0) 0) (4 * jj + 1)), .int (0 + ((bo (4 * jj + 0)) * 5))]) ⟨hx, hb, hml, hown, hts⟩ (c_X3_stamp l G H.size h0 m0 m1 m2 m3 m4 m5 m6 m7 m8 m9 m10 m11 nb dy pd ow th 1) (cwV 1 hts gX3_measures_X3_stamp rfl rfl rfl (by decide +kernel) ⟨(Nat.le_of_ble_eq_true rfl), (Nat.le_of_ble_eq_true rfl)⟩) (zPreV hE hS hA hP hD hK (z_pick (n := 7) [0] [1, 2, 3, 4, 5, 6] rfl (by decide) rfl rfl) (va_recv hK hP (ci := 5) (q0 := 0) rfl rfl)) rfl rfl hl.1 rfl (lv_room (Nat.le_of_ble_eq_true rfl)) dX3_measures_68 ⟨(Nat.le_of_ble_eq_true rfl), (Nat.le_of_ble_eq_true rfl)⟩).run ?_
      refine zTop (v := 3) (by decide +kernel) ?_
      refine lv_isub hx hb dX3_measures_71 ?_
      refine zTop (v := 3) (by decide) ?_
      refine lv_imul hx hb dX3_measures_72 ?_
      refine lv_iadd hx hb dX3_measures_73 ?_
      refine lv_istore (lv' := [(4, .int ((0 + ((bo (4 * jj + 0)) * 5)) + (((upd (upd bo (4 * jj + 2) ((bo (4 * jj + 2)) + (bo (4 * jj + 0)))) (4 * jj + 0) 0) (4 * jj + 1)) * 3))), (5, .int 1), (3, .int 2), (0, .ref h0), (1, .int (nI jj)), (2, .int sg)]) hx hb dX3_measures_74 hl (by decide) rfl (fun ls hl => ?_)
      refine lv_aload_n hx hb dX3_measures_76 rfl (lv_at hl 3 rfl) ?_
      refine va_get (D := G.1) (ci := 5) (v := .ref m11) (C := RX3) (T := TX3) (N := 17) hx hb hts wsi_X3_measures_X3 hown hK hP 0 rfl rfl 11 (by decide) (hts (.fieldLink "CellarschedulerModel" 43 "CellarschedulerModel" "bottles" "[I") (List.mem_of_getElem? (i := 4) (by decide +kernel))) (fun _ h9 => h9) rfl dX3_measures_77 ?_
      refine lv_iconst (v := 4) hx hb dX3_measures_80 (by decide) ?_
      refine lv_iload_n hx hb dX3_measures_81 rfl (lv_at hl 4 rfl) ?_
      refine lv_imul hx hb dX3_measures_82 ?_
      refine zTop (v := nI (4 * jj)) (show (4 * (nI jj) : Int32) = nI (4 * jj) from pk_mul 4 jj) ?_
      refine lv_iload_n hx hb dX3_measures_83 rfl (lv_at hl 2 rfl) ?_
      refine lv_iadd hx hb dX3_measures_84 ?_
      refine zTop (v := nI (4 * jj + 2)) (show ((nI (4 * jj)) + 2 : Int32) = nI (4 * jj + 2) from nI_add (4 * jj) 2) ?_
      refine lv_dup2_11 hx hb dX3_measures_85 rfl rfl ?_
      refine zIald hx hb hK hP 6 rfl (4 * jj + 2) rfl (by omega) (by decide) dX3_measures_86 ?_
      refine lv_aload_n hx hb dX3_measures_87 rfl (lv_at hl 3 rfl) ?_
      refine va_get (D := G.1) (ci := 5) (v := .ref m11) (C := RX3) (T := TX3) (N := 17) hx hb hts wsi_X3_measures_X3 hown hK hP 0 rfl rfl 11 (by decide) (hts (.fieldLink "CellarschedulerModel" 43 "CellarschedulerModel" "bottles" "[I") (List.mem_of_getElem? (i := 4) (by decide +kernel))) (fun _ h9 => h9) rfl dX3_measures_88 ?_
      refine lv_iconst (v := 4) hx hb dX3_measures_91 (by decide) ?_
      refine lv_iload_n hx hb dX3_measures_92 rfl (lv_at hl 4 rfl) ?_
      refine lv_imul hx hb dX3_measures_93 ?_
      refine zTop (v := nI (4 * jj)) (show (4 * (nI jj) : Int32) = nI (4 * jj) from pk_mul 4 jj) ?_
      refine lv_iload hx hb dX3_measures_94 (lv_at hl 1 rfl) ?_
      refine lv_iadd hx hb dX3_measures_96 ?_
      refine zTop (v := nI (4 * jj + 1)) (show ((nI (4 * jj)) + 1 : Int32) = nI (4 * jj + 1) from nI_add (4 * jj) 1) ?_
      refine zIald hx hb hK hP 6 rfl (4 * jj + 1) rfl (by omega) (by decide) dX3_measures_97 ?_
      refine lv_iadd hx hb dX3_measures_98 ?_
      refine zIast hx hb hK hP hD hS 6 rfl (4 * jj + 2) rfl (by omega) (by decide) dX3_measures_99 (fun H locs hP hD hS => ?_)
      have hP : zP G [(h0, .inr (5, [.ref m0, .ref m1, .ref m2, .ref m3, .ref m4, .ref m5, .ref m6, .ref m7, .ref m8, .ref m9, .ref m10, .ref m11, .int nb, .int dy, .int pd, .int ow, .int th])), (m7, .inl (G.2.1 0, 20, .inl (upd lf jj 0))), (m9, .inl (G.2.1 0, 20, .inl (upd gn jj ((gn jj) + (lf jj))))), (m5, .inl (G.2.1 0, 20, .inl (upd bs jj sg))), (m6, .inl (G.2.1 0, 20, .inl (upd bm jj 1))), (m8, .inl (G.2.1 0, 20, .inl lc)), (m11, .inl (G.2.1 0, 80, .inl (upd (upd (upd bo (4 * jj + 2) ((bo (4 * jj + 2)) + (bo (4 * jj + 0)))) (4 * jj + 0) 0) (4 * jj + 2) (((upd (upd bo (4 * jj + 2) ((bo (4 * jj + 2)) + (bo (4 * jj + 0)))) (4 * jj + 0) 0) (4 * jj + 2)) + ((upd (upd bo (4 * jj + 2) ((bo (4 * jj + 2)) + (bo (4 * jj + 0)))) (4 * jj + 0) 0) (4 * jj + 1))))))] H := hP
      have hD : va_D A [(h0, .inr (5, [.ref m0, .ref m1, .ref m2, .ref m3, .ref m4, .ref m5, .ref m6, .ref m7, .ref m8, .ref m9, .ref m10, .ref m11, .int nb, .int dy, .int pd, .int ow, .int th])), (m7, .inl (G.2.1 0, 20, .inl (upd lf jj 0))), (m9, .inl (G.2.1 0, 20, .inl (upd gn jj ((gn jj) + (lf jj))))), (m5, .inl (G.2.1 0, 20, .inl (upd bs jj sg))), (m6, .inl (G.2.1 0, 20, .inl (upd bm jj 1))), (m8, .inl (G.2.1 0, 20, .inl lc)), (m11, .inl (G.2.1 0, 80, .inl (upd (upd (upd bo (4 * jj + 2) ((bo (4 * jj + 2)) + (bo (4 * jj + 0)))) (4 * jj + 0) 0) (4 * jj + 2) (((upd (upd bo (4 * jj + 2) ((bo (4 * jj + 2)) + (bo (4 * jj + 0)))) (4 * jj + 0) 0) (4 * jj + 2)) + ((upd (upd bo (4 * jj + 2) ((bo (4 * jj + 2)) + (bo (4 * jj + 0)))) (4 * jj + 0) 0) (4 * jj + 1))))))] := hD
      refine lv_aload_n hx hb dX3_measures_100 rfl (lv_at hl 3 rfl) ?_
      refine va_get (D := G.1) (ci := 5) (v := .ref m11) (C := RX3) (T := TX3) (N := 17) hx hb hts wsi_X3_measures_X3 hown hK hP 0 rfl rfl 11 (by decide) (hts (.fieldLink "CellarschedulerModel" 43 "CellarschedulerModel" "bottles" "[I") (List.mem_of_getElem? (i := 4) (by decide +kernel))) (fun _ h9 => h9) rfl dX3_measures_101 ?_
      refine lv_iconst (v := 4) hx hb dX3_measures_104 (by decide) ?_
      refine lv_iload_n hx hb dX3_measures_105 rfl (lv_at hl 4 rfl) ?_
      refine lv_imul hx hb dX3_measures_106 ?_
      refine zTop (v := nI (4 * jj)) (show (4 * (nI jj) : Int32) = nI (4 * jj) from pk_mul 4 jj) ?_
      refine lv_iload hx hb dX3_measures_107 (lv_at hl 1 rfl) ?_
      refine lv_iadd hx hb dX3_measures_109 ?_
      refine zTop (v := nI (4 * jj + 1)) (show ((nI (4 * jj)) + 1 : Int32) = nI (4 * jj + 1) from nI_add (4 * jj) 1) ?_
      refine lv_iconst (v := 0) hx hb dX3_measures_110 (by decide) ?_
      refine zIast hx hb hK hP hD hS 6 rfl (4 * jj + 1) rfl (by omega) (by decide) dX3_measures_111 (fun H locs hP hD hS => ?_)
      have hP : zP G [(h0, .inr (5, [.ref m0, .ref m1, .ref m2, .ref m3, .ref m4, .ref m5, .ref m6, .ref m7, .ref m8, .ref m9, .ref m10, .ref m11, .int nb, .int dy, .int pd, .int ow, .int th])), (m7, .inl (G.2.1 0, 20, .inl (upd lf jj 0))), (m9, .inl (G.2.1 0, 20, .inl (upd gn jj ((gn jj) + (lf jj))))), (m5, .inl (G.2.1 0, 20, .inl (upd bs jj sg))), (m6, .inl (G.2.1 0, 20, .inl (upd bm jj 1))), (m8, .inl (G.2.1 0, 20, .inl lc)), (m11, .inl (G.2.1 0, 80, .inl (upd (upd (upd (upd bo (4 * jj + 2) ((bo (4 * jj + 2)) + (bo (4 * jj + 0)))) (4 * jj + 0) 0) (4 * jj + 2) (((upd (upd bo (4 * jj + 2) ((bo (4 * jj + 2)) + (bo (4 * jj + 0)))) (4 * jj + 0) 0) (4 * jj + 2)) + ((upd (upd bo (4 * jj + 2) ((bo (4 * jj + 2)) + (bo (4 * jj + 0)))) (4 * jj + 0) 0) (4 * jj + 1)))) (4 * jj + 1) 0)))] H := hP
      have hD : va_D A [(h0, .inr (5, [.ref m0, .ref m1, .ref m2, .ref m3, .ref m4, .ref m5, .ref m6, .ref m7, .ref m8, .ref m9, .ref m10, .ref m11, .int nb, .int dy, .int pd, .int ow, .int th])), (m7, .inl (G.2.1 0, 20, .inl (upd lf jj 0))), (m9, .inl (G.2.1 0, 20, .inl (upd gn jj ((gn jj) + (lf jj))))), (m5, .inl (G.2.1 0, 20, .inl (upd bs jj sg))), (m6, .inl (G.2.1 0, 20, .inl (upd bm jj 1))), (m8, .inl (G.2.1 0, 20, .inl lc)), (m11, .inl (G.2.1 0, 80, .inl (upd (upd (upd (upd bo (4 * jj + 2) ((bo (4 * jj + 2)) + (bo (4 * jj + 0)))) (4 * jj + 0) 0) (4 * jj + 2) (((upd (upd bo (4 * jj + 2) ((bo (4 * jj + 2)) + (bo (4 * jj + 0)))) (4 * jj + 0) 0) (4 * jj + 2)) + ((upd (upd bo (4 * jj + 2) ((bo (4 * jj + 2)) + (bo (4 * jj + 0)))) (4 * jj + 0) 0) (4 * jj + 1)))) (4 * jj + 1) 0)))] := hD
      refine lv_iinc (v := 2) (lv' := [(5, .int 2), (4, .int ((0 + ((bo (4 * jj + 0)) * 5)) + (((upd (upd bo (4 * jj + 2) ((bo (4 * jj + 2)) + (bo (4 * jj + 0)))) (4 * jj + 0) 0) (4 * jj + 1)) * 3))), (3, .int 2), (0, .ref h0), (1, .int (nI jj)), (2, .int sg)]) hx hb dX3_measures_112 hl (k := 1) rfl (by decide) (by decide) rfl (fun ls hl => ?_)
      refine lv_goto (tgt := 41) hx hb dX3_measures_115 (by decide) ?_
      refine lv_iload hx hb dX3_measures_41 (lv_at hl 0 rfl) ?_
      refine lv_iload_n hx hb dX3_measures_43 rfl (lv_at hl 2 rfl) ?_
      refine lv_icmp_ge (tgt := 118) hx hb dX3_measures_44 (by decide) (fun c_25 => ?_) (fun c_25 => absurd (by decide) c_25)
      refine lv_aload_n hx hb dX3_measures_118 rfl (lv_at hl 3 rfl) ?_
      refine lv_dup hx hb dX3_measures_119 rfl ?_
      refine va_get (D := G.1) (ci := 5) (v := .int ow) (C := RX3) (T := TX3) (N := 17) hx hb hts wsi_X3_measures_X3 hown hK hP 0 rfl rfl 15 (by decide) (hts (.fieldLink "CellarschedulerModel" 101 "CellarschedulerModel" "owed" "I") (List.mem_of_getElem? (i := 5) (by decide +kernel))) (fun _ h9 => h9) rfl dX3_measures_120 ?_
      refine lv_iload hx hb dX3_measures_123 (lv_at hl 1 rfl) ?_
      refine lv_iadd hx hb dX3_measures_125 ?_
      refine va_put (D := G.1) (ci := 5) (v := .int (ow + ((0 + ((bo (4 * jj + 0)) * 5)) + (((upd (upd bo (4 * jj + 2) ((bo (4 * jj + 2)) + (bo (4 * jj + 0)))) (4 * jj + 0) 0) (4 * jj + 1)) * 3)))) (ty := .int) (C := RX3) (T := TX3) (N := 17) hx hb hts wsi_X3_measures_X3 tyX3 tyX3_ok nmX3 hown hK hP hD hS 0 rfl rfl 15 (by decide) (hts (.fieldLink "CellarschedulerModel" 101 "CellarschedulerModel" "owed" "I") (List.mem_of_getElem? (i := 5) (by decide +kernel))) (fun _ h9 => h9) rfl (by decide +kernel) rfl rfl (Nat.le_of_ble_eq_true rfl) dX3_measures_126 (fun H locs hP hD hS => ?_)
      have hP : zP G [(h0, .inr (5, [.ref m0, .ref m1, .ref m2, .ref m3, .ref m4, .ref m5, .ref m6, .ref m7, .ref m8, .ref m9, .ref m10, .ref m11, .int nb, .int dy, .int pd, .int (ow + ((0 + ((bo (4 * jj + 0)) * 5)) + (((upd (upd bo (4 * jj + 2) ((bo (4 * jj + 2)) + (bo (4 * jj + 0)))) (4 * jj + 0) 0) (4 * jj + 1)) * 3))), .int th])), (m7, .inl (G.2.1 0, 20, .inl (upd lf jj 0))), (m9, .inl (G.2.1 0, 20, .inl (upd gn jj ((gn jj) + (lf jj))))), (m5, .inl (G.2.1 0, 20, .inl (upd bs jj sg))), (m6, .inl (G.2.1 0, 20, .inl (upd bm jj 1))), (m8, .inl (G.2.1 0, 20, .inl lc)), (m11, .inl (G.2.1 0, 80, .inl (upd (upd (upd (upd bo (4 * jj + 2) ((bo (4 * jj + 2)) + (bo (4 * jj + 0)))) (4 * jj + 0) 0) (4 * jj + 2) (((upd (upd bo (4 * jj + 2) ((bo (4 * jj + 2)) + (bo (4 * jj + 0)))) (4 * jj + 0) 0) (4 * jj + 2)) + ((upd (upd bo (4 * jj + 2) ((bo (4 * jj + 2)) + (bo (4 * jj + 0)))) (4 * jj + 0) 0) (4 * jj + 1)))) (4 * jj + 1) 0)))] H := hP
      have hD : va_D A [(h0, .inr (5, [.ref m0, .ref m1, .ref m2, .ref m3, .ref m4, .ref m5, .ref m6, .ref m7, .ref m8, .ref m9, .ref m10, .ref m11, .int nb, .int dy, .int pd, .int (ow + ((0 + ((bo (4 * jj + 0)) * 5)) + (((upd (upd bo (4 * jj + 2) ((bo (4 * jj + 2)) + (bo (4 * jj + 0)))) (4 * jj + 0) 0) (4 * jj + 1)) * 3))), .int th])), (m7, .inl (G.2.1 0, 20, .inl (upd lf jj 0))), (m9, .inl (G.2.1 0, 20, .inl (upd gn jj ((gn jj) + (lf jj))))), (m5, .inl (G.2.1 0, 20, .inl (upd bs jj sg))), (m6, .inl (G.2.1 0, 20, .inl (upd bm jj 1))), (m8, .inl (G.2.1 0, 20, .inl lc)), (m11, .inl (G.2.1 0, 80, .inl (upd (upd (upd (upd bo (4 * jj + 2) ((bo (4 * jj + 2)) + (bo (4 * jj + 0)))) (4 * jj + 0) 0) (4 * jj + 2) (((upd (upd bo (4 * jj + 2) ((bo (4 * jj + 2)) + (bo (4 * jj + 0)))) (4 * jj + 0) 0) (4 * jj + 2)) + ((upd (upd bo (4 * jj + 2) ((bo (4 * jj + 2)) + (bo (4 * jj + 0)))) (4 * jj + 0) 0) (4 * jj + 1)))) (4 * jj + 1) 0)))] := hD
      refine lv_iload hx hb dX3_measures_129 (lv_at hl 1 rfl) ?_
      exact zWi (upd lf jj 0, upd gn jj ((gn jj) + (lf jj)), upd (upd (upd (upd bo (4 * jj + 2) ((bo (4 * jj + 2)) + (bo (4 * jj + 0)))) (4 * jj + 0) 0) (4 * jj + 2) (((upd (upd bo (4 * jj + 2) ((bo (4 * jj + 2)) + (bo (4 * jj + 0)))) (4 * jj + 0) 0) (4 * jj + 2)) + ((upd (upd bo (4 * jj + 2) ((bo (4 * jj + 2)) + (bo (4 * jj + 0)))) (4 * jj + 0) 0) (4 * jj + 1)))) (4 * jj + 1) 0, ow + ((0 + ((bo (4 * jj + 0)) * 5)) + (((upd (upd bo (4 * jj + 2) ((bo (4 * jj + 2)) + (bo (4 * jj + 0)))) (4 * jj + 0) 0) (4 * jj + 1)) * 3))) hx hb hr hlocks rfl ⟨(by rw [f_X3_measures, if_neg hn_15, if_neg hn_16, if_pos hs_1, if_neg c_17]), (by rw [f_X3_measures_lf, if_neg hn_15, if_neg hn_16, if_pos hs_1, if_neg c_17]), (by rw [f_X3_measures_gn, if_neg hn_15, if_neg hn_16, if_pos hs_1, if_neg c_17]), (by rw [f_X3_measures_bo, if_neg hn_15, if_neg hn_16, if_pos hs_1, if_neg c_17]), (by rw [f_X3_measures_ow, if_neg hn_15, if_neg hn_16, if_pos hs_1, if_neg c_17])⟩ hP hD hK hS (z_pick (n := 7) [0, 3, 4, 1, 5, 2, 6] [] rfl (by decide) rfl rfl) (Nat.le_of_ble_eq_true rfl) (Nat.le_of_ble_eq_true rfl) dX3_measures_131
  · have hn_26 : ¬ (f_X3_classOf sg) = 0 := by rw [hs_1]; decide
    have hn_27 : ¬ (f_X3_classOf sg) = 1 := by rw [hs_1]; decide
    have hn_28 : ¬ (f_X3_classOf sg) = 2 := by rw [hs_1]; decide
    refine zTop (v := 3) hs_1 ?_
    refine lv_istore_n (lv' := [(3, .int 3), (0, .ref h0), (1, .int (nI jj)), (2, .int sg)]) hx hb dX3_measures_5 rfl hl (by decide) rfl (fun ls hl => ?_)
    refine lv_aload_n hx hb dX3_measures_6 rfl (lv_at hl 1 rfl) ?_
    refine va_get (D := G.1) (ci := 5) (v := .ref m5) (C := RX3) (T := TX3) (N := 17) hx hb hts wsi_X3_measures_X3 hown hK hP 0 rfl rfl 5 (by decide) (hts (.fieldLink "CellarschedulerModel" 25 "CellarschedulerModel" "bs" "[I") (List.mem_of_getElem? (i := 1) (by decide +kernel))) (fun _ h9 => h9) rfl dX3_measures_7 ?_
    refine lv_iload_n hx hb dX3_measures_10 rfl (lv_at hl 2 rfl) ?_
    refine lv_iload_n hx hb dX3_measures_11 rfl (lv_at hl 3 rfl) ?_
    refine zIast hx hb hK hP hD hS 1 rfl jj rfl (by omega) (by decide) dX3_measures_12 (fun H locs hP hD hS => ?_)
    have hP : zP G [(h0, .inr (5, [.ref m0, .ref m1, .ref m2, .ref m3, .ref m4, .ref m5, .ref m6, .ref m7, .ref m8, .ref m9, .ref m10, .ref m11, .int nb, .int dy, .int pd, .int ow, .int th])), (m5, .inl (G.2.1 0, 20, .inl (upd bs jj sg))), (m6, .inl (G.2.1 0, 20, .inl bm)), (m7, .inl (G.2.1 0, 20, .inl lf)), (m8, .inl (G.2.1 0, 20, .inl lc)), (m9, .inl (G.2.1 0, 20, .inl gn)), (m11, .inl (G.2.1 0, 80, .inl bo))] H := hP
    have hD : va_D A [(h0, .inr (5, [.ref m0, .ref m1, .ref m2, .ref m3, .ref m4, .ref m5, .ref m6, .ref m7, .ref m8, .ref m9, .ref m10, .ref m11, .int nb, .int dy, .int pd, .int ow, .int th])), (m5, .inl (G.2.1 0, 20, .inl (upd bs jj sg))), (m6, .inl (G.2.1 0, 20, .inl bm)), (m7, .inl (G.2.1 0, 20, .inl lf)), (m8, .inl (G.2.1 0, 20, .inl lc)), (m9, .inl (G.2.1 0, 20, .inl gn)), (m11, .inl (G.2.1 0, 80, .inl bo))] := hD
    refine lv_aload_n hx hb dX3_measures_13 rfl (lv_at hl 1 rfl) ?_
    refine va_get (D := G.1) (ci := 5) (v := .ref m6) (C := RX3) (T := TX3) (N := 17) hx hb hts wsi_X3_measures_X3 hown hK hP 0 rfl rfl 6 (by decide) (hts (.fieldLink "CellarschedulerModel" 28 "CellarschedulerModel" "bm" "[I") (List.mem_of_getElem? (i := 2) (by decide +kernel))) (fun _ h9 => h9) rfl dX3_measures_14 ?_
    refine lv_iload_n hx hb dX3_measures_17 rfl (lv_at hl 2 rfl) ?_
    refine lv_iconst (v := 1) hx hb dX3_measures_18 (by decide) ?_
    refine zIast hx hb hK hP hD hS 2 rfl jj rfl (by omega) (by decide) dX3_measures_19 (fun H locs hP hD hS => ?_)
    have hP : zP G [(h0, .inr (5, [.ref m0, .ref m1, .ref m2, .ref m3, .ref m4, .ref m5, .ref m6, .ref m7, .ref m8, .ref m9, .ref m10, .ref m11, .int nb, .int dy, .int pd, .int ow, .int th])), (m5, .inl (G.2.1 0, 20, .inl (upd bs jj sg))), (m6, .inl (G.2.1 0, 20, .inl (upd bm jj 1))), (m7, .inl (G.2.1 0, 20, .inl lf)), (m8, .inl (G.2.1 0, 20, .inl lc)), (m9, .inl (G.2.1 0, 20, .inl gn)), (m11, .inl (G.2.1 0, 80, .inl bo))] H := hP
    have hD : va_D A [(h0, .inr (5, [.ref m0, .ref m1, .ref m2, .ref m3, .ref m4, .ref m5, .ref m6, .ref m7, .ref m8, .ref m9, .ref m10, .ref m11, .int nb, .int dy, .int pd, .int ow, .int th])), (m5, .inl (G.2.1 0, 20, .inl (upd bs jj sg))), (m6, .inl (G.2.1 0, 20, .inl (upd bm jj 1))), (m7, .inl (G.2.1 0, 20, .inl lf)), (m8, .inl (G.2.1 0, 20, .inl lc)), (m9, .inl (G.2.1 0, 20, .inl gn)), (m11, .inl (G.2.1 0, 80, .inl bo))] := hD
    refine lv_iload_n hx hb dX3_measures_20 rfl (lv_at hl 0 rfl) ?_
    refine lv_aload_n hx hb dX3_measures_21 rfl (lv_at hl 1 rfl) ?_
    refine va_get (D := G.1) (ci := 5) (v := .ref m8) (C := RX3) (T := TX3) (N := 17) hx hb hts wsi_X3_measures_X3 hown hK hP 0 rfl rfl 8 (by decide) (hts (.fieldLink "CellarschedulerModel" 34 "CellarschedulerModel" "leftClass" "[I") (List.mem_of_getElem? (i := 3) (by decide +kernel))) (fun _ h9 => h9) rfl dX3_measures_22 ?_
    refine lv_iload_n hx hb dX3_measures_25 rfl (lv_at hl 2 rfl) ?_
    refine zIald hx hb hK hP 4 rfl jj rfl (by omega) (by decide) dX3_measures_26 ?_
    refine lv_icmp_le (tgt := 35) hx hb dX3_measures_27 (by decide) (fun c_29 => ?_) (fun c_29 => ?_)
    · refine lv_iconst (v := 0) hx hb dX3_measures_35 (by decide) ?_
      refine lv_istore (lv' := [(4, .int 0), (3, .int 3), (0, .ref h0), (1, .int (nI jj)), (2, .int sg)]) hx hb dX3_measures_36 hl (by decide) rfl (fun ls hl => ?_)
      refine lv_iconst (v := 0) hx hb dX3_measures_38 (by decide) ?_
      refine lv_istore (lv' := [(5, .int 0), (4, .int 0), (3, .int 3), (0, .ref h0), (1, .int (nI jj)), (2, .int sg)]) hx hb dX3_measures_39 hl (by decide) rfl (fun ls hl => ?_)
      refine lv_iload hx hb dX3_measures_41 (lv_at hl 0 rfl) ?_
      refine lv_iload_n hx hb dX3_measures_43 rfl (lv_at hl 2 rfl) ?_
      refine lv_icmp_ge (tgt := 118) hx hb dX3_measures_44 (by decide) (fun c_30 => absurd c_30 (by decide)) (fun c_30 => ?_)
      refine lv_iload hx hb dX3_measures_47 (lv_at hl 1 rfl) ?_
      refine lv_aload_n hx hb dX3_measures_49 rfl (lv_at hl 3 rfl) ?_
      refine va_get (D := G.1) (ci := 5) (v := .ref m11) (C := RX3) (T := TX3) (N := 17) hx hb hts wsi_X3_measures_X3 hown hK hP 0 rfl rfl 11 (by decide) (hts (.fieldLink "CellarschedulerModel" 43 "CellarschedulerModel" "bottles" "[I") (List.mem_of_getElem? (i := 4) (by decide +kernel))) (fun _ h9 => h9) rfl dX3_measures_50 ?_
      refine lv_iconst (v := 4) hx hb dX3_measures_53 (by decide) ?_
      refine lv_iload_n hx hb dX3_measures_54 rfl (lv_at hl 4 rfl) ?_
      refine lv_imul hx hb dX3_measures_55 ?_
      refine zTop (v := nI (4 * jj)) (show (4 * (nI jj) : Int32) = nI (4 * jj) from pk_mul 4 jj) ?_
      refine lv_iload hx hb dX3_measures_56 (lv_at hl 0 rfl) ?_
      refine lv_iadd hx hb dX3_measures_58 ?_
      refine zTop (v := nI (4 * jj + 0)) (show ((nI (4 * jj)) + 0 : Int32) = nI (4 * jj + 0) from nI_add (4 * jj) 0) ?_
      refine zIald hx hb hK hP 6 rfl (4 * jj + 0) rfl (by omega) (by decide) dX3_measures_59 ?_
      refine lv_aload_n hx hb dX3_measures_60 rfl (lv_at hl 3 rfl) ?_
      refine lv_iload_n hx hb dX3_measures_61 rfl (lv_at hl 2 rfl) ?_
      refine zCi (r := f_X3_stamp 3) (va_runV (As := [.int 3]) (rest := [.int (bo (4 * jj + 0)), .int 0]) ⟨hx, hb, hml, hown, hts⟩ (c_X3_stamp l G H.size h0 m0 m1 m2 m3 m4 m5 m6 m7 m8 m9 m10 m11 nb dy pd ow th 3) (cwV 1 hts gX3_measures_X3_stamp rfl rfl rfl (by decide +kernel) ⟨(Nat.le_of_ble_eq_true rfl), (Nat.le_of_ble_eq_true rfl)⟩) (zPreV hE hS hA hP hD hK (z_pick (n := 7) [0] [1, 2, 3, 4, 5, 6] rfl (by decide) rfl rfl) (va_recv hK hP (ci := 5) (q0 := 0) rfl rfl)) rfl rfl hl.1 rfl (lv_room (Nat.le_of_ble_eq_true rfl)) dX3_measures_62 ⟨(Nat.le_of_ble_eq_true rfl), (Nat.le_of_ble_eq_true rfl)⟩).run ?_
      refine zTop (v := 12) (by decide +kernel) ?_
      refine lv_aload_n hx hb dX3_measures_65 rfl (lv_at hl 3 rfl) ?_
      refine lv_iload hx hb dX3_measures_66 (lv_at hl 0 rfl) ?_
      refine zCi (r := f_X3_stamp 0) (va_runV (As := [.int 0]) (rest := [.int 12, .int (bo (4 * jj + 0)), .int 0]) ⟨hx, hb, hml, hown, hts⟩ (c_X3_stamp l G H.size h0 m0 m1 m2 m3 m4 m5 m6 m7 m8 m9 m10 m11 nb dy pd ow th 0) (cwV 1 hts gX3_measures_X3_stamp rfl rfl rfl (by decide +kernel) ⟨(Nat.le_of_ble_eq_true rfl), (Nat.le_of_ble_eq_true rfl)⟩) (zPreV hE hS hA hP hD hK (z_pick (n := 7) [0] [1, 2, 3, 4, 5, 6] rfl (by decide) rfl rfl) (va_recv hK hP (ci := 5) (q0 := 0) rfl rfl)) rfl rfl hl.1 rfl (lv_room (Nat.le_of_ble_eq_true rfl)) dX3_measures_68 ⟨(Nat.le_of_ble_eq_true rfl), (Nat.le_of_ble_eq_true rfl)⟩).run ?_
      refine zTop (v := 1) (by decide +kernel) ?_
      refine lv_isub hx hb dX3_measures_71 ?_
      refine zTop (v := 11) (by decide) ?_
      refine lv_imul hx hb dX3_measures_72 ?_
      refine lv_iadd hx hb dX3_measures_73 ?_
      refine lv_istore (lv' := [(4, .int (0 + ((bo (4 * jj + 0)) * 11))), (5, .int 0), (3, .int 3), (0, .ref h0), (1, .int (nI jj)), (2, .int sg)]) hx hb dX3_measures_74 hl (by decide) rfl (fun ls hl => ?_)
      refine lv_aload_n hx hb dX3_measures_76 rfl (lv_at hl 3 rfl) ?_
      refine va_get (D := G.1) (ci := 5) (v := .ref m11) (C := RX3) (T := TX3) (N := 17) hx hb hts wsi_X3_measures_X3 hown hK hP 0 rfl rfl 11 (by decide) (hts (.fieldLink "CellarschedulerModel" 43 "CellarschedulerModel" "bottles" "[I") (List.mem_of_getElem? (i := 4) (by decide +kernel))) (fun _ h9 => h9) rfl dX3_measures_77 ?_
      refine lv_iconst (v := 4) hx hb dX3_measures_80 (by decide) ?_
      refine lv_iload_n hx hb dX3_measures_81 rfl (lv_at hl 4 rfl) ?_
      refine lv_imul hx hb dX3_measures_82 ?_
      refine zTop (v := nI (4 * jj)) (show (4 * (nI jj) : Int32) = nI (4 * jj) from pk_mul 4 jj) ?_
      refine lv_iload_n hx hb dX3_measures_83 rfl (lv_at hl 2 rfl) ?_
      refine lv_iadd hx hb dX3_measures_84 ?_
      refine zTop (v := nI (4 * jj + 3)) (show ((nI (4 * jj)) + 3 : Int32) = nI (4 * jj + 3) from nI_add (4 * jj) 3) ?_
      refine lv_dup2_11 hx hb dX3_measures_85 rfl rfl ?_
      refine zIald hx hb hK hP 6 rfl (4 * jj + 3) rfl (by omega) (by decide) dX3_measures_86 ?_
      refine lv_aload_n hx hb dX3_measures_87 rfl (lv_at hl 3 rfl) ?_
      refine va_get (D := G.1) (ci := 5) (v := .ref m11) (C := RX3) (T := TX3) (N := 17) hx hb hts wsi_X3_measures_X3 hown hK hP 0 rfl rfl 11 (by decide) (hts (.fieldLink "CellarschedulerModel" 43 "CellarschedulerModel" "bottles" "[I") (List.mem_of_getElem? (i := 4) (by decide +kernel))) (fun _ h9 => h9) rfl dX3_measures_88 ?_
      refine lv_iconst (v := 4) hx hb dX3_measures_91 (by decide) ?_
      refine lv_iload_n hx hb dX3_measures_92 rfl (lv_at hl 4 rfl) ?_
      refine lv_imul hx hb dX3_measures_93 ?_
      refine zTop (v := nI (4 * jj)) (show (4 * (nI jj) : Int32) = nI (4 * jj) from pk_mul 4 jj) ?_
      refine lv_iload hx hb dX3_measures_94 (lv_at hl 1 rfl) ?_
      refine lv_iadd hx hb dX3_measures_96 ?_
      refine zTop (v := nI (4 * jj + 0)) (show ((nI (4 * jj)) + 0 : Int32) = nI (4 * jj + 0) from nI_add (4 * jj) 0) ?_
      refine zIald hx hb hK hP 6 rfl (4 * jj + 0) rfl (by omega) (by decide) dX3_measures_97 ?_
      refine lv_iadd hx hb dX3_measures_98 ?_
      refine zIast hx hb hK hP hD hS 6 rfl (4 * jj + 3) rfl (by omega) (by decide) dX3_measures_99 (fun H locs hP hD hS => ?_)
      have hP : zP G [(h0, .inr (5, [.ref m0, .ref m1, .ref m2, .ref m3, .ref m4, .ref m5, .ref m6, .ref m7, .ref m8, .ref m9, .ref m10, .ref m11, .int nb, .int dy, .int pd, .int ow, .int th])), (m5, .inl (G.2.1 0, 20, .inl (upd bs jj sg))), (m6, .inl (G.2.1 0, 20, .inl (upd bm jj 1))), (m7, .inl (G.2.1 0, 20, .inl lf)), (m8, .inl (G.2.1 0, 20, .inl lc)), (m9, .inl (G.2.1 0, 20, .inl gn)), (m11, .inl (G.2.1 0, 80, .inl (upd bo (4 * jj + 3) ((bo (4 * jj + 3)) + (bo (4 * jj + 0))))))] H := hP
      have hD : va_D A [(h0, .inr (5, [.ref m0, .ref m1, .ref m2, .ref m3, .ref m4, .ref m5, .ref m6, .ref m7, .ref m8, .ref m9, .ref m10, .ref m11, .int nb, .int dy, .int pd, .int ow, .int th])), (m5, .inl (G.2.1 0, 20, .inl (upd bs jj sg))), (m6, .inl (G.2.1 0, 20, .inl (upd bm jj 1))), (m7, .inl (G.2.1 0, 20, .inl lf)), (m8, .inl (G.2.1 0, 20, .inl lc)), (m9, .inl (G.2.1 0, 20, .inl gn)), (m11, .inl (G.2.1 0, 80, .inl (upd bo (4 * jj + 3) ((bo (4 * jj + 3)) + (bo (4 * jj + 0))))))] := hD
      refine lv_aload_n hx hb dX3_measures_100 rfl (lv_at hl 3 rfl) ?_
      refine va_get (D := G.1) (ci := 5) (v := .ref m11) (C := RX3) (T := TX3) (N := 17) hx hb hts wsi_X3_measures_X3 hown hK hP 0 rfl rfl 11 (by decide) (hts (.fieldLink "CellarschedulerModel" 43 "CellarschedulerModel" "bottles" "[I") (List.mem_of_getElem? (i := 4) (by decide +kernel))) (fun _ h9 => h9) rfl dX3_measures_101 ?_
      refine lv_iconst (v := 4) hx hb dX3_measures_104 (by decide) ?_
      refine lv_iload_n hx hb dX3_measures_105 rfl (lv_at hl 4 rfl) ?_
      refine lv_imul hx hb dX3_measures_106 ?_
      refine zTop (v := nI (4 * jj)) (show (4 * (nI jj) : Int32) = nI (4 * jj) from pk_mul 4 jj) ?_
      refine lv_iload hx hb dX3_measures_107 (lv_at hl 1 rfl) ?_
      refine lv_iadd hx hb dX3_measures_109 ?_
      refine zTop (v := nI (4 * jj + 0)) (show ((nI (4 * jj)) + 0 : Int32) = nI (4 * jj + 0) from nI_add (4 * jj) 0) ?_
      refine lv_iconst (v := 0) hx hb dX3_measures_110 (by decide) ?_
      refine zIast hx hb hK hP hD hS 6 rfl (4 * jj + 0) rfl (by omega) (by decide) dX3_measures_111 (fun H locs hP hD hS => ?_)
      have hP : zP G [(h0, .inr (5, [.ref m0, .ref m1, .ref m2, .ref m3, .ref m4, .ref m5, .ref m6, .ref m7, .ref m8, .ref m9, .ref m10, .ref m11, .int nb, .int dy, .int pd, .int ow, .int th])), (m5, .inl (G.2.1 0, 20, .inl (upd bs jj sg))), (m6, .inl (G.2.1 0, 20, .inl (upd bm jj 1))), (m7, .inl (G.2.1 0, 20, .inl lf)), (m8, .inl (G.2.1 0, 20, .inl lc)), (m9, .inl (G.2.1 0, 20, .inl gn)), (m11, .inl (G.2.1 0, 80, .inl (upd (upd bo (4 * jj + 3) ((bo (4 * jj + 3)) + (bo (4 * jj + 0)))) (4 * jj + 0) 0)))] H := hP
      have hD : va_D A [(h0, .inr (5, [.ref m0, .ref m1, .ref m2, .ref m3, .ref m4, .ref m5, .ref m6, .ref m7, .ref m8, .ref m9, .ref m10, .ref m11, .int nb, .int dy, .int pd, .int ow, .int th])), (m5, .inl (G.2.1 0, 20, .inl (upd bs jj sg))), (m6, .inl (G.2.1 0, 20, .inl (upd bm jj 1))), (m7, .inl (G.2.1 0, 20, .inl lf)), (m8, .inl (G.2.1 0, 20, .inl lc)), (m9, .inl (G.2.1 0, 20, .inl gn)), (m11, .inl (G.2.1 0, 80, .inl (upd (upd bo (4 * jj + 3) ((bo (4 * jj + 3)) + (bo (4 * jj + 0)))) (4 * jj + 0) 0)))] := hD
      refine lv_iinc (v := 1) (lv' := [(5, .int 1), (4, .int (0 + ((bo (4 * jj + 0)) * 11))), (3, .int 3), (0, .ref h0), (1, .int (nI jj)), (2, .int sg)]) hx hb dX3_measures_112 hl (k := 1) rfl (by decide) (by decide) rfl (fun ls hl => ?_)
      refine lv_goto (tgt := 41) hx hb dX3_measures_115 (by decide) ?_
      refine lv_iload hx hb dX3_measures_41 (lv_at hl 0 rfl) ?_
      refine lv_iload_n hx hb dX3_measures_43 rfl (lv_at hl 2 rfl) ?_
      refine lv_icmp_ge (tgt := 118) hx hb dX3_measures_44 (by decide) (fun c_31 => absurd c_31 (by decide)) (fun c_31 => ?_)
      refine lv_iload hx hb dX3_measures_47 (lv_at hl 1 rfl) ?_
      refine lv_aload_n hx hb dX3_measures_49 rfl (lv_at hl 3 rfl) ?_
      refine va_get (D := G.1) (ci := 5) (v := .ref m11) (C := RX3) (T := TX3) (N := 17) hx hb hts wsi_X3_measures_X3 hown hK hP 0 rfl rfl 11 (by decide) (hts (.fieldLink "CellarschedulerModel" 43 "CellarschedulerModel" "bottles" "[I") (List.mem_of_getElem? (i := 4) (by decide +kernel))) (fun _ h9 => h9) rfl dX3_measures_50 ?_
      refine lv_iconst (v := 4) hx hb dX3_measures_53 (by decide) ?_
      refine lv_iload_n hx hb dX3_measures_54 rfl (lv_at hl 4 rfl) ?_
      refine lv_imul hx hb dX3_measures_55 ?_
      refine zTop (v := nI (4 * jj)) (show (4 * (nI jj) : Int32) = nI (4 * jj) from pk_mul 4 jj) ?_
      refine lv_iload hx hb dX3_measures_56 (lv_at hl 0 rfl) ?_
      refine lv_iadd hx hb dX3_measures_58 ?_
      refine zTop (v := nI (4 * jj + 1)) (show ((nI (4 * jj)) + 1 : Int32) = nI (4 * jj + 1) from nI_add (4 * jj) 1) ?_
      refine zIald hx hb hK hP 6 rfl (4 * jj + 1) rfl (by omega) (by decide) dX3_measures_59 ?_
      refine lv_aload_n hx hb dX3_measures_60 rfl (lv_at hl 3 rfl) ?_
      refine lv_iload_n hx hb dX3_measures_61 rfl (lv_at hl 2 rfl) ?_
      refine zCi (r := f_X3_stamp 3) (va_runV (As := [.int 3]) (rest := [.int ((upd (upd bo (4 * jj + 3) ((bo (4 * jj + 3)) + (bo (4 * jj + 0)))) (4 * jj + 0) 0) (4 * jj + 1)), .int (0 + ((bo (4 * jj + 0)) * 11))]) ⟨hx, hb, hml, hown, hts⟩ (c_X3_stamp l G H.size h0 m0 m1 m2 m3 m4 m5 m6 m7 m8 m9 m10 m11 nb dy pd ow th 3) (cwV 1 hts gX3_measures_X3_stamp rfl rfl rfl (by decide +kernel) ⟨(Nat.le_of_ble_eq_true rfl), (Nat.le_of_ble_eq_true rfl)⟩) (zPreV hE hS hA hP hD hK (z_pick (n := 7) [0] [1, 2, 3, 4, 5, 6] rfl (by decide) rfl rfl) (va_recv hK hP (ci := 5) (q0 := 0) rfl rfl)) rfl rfl hl.1 rfl (lv_room (Nat.le_of_ble_eq_true rfl)) dX3_measures_62 ⟨(Nat.le_of_ble_eq_true rfl), (Nat.le_of_ble_eq_true rfl)⟩).run ?_
      refine zTop (v := 12) (by decide +kernel) ?_
      refine lv_aload_n hx hb dX3_measures_65 rfl (lv_at hl 3 rfl) ?_
      refine lv_iload hx hb dX3_measures_66 (lv_at hl 0 rfl) ?_
      refine zCi (r := f_X3_stamp 1) (va_runV (As := [.int 1]) (rest := [.int 12, .int ((upd (upd bo (4 * jj + 3) ((bo (4 * jj + 3)) + (bo (4 * jj + 0)))) (4 * jj + 0) 0) (4 * jj + 1)), .int (0 + ((bo (4 * jj + 0)) * 11))]) ⟨hx, hb, hml, hown, hts⟩ (c_X3_stamp l G H.size h0 m0 m1 m2 m3 m4 m5 m6 m7 m8 m9 m10 m11 nb dy pd ow th 1) (cwV 1 hts gX3_measures_X3_stamp rfl rfl rfl (by decide +kernel) ⟨(Nat.le_of_ble_eq_true rfl), (Nat.le_of_ble_eq_true rfl)⟩) (zPreV hE hS hA hP hD hK (z_pick (n := 7) [0] [1, 2, 3, 4, 5, 6] rfl (by decide) rfl rfl) (va_recv hK hP (ci := 5) (q0 := 0) rfl rfl)) rfl rfl hl.1 rfl (lv_room (Nat.le_of_ble_eq_true rfl)) dX3_measures_68 ⟨(Nat.le_of_ble_eq_true rfl), (Nat.le_of_ble_eq_true rfl)⟩).run ?_
      refine zTop (v := 3) (by decide +kernel) ?_
      refine lv_isub hx hb dX3_measures_71 ?_
      refine zTop (v := 9) (by decide) ?_
      refine lv_imul hx hb dX3_measures_72 ?_
      refine lv_iadd hx hb dX3_measures_73 ?_
      refine lv_istore (lv' := [(4, .int ((0 + ((bo (4 * jj + 0)) * 11)) + (((upd (upd bo (4 * jj + 3) ((bo (4 * jj + 3)) + (bo (4 * jj + 0)))) (4 * jj + 0) 0) (4 * jj + 1)) * 9))), (5, .int 1), (3, .int 3), (0, .ref h0), (1, .int (nI jj)), (2, .int sg)]) hx hb dX3_measures_74 hl (by decide) rfl (fun ls hl => ?_)
      refine lv_aload_n hx hb dX3_measures_76 rfl (lv_at hl 3 rfl) ?_
      refine va_get (D := G.1) (ci := 5) (v := .ref m11) (C := RX3) (T := TX3) (N := 17) hx hb hts wsi_X3_measures_X3 hown hK hP 0 rfl rfl 11 (by decide) (hts (.fieldLink "CellarschedulerModel" 43 "CellarschedulerModel" "bottles" "[I") (List.mem_of_getElem? (i := 4) (by decide +kernel))) (fun _ h9 => h9) rfl dX3_measures_77 ?_
      refine lv_iconst (v := 4) hx hb dX3_measures_80 (by decide) ?_
      refine lv_iload_n hx hb dX3_measures_81 rfl (lv_at hl 4 rfl) ?_
      refine lv_imul hx hb dX3_measures_82 ?_
      refine zTop (v := nI (4 * jj)) (show (4 * (nI jj) : Int32) = nI (4 * jj) from pk_mul 4 jj) ?_
      refine lv_iload_n hx hb dX3_measures_83 rfl (lv_at hl 2 rfl) ?_
      refine lv_iadd hx hb dX3_measures_84 ?_
      refine zTop (v := nI (4 * jj + 3)) (show ((nI (4 * jj)) + 3 : Int32) = nI (4 * jj + 3) from nI_add (4 * jj) 3) ?_
      refine lv_dup2_11 hx hb dX3_measures_85 rfl rfl ?_
      refine zIald hx hb hK hP 6 rfl (4 * jj + 3) rfl (by omega) (by decide) dX3_measures_86 ?_
      refine lv_aload_n hx hb dX3_measures_87 rfl (lv_at hl 3 rfl) ?_
      refine va_get (D := G.1) (ci := 5) (v := .ref m11) (C := RX3) (T := TX3) (N := 17) hx hb hts wsi_X3_measures_X3 hown hK hP 0 rfl rfl 11 (by decide) (hts (.fieldLink "CellarschedulerModel" 43 "CellarschedulerModel" "bottles" "[I") (List.mem_of_getElem? (i := 4) (by decide +kernel))) (fun _ h9 => h9) rfl dX3_measures_88 ?_
      refine lv_iconst (v := 4) hx hb dX3_measures_91 (by decide) ?_
      refine lv_iload_n hx hb dX3_measures_92 rfl (lv_at hl 4 rfl) ?_
      refine lv_imul hx hb dX3_measures_93 ?_
      refine zTop (v := nI (4 * jj)) (show (4 * (nI jj) : Int32) = nI (4 * jj) from pk_mul 4 jj) ?_
      refine lv_iload hx hb dX3_measures_94 (lv_at hl 1 rfl) ?_
      refine lv_iadd hx hb dX3_measures_96 ?_
      refine zTop (v := nI (4 * jj + 1)) (show ((nI (4 * jj)) + 1 : Int32) = nI (4 * jj + 1) from nI_add (4 * jj) 1) ?_
      refine zIald hx hb hK hP 6 rfl (4 * jj + 1) rfl (by omega) (by decide) dX3_measures_97 ?_
      refine lv_iadd hx hb dX3_measures_98 ?_
      refine zIast hx hb hK hP hD hS 6 rfl (4 * jj + 3) rfl (by omega) (by decide) dX3_measures_99 (fun H locs hP hD hS => ?_)
      have hP : zP G [(h0, .inr (5, [.ref m0, .ref m1, .ref m2, .ref m3, .ref m4, .ref m5, .ref m6, .ref m7, .ref m8, .ref m9, .ref m10, .ref m11, .int nb, .int dy, .int pd, .int ow, .int th])), (m5, .inl (G.2.1 0, 20, .inl (upd bs jj sg))), (m6, .inl (G.2.1 0, 20, .inl (upd bm jj 1))), (m7, .inl (G.2.1 0, 20, .inl lf)), (m8, .inl (G.2.1 0, 20, .inl lc)), (m9, .inl (G.2.1 0, 20, .inl gn)), (m11, .inl (G.2.1 0, 80, .inl (upd (upd (upd bo (4 * jj + 3) ((bo (4 * jj + 3)) + (bo (4 * jj + 0)))) (4 * jj + 0) 0) (4 * jj + 3) (((upd (upd bo (4 * jj + 3) ((bo (4 * jj + 3)) + (bo (4 * jj + 0)))) (4 * jj + 0) 0) (4 * jj + 3)) + ((upd (upd bo (4 * jj + 3) ((bo (4 * jj + 3)) + (bo (4 * jj + 0)))) (4 * jj + 0) 0) (4 * jj + 1))))))] H := hP
      have hD : va_D A [(h0, .inr (5, [.ref m0, .ref m1, .ref m2, .ref m3, .ref m4, .ref m5, .ref m6, .ref m7, .ref m8, .ref m9, .ref m10, .ref m11, .int nb, .int dy, .int pd, .int ow, .int th])), (m5, .inl (G.2.1 0, 20, .inl (upd bs jj sg))), (m6, .inl (G.2.1 0, 20, .inl (upd bm jj 1))), (m7, .inl (G.2.1 0, 20, .inl lf)), (m8, .inl (G.2.1 0, 20, .inl lc)), (m9, .inl (G.2.1 0, 20, .inl gn)), (m11, .inl (G.2.1 0, 80, .inl (upd (upd (upd bo (4 * jj + 3) ((bo (4 * jj + 3)) + (bo (4 * jj + 0)))) (4 * jj + 0) 0) (4 * jj + 3) (((upd (upd bo (4 * jj + 3) ((bo (4 * jj + 3)) + (bo (4 * jj + 0)))) (4 * jj + 0) 0) (4 * jj + 3)) + ((upd (upd bo (4 * jj + 3) ((bo (4 * jj + 3)) + (bo (4 * jj + 0)))) (4 * jj + 0) 0) (4 * jj + 1))))))] := hD
      refine lv_aload_n hx hb dX3_measures_100 rfl (lv_at hl 3 rfl) ?_
      refine va_get (D := G.1) (ci := 5) (v := .ref m11) (C := RX3) (T := TX3) (N := 17) hx hb hts wsi_X3_measures_X3 hown hK hP 0 rfl rfl 11 (by decide) (hts (.fieldLink "CellarschedulerModel" 43 "CellarschedulerModel" "bottles" "[I") (List.mem_of_getElem? (i := 4) (by decide +kernel))) (fun _ h9 => h9) rfl dX3_measures_101 ?_
      refine lv_iconst (v := 4) hx hb dX3_measures_104 (by decide) ?_
      refine lv_iload_n hx hb dX3_measures_105 rfl (lv_at hl 4 rfl) ?_
      refine lv_imul hx hb dX3_measures_106 ?_
      refine zTop (v := nI (4 * jj)) (show (4 * (nI jj) : Int32) = nI (4 * jj) from pk_mul 4 jj) ?_
      refine lv_iload hx hb dX3_measures_107 (lv_at hl 1 rfl) ?_
      refine lv_iadd hx hb dX3_measures_109 ?_
      refine zTop (v := nI (4 * jj + 1)) (show ((nI (4 * jj)) + 1 : Int32) = nI (4 * jj + 1) from nI_add (4 * jj) 1) ?_
      refine lv_iconst (v := 0) hx hb dX3_measures_110 (by decide) ?_
      refine zIast hx hb hK hP hD hS 6 rfl (4 * jj + 1) rfl (by omega) (by decide) dX3_measures_111 (fun H locs hP hD hS => ?_)
      have hP : zP G [(h0, .inr (5, [.ref m0, .ref m1, .ref m2, .ref m3, .ref m4, .ref m5, .ref m6, .ref m7, .ref m8, .ref m9, .ref m10, .ref m11, .int nb, .int dy, .int pd, .int ow, .int th])), (m5, .inl (G.2.1 0, 20, .inl (upd bs jj sg))), (m6, .inl (G.2.1 0, 20, .inl (upd bm jj 1))), (m7, .inl (G.2.1 0, 20, .inl lf)), (m8, .inl (G.2.1 0, 20, .inl lc)), (m9, .inl (G.2.1 0, 20, .inl gn)), (m11, .inl (G.2.1 0, 80, .inl (upd (upd (upd (upd bo (4 * jj + 3) ((bo (4 * jj + 3)) + (bo (4 * jj + 0)))) (4 * jj + 0) 0) (4 * jj + 3) (((upd (upd bo (4 * jj + 3) ((bo (4 * jj + 3)) + (bo (4 * jj + 0)))) (4 * jj + 0) 0) (4 * jj + 3)) + ((upd (upd bo (4 * jj + 3) ((bo (4 * jj + 3)) + (bo (4 * jj + 0)))) (4 * jj + 0) 0) (4 * jj + 1)))) (4 * jj + 1) 0)))] H := hP
      have hD : va_D A [(h0, .inr (5, [.ref m0, .ref m1, .ref m2, .ref m3, .ref m4, .ref m5, .ref m6, .ref m7, .ref m8, .ref m9, .ref m10, .ref m11, .int nb, .int dy, .int pd, .int ow, .int th])), (m5, .inl (G.2.1 0, 20, .inl (upd bs jj sg))), (m6, .inl (G.2.1 0, 20, .inl (upd bm jj 1))), (m7, .inl (G.2.1 0, 20, .inl lf)), (m8, .inl (G.2.1 0, 20, .inl lc)), (m9, .inl (G.2.1 0, 20, .inl gn)), (m11, .inl (G.2.1 0, 80, .inl (upd (upd (upd (upd bo (4 * jj + 3) ((bo (4 * jj + 3)) + (bo (4 * jj + 0)))) (4 * jj + 0) 0) (4 * jj + 3) (((upd (upd bo (4 * jj + 3) ((bo (4 * jj + 3)) + (bo (4 * jj + 0)))) (4 * jj + 0) 0) (4 * jj + 3)) + ((upd (upd bo (4 * jj + 3) ((bo (4 * jj + 3)) + (bo (4 * jj + 0)))) (4 * jj + 0) 0) (4 * jj + 1)))) (4 * jj + 1) 0)))] := hD
      refine lv_iinc (v := 2) (lv' := [(5, .int 2), (4, .int ((0 + ((bo (4 * jj + 0)) * 11)) + (((upd (upd bo (4 * jj + 3) ((bo (4 * jj + 3)) + (bo (4 * jj + 0)))) (4 * jj + 0) 0) (4 * jj + 1)) * 9))), (3, .int 3), (0, .ref h0), (1, .int (nI jj)), (2, .int sg)]) hx hb dX3_measures_112 hl (k := 1) rfl (by decide) (by decide) rfl (fun ls hl => ?_)
      refine lv_goto (tgt := 41) hx hb dX3_measures_115 (by decide) ?_
      refine lv_iload hx hb dX3_measures_41 (lv_at hl 0 rfl) ?_
      refine lv_iload_n hx hb dX3_measures_43 rfl (lv_at hl 2 rfl) ?_
      refine lv_icmp_ge (tgt := 118) hx hb dX3_measures_44 (by decide) (fun c_32 => absurd c_32 (by decide)) (fun c_32 => ?_)
      refine lv_iload hx hb dX3_measures_47 (lv_at hl 1 rfl) ?_
      refine lv_aload_n hx hb dX3_measures_49 rfl (lv_at hl 3 rfl) ?_
      refine va_get (D := G.1) (ci := 5) (v := .ref m11) (C := RX3) (T := TX3) (N := 17) hx hb hts wsi_X3_measures_X3 hown hK hP 0 rfl rfl 11 (by decide) (hts (.fieldLink "CellarschedulerModel" 43 "CellarschedulerModel" "bottles" "[I") (List.mem_of_getElem? (i := 4) (by decide +kernel))) (fun _ h9 => h9) rfl dX3_measures_50 ?_
      refine lv_iconst (v := 4) hx hb dX3_measures_53 (by decide) ?_
      refine lv_iload_n hx hb dX3_measures_54 rfl (lv_at hl 4 rfl) ?_
      refine lv_imul hx hb dX3_measures_55 ?_
      refine zTop (v := nI (4 * jj)) (show (4 * (nI jj) : Int32) = nI (4 * jj) from pk_mul 4 jj) ?_
      refine lv_iload hx hb dX3_measures_56 (lv_at hl 0 rfl) ?_
      refine lv_iadd hx hb dX3_measures_58 ?_
      refine zTop (v := nI (4 * jj + 2)) (show ((nI (4 * jj)) + 2 : Int32) = nI (4 * jj + 2) from nI_add (4 * jj) 2) ?_
      refine zIald hx hb hK hP 6 rfl (4 * jj + 2) rfl (by omega) (by decide) dX3_measures_59 ?_
      refine lv_aload_n hx hb dX3_measures_60 rfl (lv_at hl 3 rfl) ?_
      refine lv_iload_n hx hb dX3_measures_61 rfl (lv_at hl 2 rfl) ?_
      refine zCi (r := f_X3_stamp 3) (va_runV (As := [.int 3]) (rest := [.int ((upd (upd (upd (upd bo (4 * jj + 3) ((bo (4 * jj + 3)) + (bo (4 * jj + 0)))) (4 * jj + 0) 0) (4 * jj + 3) (((upd (upd bo (4 * jj + 3) ((bo (4 * jj + 3)) + (bo (4 * jj + 0)))) (4 * jj + 0) 0) (4 * jj + 3)) + ((upd (upd bo (4 * jj + 3) ((bo (4 * jj + 3)) + (bo (4 * jj + 0)))) (4 * jj + 0) 0) (4 * jj + 1)))) (4 * jj + 1) 0) (4 * jj + 2)), .int ((0 + ((bo (4 * jj + 0)) * 11)) + (((upd (upd bo (4 * jj + 3) ((bo (4 * jj + 3)) + (bo (4 * jj + 0)))) (4 * jj + 0) 0) (4 * jj + 1)) * 9))]) ⟨hx, hb, hml, hown, hts⟩ (c_X3_stamp l G H.size h0 m0 m1 m2 m3 m4 m5 m6 m7 m8 m9 m10 m11 nb dy pd ow th 3) (cwV 1 hts gX3_measures_X3_stamp rfl rfl rfl (by decide +kernel) ⟨(Nat.le_of_ble_eq_true rfl), (Nat.le_of_ble_eq_true rfl)⟩) (zPreV hE hS hA hP hD hK (z_pick (n := 7) [0] [1, 2, 3, 4, 5, 6] rfl (by decide) rfl rfl) (va_recv hK hP (ci := 5) (q0 := 0) rfl rfl)) rfl rfl hl.1 rfl (lv_room (Nat.le_of_ble_eq_true rfl)) dX3_measures_62 ⟨(Nat.le_of_ble_eq_true rfl), (Nat.le_of_ble_eq_true rfl)⟩).run ?_
      refine zTop (v := 12) (by decide +kernel) ?_
      refine lv_aload_n hx hb dX3_measures_65 rfl (lv_at hl 3 rfl) ?_
      refine lv_iload hx hb dX3_measures_66 (lv_at hl 0 rfl) ?_
      refine zCi (r := f_X3_stamp 2) (va_runV (As := [.int 2]) (rest := [.int 12, .int ((upd (upd (upd (upd bo (4 * jj + 3) ((bo (4 * jj + 3)) + (bo (4 * jj + 0)))) (4 * jj + 0) 0) (4 * jj + 3) (((upd (upd bo (4 * jj + 3) ((bo (4 * jj + 3)) + (bo (4 * jj + 0)))) (4 * jj + 0) 0) (4 * jj + 3)) + ((upd (upd bo (4 * jj + 3) ((bo (4 * jj + 3)) + (bo (4 * jj + 0)))) (4 * jj + 0) 0) (4 * jj + 1)))) (4 * jj + 1) 0) (4 * jj + 2)), .int ((0 + ((bo (4 * jj + 0)) * 11)) + (((upd (upd bo (4 * jj + 3) ((bo (4 * jj + 3)) + (bo (4 * jj + 0)))) (4 * jj + 0) 0) (4 * jj + 1)) * 9))]) ⟨hx, hb, hml, hown, hts⟩ (c_X3_stamp l G H.size h0 m0 m1 m2 m3 m4 m5 m6 m7 m8 m9 m10 m11 nb dy pd ow th 2) (cwV 1 hts gX3_measures_X3_stamp rfl rfl rfl (by decide +kernel) ⟨(Nat.le_of_ble_eq_true rfl), (Nat.le_of_ble_eq_true rfl)⟩) (zPreV hE hS hA hP hD hK (z_pick (n := 7) [0] [1, 2, 3, 4, 5, 6] rfl (by decide) rfl rfl) (va_recv hK hP (ci := 5) (q0 := 0) rfl rfl)) rfl rfl hl.1 rfl (lv_room (Nat.le_of_ble_eq_true rfl)) dX3_measures_68 ⟨(Nat.le_of_ble_eq_true rfl), (Nat.le_of_ble_eq_true rfl)⟩).run ?_
      refine zTop (v := 6) (by decide +kernel) ?_
      refine lv_isub hx hb dX3_measures_71 ?_
      refine zTop (v := 6) (by decide) ?_
      refine lv_imul hx hb dX3_measures_72 ?_
      refine lv_iadd hx hb dX3_measures_73 ?_
      refine lv_istore (lv' := [(4, .int (((0 + ((bo (4 * jj + 0)) * 11)) + (((upd (upd bo (4 * jj + 3) ((bo (4 * jj + 3)) + (bo (4 * jj + 0)))) (4 * jj + 0) 0) (4 * jj + 1)) * 9)) + (((upd (upd (upd (upd bo (4 * jj + 3) ((bo (4 * jj + 3)) + (bo (4 * jj + 0)))) (4 * jj + 0) 0) (4 * jj + 3) (((upd (upd bo (4 * jj + 3) ((bo (4 * jj + 3)) + (bo (4 * jj + 0)))) (4 * jj + 0) 0) (4 * jj + 3)) + ((upd (upd bo (4 * jj + 3) ((bo (4 * jj + 3)) + (bo (4 * jj + 0)))) (4 * jj + 0) 0) (4 * jj + 1)))) (4 * jj + 1) 0) (4 * jj + 2)) * 6))), (5, .int 2), (3, .int 3), (0, .ref h0), (1, .int (nI jj)), (2, .int sg)]) hx hb dX3_measures_74 hl (by decide) rfl (fun ls hl => ?_)
      refine lv_aload_n hx hb dX3_measures_76 rfl (lv_at hl 3 rfl) ?_
      refine va_get (D := G.1) (ci := 5) (v := .ref m11) (C := RX3) (T := TX3) (N := 17) hx hb hts wsi_X3_measures_X3 hown hK hP 0 rfl rfl 11 (by decide) (hts (.fieldLink "CellarschedulerModel" 43 "CellarschedulerModel" "bottles" "[I") (List.mem_of_getElem? (i := 4) (by decide +kernel))) (fun _ h9 => h9) rfl dX3_measures_77 ?_
      refine lv_iconst (v := 4) hx hb dX3_measures_80 (by decide) ?_
      refine lv_iload_n hx hb dX3_measures_81 rfl (lv_at hl 4 rfl) ?_
      refine lv_imul hx hb dX3_measures_82 ?_
      refine zTop (v := nI (4 * jj)) (show (4 * (nI jj) : Int32) = nI (4 * jj) from pk_mul 4 jj) ?_
      refine lv_iload_n hx hb dX3_measures_83 rfl (lv_at hl 2 rfl) ?_
      refine lv_iadd hx hb dX3_measures_84 ?_
      refine zTop (v := nI (4 * jj + 3)) (show ((nI (4 * jj)) + 3 : Int32) = nI (4 * jj + 3) from nI_add (4 * jj) 3) ?_
      refine lv_dup2_11 hx hb dX3_measures_85 rfl rfl ?_
      refine zIald hx hb hK hP 6 rfl (4 * jj + 3) rfl (by omega) (by decide) dX3_measures_86 ?_
      refine lv_aload_n hx hb dX3_measures_87 rfl (lv_at hl 3 rfl) ?_
      refine va_get (D := G.1) (ci := 5) (v := .ref m11) (C := RX3) (T := TX3) (N := 17) hx hb hts wsi_X3_measures_X3 hown hK hP 0 rfl rfl 11 (by decide) (hts (.fieldLink "CellarschedulerModel" 43 "CellarschedulerModel" "bottles" "[I") (List.mem_of_getElem? (i := 4) (by decide +kernel))) (fun _ h9 => h9) rfl dX3_measures_88 ?_
      refine lv_iconst (v := 4) hx hb dX3_measures_91 (by decide) ?_
      refine lv_iload_n hx hb dX3_measures_92 rfl (lv_at hl 4 rfl) ?_
      refine lv_imul hx hb dX3_measures_93 ?_
      refine zTop (v := nI (4 * jj)) (show (4 * (nI jj) : Int32) = nI (4 * jj) from pk_mul 4 jj) ?_
      refine lv_iload hx hb dX3_measures_94 (lv_at hl 1 rfl) ?_
      refine lv_iadd hx hb dX3_measures_96 ?_
      refine zTop (v := nI (4 * jj + 2)) (show ((nI (4 * jj)) + 2 : Int32) = nI (4 * jj + 2) from nI_add (4 * jj) 2) ?_
      refine zIald hx hb hK hP 6 rfl (4 * jj + 2) rfl (by omega) (by decide) dX3_measures_97 ?_
      refine lv_iadd hx hb dX3_measures_98 ?_
      refine zIast hx hb hK hP hD hS 6 rfl (4 * jj + 3) rfl (by omega) (by decide) dX3_measures_99 (fun H locs hP hD hS => ?_)
      have hP : zP G [(h0, .inr (5, [.ref m0, .ref m1, .ref m2, .ref m3, .ref m4, .ref m5, .ref m6, .ref m7, .ref m8, .ref m9, .ref m10, .ref m11, .int nb, .int dy, .int pd, .int ow, .int th])), (m5, .inl (G.2.1 0, 20, .inl (upd bs jj sg))), (m6, .inl (G.2.1 0, 20, .inl (upd bm jj 1))), (m7, .inl (G.2.1 0, 20, .inl lf)), (m8, .inl (G.2.1 0, 20, .inl lc)), (m9, .inl (G.2.1 0, 20, .inl gn)), (m11, .inl (G.2.1 0, 80, .inl (upd (upd (upd (upd (upd bo (4 * jj + 3) ((bo (4 * jj + 3)) + (bo (4 * jj + 0)))) (4 * jj + 0) 0) (4 * jj + 3) (((upd (upd bo (4 * jj + 3) ((bo (4 * jj + 3)) + (bo (4 * jj + 0)))) (4 * jj + 0) 0) (4 * jj + 3)) + ((upd (upd bo (4 * jj + 3) ((bo (4 * jj + 3)) + (bo (4 * jj + 0)))) (4 * jj + 0) 0) (4 * jj + 1)))) (4 * jj + 1) 0) (4 * jj + 3) (((upd (upd (upd (upd bo (4 * jj + 3) ((bo (4 * jj + 3)) + (bo (4 * jj + 0)))) (4 * jj + 0) 0) (4 * jj + 3) (((upd (upd bo (4 * jj + 3) ((bo (4 * jj + 3)) + (bo (4 * jj + 0)))) (4 * jj + 0) 0) (4 * jj + 3)) + ((upd (upd bo (4 * jj + 3) ((bo (4 * jj + 3)) + (bo (4 * jj + 0)))) (4 * jj + 0) 0) (4 * jj + 1)))) (4 * jj + 1) 0) (4 * jj + 3)) + ((upd (upd (upd (upd bo (4 * jj + 3) ((bo (4 * jj + 3)) + (bo (4 * jj + 0)))) (4 * jj + 0) 0) (4 * jj + 3) (((upd (upd bo (4 * jj + 3) ((bo (4 * jj + 3)) + (bo (4 * jj + 0)))) (4 * jj + 0) 0) (4 * jj + 3)) + ((upd (upd bo (4 * jj + 3) ((bo (4 * jj + 3)) + (bo (4 * jj + 0)))) (4 * jj + 0) 0) (4 * jj + 1)))) (4 * jj + 1) 0) (4 * jj + 2))))))] H := hP
      have hD : va_D A [(h0, .inr (5, [.ref m0, .ref m1, .ref m2, .ref m3, .ref m4, .ref m5, .ref m6, .ref m7, .ref m8, .ref m9, .ref m10, .ref m11, .int nb, .int dy, .int pd, .int ow, .int th])), (m5, .inl (G.2.1 0, 20, .inl (upd bs jj sg))), (m6, .inl (G.2.1 0, 20, .inl (upd bm jj 1))), (m7, .inl (G.2.1 0, 20, .inl lf)), (m8, .inl (G.2.1 0, 20, .inl lc)), (m9, .inl (G.2.1 0, 20, .inl gn)), (m11, .inl (G.2.1 0, 80, .inl (upd (upd (upd (upd (upd bo (4 * jj + 3) ((bo (4 * jj + 3)) + (bo (4 * jj + 0)))) (4 * jj + 0) 0) (4 * jj + 3) (((upd (upd bo (4 * jj + 3) ((bo (4 * jj + 3)) + (bo (4 * jj + 0)))) (4 * jj + 0) 0) (4 * jj + 3)) + ((upd (upd bo (4 * jj + 3) ((bo (4 * jj + 3)) + (bo (4 * jj + 0)))) (4 * jj + 0) 0) (4 * jj + 1)))) (4 * jj + 1) 0) (4 * jj + 3) (((upd (upd (upd (upd bo (4 * jj + 3) ((bo (4 * jj + 3)) + (bo (4 * jj + 0)))) (4 * jj + 0) 0) (4 * jj + 3) (((upd (upd bo (4 * jj + 3) ((bo (4 * jj + 3)) + (bo (4 * jj + 0)))) (4 * jj + 0) 0) (4 * jj + 3)) + ((upd (upd bo (4 * jj + 3) ((bo (4 * jj + 3)) + (bo (4 * jj + 0)))) (4 * jj + 0) 0) (4 * jj + 1)))) (4 * jj + 1) 0) (4 * jj + 3)) + ((upd (upd (upd (upd bo (4 * jj + 3) ((bo (4 * jj + 3)) + (bo (4 * jj + 0)))) (4 * jj + 0) 0) (4 * jj + 3) (((upd (upd bo (4 * jj + 3) ((bo (4 * jj + 3)) + (bo (4 * jj + 0)))) (4 * jj + 0) 0) (4 * jj + 3)) + ((upd (upd bo (4 * jj + 3) ((bo (4 * jj + 3)) + (bo (4 * jj + 0)))) (4 * jj + 0) 0) (4 * jj + 1)))) (4 * jj + 1) 0) (4 * jj + 2))))))] := hD
      refine lv_aload_n hx hb dX3_measures_100 rfl (lv_at hl 3 rfl) ?_
      refine va_get (D := G.1) (ci := 5) (v := .ref m11) (C := RX3) (T := TX3) (N := 17) hx hb hts wsi_X3_measures_X3 hown hK hP 0 rfl rfl 11 (by decide) (hts (.fieldLink "CellarschedulerModel" 43 "CellarschedulerModel" "bottles" "[I") (List.mem_of_getElem? (i := 4) (by decide +kernel))) (fun _ h9 => h9) rfl dX3_measures_101 ?_
      refine lv_iconst (v := 4) hx hb dX3_measures_104 (by decide) ?_
      refine lv_iload_n hx hb dX3_measures_105 rfl (lv_at hl 4 rfl) ?_
      refine lv_imul hx hb dX3_measures_106 ?_
      refine zTop (v := nI (4 * jj)) (show (4 * (nI jj) : Int32) = nI (4 * jj) from pk_mul 4 jj) ?_
      refine lv_iload hx hb dX3_measures_107 (lv_at hl 1 rfl) ?_
      refine lv_iadd hx hb dX3_measures_109 ?_
      refine zTop (v := nI (4 * jj + 2)) (show ((nI (4 * jj)) + 2 : Int32) = nI (4 * jj + 2) from nI_add (4 * jj) 2) ?_
      refine lv_iconst (v := 0) hx hb dX3_measures_110 (by decide) ?_
      refine zIast hx hb hK hP hD hS 6 rfl (4 * jj + 2) rfl (by omega) (by decide) dX3_measures_111 (fun H locs hP hD hS => ?_)
      have hP : zP G [(h0, .inr (5, [.ref m0, .ref m1, .ref m2, .ref m3, .ref m4, .ref m5, .ref m6, .ref m7, .ref m8, .ref m9, .ref m10, .ref m11, .int nb, .int dy, .int pd, .int ow, .int th])), (m5, .inl (G.2.1 0, 20, .inl (upd bs jj sg))), (m6, .inl (G.2.1 0, 20, .inl (upd bm jj 1))), (m7, .inl (G.2.1 0, 20, .inl lf)), (m8, .inl (G.2.1 0, 20, .inl lc)), (m9, .inl (G.2.1 0, 20, .inl gn)), (m11, .inl (G.2.1 0, 80, .inl (upd (upd (upd (upd (upd (upd bo (4 * jj + 3) ((bo (4 * jj + 3)) + (bo (4 * jj + 0)))) (4 * jj + 0) 0) (4 * jj + 3) (((upd (upd bo (4 * jj + 3) ((bo (4 * jj + 3)) + (bo (4 * jj + 0)))) (4 * jj + 0) 0) (4 * jj + 3)) + ((upd (upd bo (4 * jj + 3) ((bo (4 * jj + 3)) + (bo (4 * jj + 0)))) (4 * jj + 0) 0) (4 * jj + 1)))) (4 * jj + 1) 0) (4 * jj + 3) (((upd (upd (upd (upd bo (4 * jj + 3) ((bo (4 * jj + 3)) + (bo (4 * jj + 0)))) (4 * jj + 0) 0) (4 * jj + 3) (((upd (upd bo (4 * jj + 3) ((bo (4 * jj + 3)) + (bo (4 * jj + 0)))) (4 * jj + 0) 0) (4 * jj + 3)) + ((upd (upd bo (4 * jj + 3) ((bo (4 * jj + 3)) + (bo (4 * jj + 0)))) (4 * jj + 0) 0) (4 * jj + 1)))) (4 * jj + 1) 0) (4 * jj + 3)) + ((upd (upd (upd (upd bo (4 * jj + 3) ((bo (4 * jj + 3)) + (bo (4 * jj + 0)))) (4 * jj + 0) 0) (4 * jj + 3) (((upd (upd bo (4 * jj + 3) ((bo (4 * jj + 3)) + (bo (4 * jj + 0)))) (4 * jj + 0) 0) (4 * jj + 3)) + ((upd (upd bo (4 * jj + 3) ((bo (4 * jj + 3)) + (bo (4 * jj + 0)))) (4 * jj + 0) 0) (4 * jj + 1)))) (4 * jj + 1) 0) (4 * jj + 2)))) (4 * jj + 2) 0)))] H := hP
      have hD : va_D A [(h0, .inr (5, [.ref m0, .ref m1, .ref m2, .ref m3, .ref m4, .ref m5, .ref m6, .ref m7, .ref m8, .ref m9, .ref m10, .ref m11, .int nb, .int dy, .int pd, .int ow, .int th])), (m5, .inl (G.2.1 0, 20, .inl (upd bs jj sg))), (m6, .inl (G.2.1 0, 20, .inl (upd bm jj 1))), (m7, .inl (G.2.1 0, 20, .inl lf)), (m8, .inl (G.2.1 0, 20, .inl lc)), (m9, .inl (G.2.1 0, 20, .inl gn)), (m11, .inl (G.2.1 0, 80, .inl (upd (upd (upd (upd (upd (upd bo (4 * jj + 3) ((bo (4 * jj + 3)) + (bo (4 * jj + 0)))) (4 * jj + 0) 0) (4 * jj + 3) (((upd (upd bo (4 * jj + 3) ((bo (4 * jj + 3)) + (bo (4 * jj + 0)))) (4 * jj + 0) 0) (4 * jj + 3)) + ((upd (upd bo (4 * jj + 3) ((bo (4 * jj + 3)) + (bo (4 * jj + 0)))) (4 * jj + 0) 0) (4 * jj + 1)))) (4 * jj + 1) 0) (4 * jj + 3) (((upd (upd (upd (upd bo (4 * jj + 3) ((bo (4 * jj + 3)) + (bo (4 * jj + 0)))) (4 * jj + 0) 0) (4 * jj + 3) (((upd (upd bo (4 * jj + 3) ((bo (4 * jj + 3)) + (bo (4 * jj + 0)))) (4 * jj + 0) 0) (4 * jj + 3)) + ((upd (upd bo (4 * jj + 3) ((bo (4 * jj + 3)) + (bo (4 * jj + 0)))) (4 * jj + 0) 0) (4 * jj + 1)))) (4 * jj + 1) 0) (4 * jj + 3)) + ((upd (upd (upd (upd bo (4 * jj + 3) ((bo (4 * jj + 3)) + (bo (4 * jj + 0)))) (4 * jj + 0) 0) (4 * jj + 3) (((upd (upd bo (4 * jj + 3) ((bo (4 * jj + 3)) + (bo (4 * jj + 0)))) (4 * jj + 0) 0) (4 * jj + 3)) + ((upd (upd bo (4 * jj + 3) ((bo (4 * jj + 3)) + (bo (4 * jj + 0)))) (4 * jj + 0) 0) (4 * jj + 1)))) (4 * jj + 1) 0) (4 * jj + 2)))) (4 * jj + 2) 0)))] := hD
      refine lv_iinc (v := 3) (lv' := [(5, .int 3), (4, .int (((0 + ((bo (4 * jj + 0)) * 11)) + (((upd (upd bo (4 * jj + 3) ((bo (4 * jj + 3)) + (bo (4 * jj + 0)))) (4 * jj + 0) 0) (4 * jj + 1)) * 9)) + (((upd (upd (upd (upd bo (4 * jj + 3) ((bo (4 * jj + 3)) + (bo (4 * jj + 0)))) (4 * jj + 0) 0) (4 * jj + 3) (((upd (upd bo (4 * jj + 3) ((bo (4 * jj + 3)) + (bo (4 * jj + 0)))) (4 * jj + 0) 0) (4 * jj + 3)) + ((upd (upd bo (4 * jj + 3) ((bo (4 * jj + 3)) + (bo (4 * jj + 0)))) (4 * jj + 0) 0) (4 * jj + 1)))) (4 * jj + 1) 0) (4 * jj + 2)) * 6))), (3, .int 3), (0, .ref h0), (1, .int (nI jj)), (2, .int sg)]) hx hb dX3_measures_112 hl (k := 1) rfl (by decide) (by decide) rfl (fun ls hl => ?_)
      refine lv_goto (tgt := 41) hx hb dX3_measures_115 (by decide) ?_
      refine lv_iload hx hb dX3_measures_41 (lv_at hl 0 rfl) ?_
      refine lv_iload_n hx hb dX3_measures_43 rfl (lv_at hl 2 rfl) ?_
      refine lv_icmp_ge (tgt := 118) hx hb dX3_measures_44 (by decide) (fun c_33 => ?_) (fun c_33 => absurd (by decide) c_33)
      refine lv_aload_n hx hb dX3_measures_118 rfl (lv_at hl 3 rfl) ?_
      refine lv_dup hx hb dX3_measures_119 rfl ?_
      refine va_get (D := G.1) (ci := 5) (v := .int ow) (C := RX3) (T := TX3) (N := 17) hx hb hts wsi_X3_measures_X3 hown hK hP 0 rfl rfl 15 (by decide) (hts (.fieldLink "CellarschedulerModel" 101 "CellarschedulerModel" "owed" "I") (List.mem_of_getElem? (i := 5) (by decide +kernel))) (fun _ h9 => h9) rfl dX3_measures_120 ?_
      refine lv_iload hx hb dX3_measures_123 (lv_at hl 1 rfl) ?_
      refine lv_iadd hx hb dX3_measures_125 ?_
      refine va_put (D := G.1) (ci := 5) (v := .int (ow + (((0 + ((bo (4 * jj + 0)) * 11)) + (((upd (upd bo (4 * jj + 3) ((bo (4 * jj + 3)) + (bo (4 * jj + 0)))) (4 * jj + 0) 0) (4 * jj + 1)) * 9)) + (((upd (upd (upd (upd bo (4 * jj + 3) ((bo (4 * jj + 3)) + (bo (4 * jj + 0)))) (4 * jj + 0) 0) (4 * jj + 3) (((upd (upd bo (4 * jj + 3) ((bo (4 * jj + 3)) + (bo (4 * jj + 0)))) (4 * jj + 0) 0) (4 * jj + 3)) + ((upd (upd bo (4 * jj + 3) ((bo (4 * jj + 3)) + (bo (4 * jj + 0)))) (4 * jj + 0) 0) (4 * jj + 1)))) (4 * jj + 1) 0) (4 * jj + 2)) * 6)))) (ty := .int) (C := RX3) (T := TX3) (N := 17) hx hb hts wsi_X3_measures_X3 tyX3 tyX3_ok nmX3 hown hK hP hD hS 0 rfl rfl 15 (by decide) (hts (.fieldLink "CellarschedulerModel" 101 "CellarschedulerModel" "owed" "I") (List.mem_of_getElem? (i := 5) (by decide +kernel))) (fun _ h9 => h9) rfl (by decide +kernel) rfl rfl (Nat.le_of_ble_eq_true rfl) dX3_measures_126 (fun H locs hP hD hS => ?_)
      have hP : zP G [(h0, .inr (5, [.ref m0, .ref m1, .ref m2, .ref m3, .ref m4, .ref m5, .ref m6, .ref m7, .ref m8, .ref m9, .ref m10, .ref m11, .int nb, .int dy, .int pd, .int (ow + (((0 + ((bo (4 * jj + 0)) * 11)) + (((upd (upd bo (4 * jj + 3) ((bo (4 * jj + 3)) + (bo (4 * jj + 0)))) (4 * jj + 0) 0) (4 * jj + 1)) * 9)) + (((upd (upd (upd (upd bo (4 * jj + 3) ((bo (4 * jj + 3)) + (bo (4 * jj + 0)))) (4 * jj + 0) 0) (4 * jj + 3) (((upd (upd bo (4 * jj + 3) ((bo (4 * jj + 3)) + (bo (4 * jj + 0)))) (4 * jj + 0) 0) (4 * jj + 3)) + ((upd (upd bo (4 * jj + 3) ((bo (4 * jj + 3)) + (bo (4 * jj + 0)))) (4 * jj + 0) 0) (4 * jj + 1)))) (4 * jj + 1) 0) (4 * jj + 2)) * 6))), .int th])), (m5, .inl (G.2.1 0, 20, .inl (upd bs jj sg))), (m6, .inl (G.2.1 0, 20, .inl (upd bm jj 1))), (m7, .inl (G.2.1 0, 20, .inl lf)), (m8, .inl (G.2.1 0, 20, .inl lc)), (m9, .inl (G.2.1 0, 20, .inl gn)), (m11, .inl (G.2.1 0, 80, .inl (upd (upd (upd (upd (upd (upd bo (4 * jj + 3) ((bo (4 * jj + 3)) + (bo (4 * jj + 0)))) (4 * jj + 0) 0) (4 * jj + 3) (((upd (upd bo (4 * jj + 3) ((bo (4 * jj + 3)) + (bo (4 * jj + 0)))) (4 * jj + 0) 0) (4 * jj + 3)) + ((upd (upd bo (4 * jj + 3) ((bo (4 * jj + 3)) + (bo (4 * jj + 0)))) (4 * jj + 0) 0) (4 * jj + 1)))) (4 * jj + 1) 0) (4 * jj + 3) (((upd (upd (upd (upd bo (4 * jj + 3) ((bo (4 * jj + 3)) + (bo (4 * jj + 0)))) (4 * jj + 0) 0) (4 * jj + 3) (((upd (upd bo (4 * jj + 3) ((bo (4 * jj + 3)) + (bo (4 * jj + 0)))) (4 * jj + 0) 0) (4 * jj + 3)) + ((upd (upd bo (4 * jj + 3) ((bo (4 * jj + 3)) + (bo (4 * jj + 0)))) (4 * jj + 0) 0) (4 * jj + 1)))) (4 * jj + 1) 0) (4 * jj + 3)) + ((upd (upd (upd (upd bo (4 * jj + 3) ((bo (4 * jj + 3)) + (bo (4 * jj + 0)))) (4 * jj + 0) 0) (4 * jj + 3) (((upd (upd bo (4 * jj + 3) ((bo (4 * jj + 3)) + (bo (4 * jj + 0)))) (4 * jj + 0) 0) (4 * jj + 3)) + ((upd (upd bo (4 * jj + 3) ((bo (4 * jj + 3)) + (bo (4 * jj + 0)))) (4 * jj + 0) 0) (4 * jj + 1)))) (4 * jj + 1) 0) (4 * jj + 2)))) (4 * jj + 2) 0)))] H := hP
      have hD : va_D A [(h0, .inr (5, [.ref m0, .ref m1, .ref m2, .ref m3, .ref m4, .ref m5, .ref m6, .ref m7, .ref m8, .ref m9, .ref m10, .ref m11, .int nb, .int dy, .int pd, .int (ow + (((0 + ((bo (4 * jj + 0)) * 11)) + (((upd (upd bo (4 * jj + 3) ((bo (4 * jj + 3)) + (bo (4 * jj + 0)))) (4 * jj + 0) 0) (4 * jj + 1)) * 9)) + (((upd (upd (upd (upd bo (4 * jj + 3) ((bo (4 * jj + 3)) + (bo (4 * jj + 0)))) (4 * jj + 0) 0) (4 * jj + 3) (((upd (upd bo (4 * jj + 3) ((bo (4 * jj + 3)) + (bo (4 * jj + 0)))) (4 * jj + 0) 0) (4 * jj + 3)) + ((upd (upd bo (4 * jj + 3) ((bo (4 * jj + 3)) + (bo (4 * jj + 0)))) (4 * jj + 0) 0) (4 * jj + 1)))) (4 * jj + 1) 0) (4 * jj + 2)) * 6))), .int th])), (m5, .inl (G.2.1 0, 20, .inl (upd bs jj sg))), (m6, .inl (G.2.1 0, 20, .inl (upd bm jj 1))), (m7, .inl (G.2.1 0, 20, .inl lf)), (m8, .inl (G.2.1 0, 20, .inl lc)), (m9, .inl (G.2.1 0, 20, .inl gn)), (m11, .inl (G.2.1 0, 80, .inl (upd (upd (upd (upd (upd (upd bo (4 * jj + 3) ((bo (4 * jj + 3)) + (bo (4 * jj + 0)))) (4 * jj + 0) 0) (4 * jj + 3) (((upd (upd bo (4 * jj + 3) ((bo (4 * jj + 3)) + (bo (4 * jj + 0)))) (4 * jj + 0) 0) (4 * jj + 3)) + ((upd (upd bo (4 * jj + 3) ((bo (4 * jj + 3)) + (bo (4 * jj + 0)))) (4 * jj + 0) 0) (4 * jj + 1)))) (4 * jj + 1) 0) (4 * jj + 3) (((upd (upd (upd (upd bo (4 * jj + 3) ((bo (4 * jj + 3)) + (bo (4 * jj + 0)))) (4 * jj + 0) 0) (4 * jj + 3) (((upd (upd bo (4 * jj + 3) ((bo (4 * jj + 3)) + (bo (4 * jj + 0)))) (4 * jj + 0) 0) (4 * jj + 3)) + ((upd (upd bo (4 * jj + 3) ((bo (4 * jj + 3)) + (bo (4 * jj + 0)))) (4 * jj + 0) 0) (4 * jj + 1)))) (4 * jj + 1) 0) (4 * jj + 3)) + ((upd (upd (upd (upd bo (4 * jj + 3) ((bo (4 * jj + 3)) + (bo (4 * jj + 0)))) (4 * jj + 0) 0) (4 * jj + 3) (((upd (upd bo (4 * jj + 3) ((bo (4 * jj + 3)) + (bo (4 * jj + 0)))) (4 * jj + 0) 0) (4 * jj + 3)) + ((upd (upd bo (4 * jj + 3) ((bo (4 * jj + 3)) + (bo (4 * jj + 0)))) (4 * jj + 0) 0) (4 * jj + 1)))) (4 * jj + 1) 0) (4 * jj + 2)))) (4 * jj + 2) 0)))] := hD
      refine lv_iload hx hb dX3_measures_129 (lv_at hl 1 rfl) ?_
      exact zWi (lf, gn, upd (upd (upd (upd (upd (upd bo (4 * jj + 3) ((bo (4 * jj + 3)) + (bo (4 * jj + 0)))) (4 * jj + 0) 0) (4 * jj + 3) (((upd (upd bo (4 * jj + 3) ((bo (4 * jj + 3)) + (bo (4 * jj + 0)))) (4 * jj + 0) 0) (4 * jj + 3)) + ((upd (upd bo (4 * jj + 3) ((bo (4 * jj + 3)) + (bo (4 * jj + 0)))) (4 * jj + 0) 0) (4 * jj + 1)))) (4 * jj + 1) 0) (4 * jj + 3) (((upd (upd (upd (upd bo (4 * jj + 3) ((bo (4 * jj + 3)) + (bo (4 * jj + 0)))) (4 * jj + 0) 0) (4 * jj + 3) (((upd (upd bo (4 * jj + 3) ((bo (4 * jj + 3)) + (bo (4 * jj + 0)))) (4 * jj + 0) 0) (4 * jj + 3)) + ((upd (upd bo (4 * jj + 3) ((bo (4 * jj + 3)) + (bo (4 * jj + 0)))) (4 * jj + 0) 0) (4 * jj + 1)))) (4 * jj + 1) 0) (4 * jj + 3)) + ((upd (upd (upd (upd bo (4 * jj + 3) ((bo (4 * jj + 3)) + (bo (4 * jj + 0)))) (4 * jj + 0) 0) (4 * jj + 3) (((upd (upd bo (4 * jj + 3) ((bo (4 * jj + 3)) + (bo (4 * jj + 0)))) (4 * jj + 0) 0) (4 * jj + 3)) + ((upd (upd bo (4 * jj + 3) ((bo (4 * jj + 3)) + (bo (4 * jj + 0)))) (4 * jj + 0) 0) (4 * jj + 1)))) (4 * jj + 1) 0) (4 * jj + 2)))) (4 * jj + 2) 0, ow + (((0 + ((bo (4 * jj + 0)) * 11)) + (((upd (upd bo (4 * jj + 3) ((bo (4 * jj + 3)) + (bo (4 * jj + 0)))) (4 * jj + 0) 0) (4 * jj + 1)) * 9)) + (((upd (upd (upd (upd bo (4 * jj + 3) ((bo (4 * jj + 3)) + (bo (4 * jj + 0)))) (4 * jj + 0) 0) (4 * jj + 3) (((upd (upd bo (4 * jj + 3) ((bo (4 * jj + 3)) + (bo (4 * jj + 0)))) (4 * jj + 0) 0) (4 * jj + 3)) + ((upd (upd bo (4 * jj + 3) ((bo (4 * jj + 3)) + (bo (4 * jj + 0)))) (4 * jj + 0) 0) (4 * jj + 1)))) (4 * jj + 1) 0) (4 * jj + 2)) * 6))) hx hb hr hlocks rfl ⟨(by rw [f_X3_measures, if_neg hn_26, if_neg hn_27, if_neg hn_28, if_pos c_29]), (by rw [f_X3_measures_lf, if_neg hn_26, if_neg hn_27, if_neg hn_28, if_pos c_29]), (by rw [f_X3_measures_gn, if_neg hn_26, if_neg hn_27, if_neg hn_28, if_pos c_29]), (by rw [f_X3_measures_bo, if_neg hn_26, if_neg hn_27, if_neg hn_28, if_pos c_29]), (by rw [f_X3_measures_ow, if_neg hn_26, if_neg hn_27, if_neg hn_28, if_pos c_29])⟩ hP hD hK hS (z_pick (n := 7) [0, 1, 2, 3, 4, 5, 6] [] rfl (by decide) rfl rfl) (Nat.le_of_ble_eq_true rfl) (Nat.le_of_ble_eq_true rfl) dX3_measures_131
    · refine lv_aload_n hx hb dX3_measures_30 rfl (lv_at hl 1 rfl) ?_
      refine lv_iload_n hx hb dX3_measures_31 rfl (lv_at hl 2 rfl) ?_
      refine zDv (wr := [(m5, .inl (G.2.1 0, 20, .inl (upd bs jj sg))), (m6, .inl (G.2.1 0, 20, .inl (upd bm jj 1))), (m8, .inl (G.2.1 0, 20, .inl lc)), (m11, .inl (G.2.1 0, 80, .inl bo))]) (va_runV (As := [.int (nI jj)]) (rest := []) ⟨hx, hb, hml, hown, hts⟩ (c_X3_voids l G H.size h0 m0 m1 m2 m3 m4 m5 m6 m7 m8 m9 m10 m11 nb dy pd ow th lf gn jj (by assumption)) (cwV 1 hts gX3_measures_X3_voids rfl rfl rfl (by decide +kernel) ⟨(Nat.le_of_ble_eq_true rfl), (Nat.le_of_ble_eq_true rfl)⟩) (zPreV hE hS hA hP hD hK (z_pick (n := 7) [0, 3, 5] [1, 2, 4, 6] rfl (by decide) rfl rfl) (va_recv hK hP (ci := 5) (q0 := 0) rfl rfl)) rfl rfl hl.1 rfl (lv_room (Nat.le_of_ble_eq_true rfl)) dX3_measures_32 ⟨(Nat.le_of_ble_eq_true rfl), (Nat.le_of_ble_eq_true rfl)⟩) hP hD hS hA (z_pick (n := 7) [0, 3, 5] [1, 2, 4, 6] rfl (by decide) rfl rfl) (fun u_34 H locs hp_35 hP hD hS => ?_)
      have hP : zP G [(h0, .inr (5, [.ref m0, .ref m1, .ref m2, .ref m3, .ref m4, .ref m5, .ref m6, .ref m7, .ref m8, .ref m9, .ref m10, .ref m11, .int nb, .int dy, .int pd, .int ow, .int th])), (m7, .inl (G.2.1 0, 20, .inl (upd lf jj 0))), (m9, .inl (G.2.1 0, 20, .inl (upd gn jj ((gn jj) + (lf jj))))), (m5, .inl (G.2.1 0, 20, .inl (upd bs jj sg))), (m6, .inl (G.2.1 0, 20, .inl (upd bm jj 1))), (m8, .inl (G.2.1 0, 20, .inl lc)), (m11, .inl (G.2.1 0, 80, .inl bo))] H := hP
      have hD : va_D A [(h0, .inr (5, [.ref m0, .ref m1, .ref m2, .ref m3, .ref m4, .ref m5, .ref m6, .ref m7, .ref m8, .ref m9, .ref m10, .ref m11, .int nb, .int dy, .int pd, .int ow, .int th])), (m7, .inl (G.2.1 0, 20, .inl (upd lf jj 0))), (m9, .inl (G.2.1 0, 20, .inl (upd gn jj ((gn jj) + (lf jj))))), (m5, .inl (G.2.1 0, 20, .inl (upd bs jj sg))), (m6, .inl (G.2.1 0, 20, .inl (upd bm jj 1))), (m8, .inl (G.2.1 0, 20, .inl lc)), (m11, .inl (G.2.1 0, 80, .inl bo))] := hD
      refine lv_iconst (v := 0) hx hb dX3_measures_35 (by decide) ?_
      refine lv_istore (lv' := [(4, .int 0), (3, .int 3), (0, .ref h0), (1, .int (nI jj)), (2, .int sg)]) hx hb dX3_measures_36 hl (by decide) rfl (fun ls hl => ?_)
      refine lv_iconst (v := 0) hx hb dX3_measures_38 (by decide) ?_
      refine lv_istore (lv' := [(5, .int 0), (4, .int 0), (3, .int 3), (0, .ref h0), (1, .int (nI jj)), (2, .int sg)]) hx hb dX3_measures_39 hl (by decide) rfl (fun ls hl => ?_)
      refine lv_iload hx hb dX3_measures_41 (lv_at hl 0 rfl) ?_
      refine lv_iload_n hx hb dX3_measures_43 rfl (lv_at hl 2 rfl) ?_
      refine lv_icmp_ge (tgt := 118) hx hb dX3_measures_44 (by decide) (fun c_36 => absurd c_36 (by decide)) (fun c_36 => ?_)
      refine lv_iload hx hb dX3_measures_47 (lv_at hl 1 rfl) ?_
      refine lv_aload_n hx hb dX3_measures_49 rfl (lv_at hl 3 rfl) ?_
      refine va_get (D := G.1) (ci := 5) (v := .ref m11) (C := RX3) (T := TX3) (N := 17) hx hb hts wsi_X3_measures_X3 hown hK hP 0 rfl rfl 11 (by decide) (hts (.fieldLink "CellarschedulerModel" 43 "CellarschedulerModel" "bottles" "[I") (List.mem_of_getElem? (i := 4) (by decide +kernel))) (fun _ h9 => h9) rfl dX3_measures_50 ?_
      refine lv_iconst (v := 4) hx hb dX3_measures_53 (by decide) ?_
      refine lv_iload_n hx hb dX3_measures_54 rfl (lv_at hl 4 rfl) ?_
      refine lv_imul hx hb dX3_measures_55 ?_
      refine zTop (v := nI (4 * jj)) (show (4 * (nI jj) : Int32) = nI (4 * jj) from pk_mul 4 jj) ?_
      refine lv_iload hx hb dX3_measures_56 (lv_at hl 0 rfl) ?_
      refine lv_iadd hx hb dX3_measures_58 ?_
      refine zTop (v := nI (4 * jj + 0)) (show ((nI (4 * jj)) + 0 : Int32) = nI (4 * jj + 0) from nI_add (4 * jj) 0) ?_
      refine zIald hx hb hK hP 6 rfl (4 * jj + 0) rfl (by omega) (by decide) dX3_measures_59 ?_
      refine lv_aload_n hx hb dX3_measures_60 rfl (lv_at hl 3 rfl) ?_
      refine lv_iload_n hx hb dX3_measures_61 rfl (lv_at hl 2 rfl) ?_
      refine zCi (r := f_X3_stamp 3) (va_runV (As := [.int 3]) (rest := [.int (bo (4 * jj + 0)), .int 0]) ⟨hx, hb, hml, hown, hts⟩ (c_X3_stamp l G H.size h0 m0 m1 m2 m3 m4 m5 m6 m7 m8 m9 m10 m11 nb dy pd ow th 3) (cwV 1 hts gX3_measures_X3_stamp rfl rfl rfl (by decide +kernel) ⟨(Nat.le_of_ble_eq_true rfl), (Nat.le_of_ble_eq_true rfl)⟩) (zPreV hE hS hA hP hD hK (z_pick (n := 7) [0] [1, 2, 3, 4, 5, 6] rfl (by decide) rfl rfl) (va_recv hK hP (ci := 5) (q0 := 0) rfl rfl)) rfl rfl hl.1 rfl (lv_room (Nat.le_of_ble_eq_true rfl)) dX3_measures_62 ⟨(Nat.le_of_ble_eq_true rfl), (Nat.le_of_ble_eq_true rfl)⟩).run ?_
      refine zTop (v := 12) (by decide +kernel) ?_
      refine lv_aload_n hx hb dX3_measures_65 rfl (lv_at hl 3 rfl) ?_
      refine lv_iload hx hb dX3_measures_66 (lv_at hl 0 rfl) ?_
      refine zCi (r := f_X3_stamp 0) (va_runV (As := [.int 0]) (rest := [.int 12, .int (bo (4 * jj + 0)), .int 0]) ⟨hx, hb, hml, hown, hts⟩ (c_X3_stamp l G H.size h0 m0 m1 m2 m3 m4 m5 m6 m7 m8 m9 m10 m11 nb dy pd ow th 0) (cwV 1 hts gX3_measures_X3_stamp rfl rfl rfl (by decide +kernel) ⟨(Nat.le_of_ble_eq_true rfl), (Nat.le_of_ble_eq_true rfl)⟩) (zPreV hE hS hA hP hD hK (z_pick (n := 7) [0] [1, 2, 3, 4, 5, 6] rfl (by decide) rfl rfl) (va_recv hK hP (ci := 5) (q0 := 0) rfl rfl)) rfl rfl hl.1 rfl (lv_room (Nat.le_of_ble_eq_true rfl)) dX3_measures_68 ⟨(Nat.le_of_ble_eq_true rfl), (Nat.le_of_ble_eq_true rfl)⟩).run ?_
      refine zTop (v := 1) (by decide +kernel) ?_
      refine lv_isub hx hb dX3_measures_71 ?_
      refine zTop (v := 11) (by decide) ?_
      refine lv_imul hx hb dX3_measures_72 ?_
      refine lv_iadd hx hb dX3_measures_73 ?_
      refine lv_istore (lv' := [(4, .int (0 + ((bo (4 * jj + 0)) * 11))), (5, .int 0), (3, .int 3), (0, .ref h0), (1, .int (nI jj)), (2, .int sg)]) hx hb dX3_measures_74 hl (by decide) rfl (fun ls hl => ?_)
      refine lv_aload_n hx hb dX3_measures_76 rfl (lv_at hl 3 rfl) ?_
      refine va_get (D := G.1) (ci := 5) (v := .ref m11) (C := RX3) (T := TX3) (N := 17) hx hb hts wsi_X3_measures_X3 hown hK hP 0 rfl rfl 11 (by decide) (hts (.fieldLink "CellarschedulerModel" 43 "CellarschedulerModel" "bottles" "[I") (List.mem_of_getElem? (i := 4) (by decide +kernel))) (fun _ h9 => h9) rfl dX3_measures_77 ?_
      refine lv_iconst (v := 4) hx hb dX3_measures_80 (by decide) ?_
      refine lv_iload_n hx hb dX3_measures_81 rfl (lv_at hl 4 rfl) ?_
      refine lv_imul hx hb dX3_measures_82 ?_
      refine zTop (v := nI (4 * jj)) (show (4 * (nI jj) : Int32) = nI (4 * jj) from pk_mul 4 jj) ?_
      refine lv_iload_n hx hb dX3_measures_83 rfl (lv_at hl 2 rfl) ?_
      refine lv_iadd hx hb dX3_measures_84 ?_
      refine zTop (v := nI (4 * jj + 3)) (show ((nI (4 * jj)) + 3 : Int32) = nI (4 * jj + 3) from nI_add (4 * jj) 3) ?_
      refine lv_dup2_11 hx hb dX3_measures_85 rfl rfl ?_
      refine zIald hx hb hK hP 6 rfl (4 * jj + 3) rfl (by omega) (by decide) dX3_measures_86 ?_
      refine lv_aload_n hx hb dX3_measures_87 rfl (lv_at hl 3 rfl) ?_
      refine va_get (D := G.1) (ci := 5) (v := .ref m11) (C := RX3) (T := TX3) (N := 17) hx hb hts wsi_X3_measures_X3 hown hK hP 0 rfl rfl 11 (by decide) (hts (.fieldLink "CellarschedulerModel" 43 "CellarschedulerModel" "bottles" "[I") (List.mem_of_getElem? (i := 4) (by decide +kernel))) (fun _ h9 => h9) rfl dX3_measures_88 ?_
      refine lv_iconst (v := 4) hx hb dX3_measures_91 (by decide) ?_
      refine lv_iload_n hx hb dX3_measures_92 rfl (lv_at hl 4 rfl) ?_
      refine lv_imul hx hb dX3_measures_93 ?_
      refine zTop (v := nI (4 * jj)) (show (4 * (nI jj) : Int32) = nI (4 * jj) from pk_mul 4 jj) ?_
      refine lv_iload hx hb dX3_measures_94 (lv_at hl 1 rfl) ?_
      refine lv_iadd hx hb dX3_measures_96 ?_
      refine zTop (v := nI (4 * jj + 0)) (show ((nI (4 * jj)) + 0 : Int32) = nI (4 * jj + 0) from nI_add (4 * jj) 0) ?_
      refine zIald hx hb hK hP 6 rfl (4 * jj + 0) rfl (by omega) (by decide) dX3_measures_97 ?_
      refine lv_iadd hx hb dX3_measures_98 ?_
      refine zIast hx hb hK hP hD hS 6 rfl (4 * jj + 3) rfl (by omega) (by decide) dX3_measures_99 (fun H locs hP hD hS => ?_)
      have hP : zP G [(h0, .inr (5, [.ref m0, .ref m1, .ref m2, .ref m3, .ref m4, .ref m5, .ref m6, .ref m7, .ref m8, .ref m9, .ref m10, .ref m11, .int nb, .int dy, .int pd, .int ow, .int th])), (m7, .inl (G.2.1 0, 20, .inl (upd lf jj 0))), (m9, .inl (G.2.1 0, 20, .inl (upd gn jj ((gn jj) + (lf jj))))), (m5, .inl (G.2.1 0, 20, .inl (upd bs jj sg))), (m6, .inl (G.2.1 0, 20, .inl (upd bm jj 1))), (m8, .inl (G.2.1 0, 20, .inl lc)), (m11, .inl (G.2.1 0, 80, .inl (upd bo (4 * jj + 3) ((bo (4 * jj + 3)) + (bo (4 * jj + 0))))))] H := hP
      have hD : va_D A [(h0, .inr (5, [.ref m0, .ref m1, .ref m2, .ref m3, .ref m4, .ref m5, .ref m6, .ref m7, .ref m8, .ref m9, .ref m10, .ref m11, .int nb, .int dy, .int pd, .int ow, .int th])), (m7, .inl (G.2.1 0, 20, .inl (upd lf jj 0))), (m9, .inl (G.2.1 0, 20, .inl (upd gn jj ((gn jj) + (lf jj))))), (m5, .inl (G.2.1 0, 20, .inl (upd bs jj sg))), (m6, .inl (G.2.1 0, 20, .inl (upd bm jj 1))), (m8, .inl (G.2.1 0, 20, .inl lc)), (m11, .inl (G.2.1 0, 80, .inl (upd bo (4 * jj + 3) ((bo (4 * jj + 3)) + (bo (4 * jj + 0))))))] := hD
      refine lv_aload_n hx hb dX3_measures_100 rfl (lv_at hl 3 rfl) ?_
      refine va_get (D := G.1) (ci := 5) (v := .ref m11) (C := RX3) (T := TX3) (N := 17) hx hb hts wsi_X3_measures_X3 hown hK hP 0 rfl rfl 11 (by decide) (hts (.fieldLink "CellarschedulerModel" 43 "CellarschedulerModel" "bottles" "[I") (List.mem_of_getElem? (i := 4) (by decide +kernel))) (fun _ h9 => h9) rfl dX3_measures_101 ?_
      refine lv_iconst (v := 4) hx hb dX3_measures_104 (by decide) ?_
      refine lv_iload_n hx hb dX3_measures_105 rfl (lv_at hl 4 rfl) ?_
      refine lv_imul hx hb dX3_measures_106 ?_
      refine zTop (v := nI (4 * jj)) (show (4 * (nI jj) : Int32) = nI (4 * jj) from pk_mul 4 jj) ?_
      refine lv_iload hx hb dX3_measures_107 (lv_at hl 1 rfl) ?_
      refine lv_iadd hx hb dX3_measures_109 ?_
      refine zTop (v := nI (4 * jj + 0)) (show ((nI (4 * jj)) + 0 : Int32) = nI (4 * jj + 0) from nI_add (4 * jj) 0) ?_
      refine lv_iconst (v := 0) hx hb dX3_measures_110 (by decide) ?_
      refine zIast hx hb hK hP hD hS 6 rfl (4 * jj + 0) rfl (by omega) (by decide) dX3_measures_111 (fun H locs hP hD hS => ?_)
      have hP : zP G [(h0, .inr (5, [.ref m0, .ref m1, .ref m2, .ref m3, .ref m4, .ref m5, .ref m6, .ref m7, .ref m8, .ref m9, .ref m10, .ref m11, .int nb, .int dy, .int pd, .int ow, .int th])), (m7, .inl (G.2.1 0, 20, .inl (upd lf jj 0))), (m9, .inl (G.2.1 0, 20, .inl (upd gn jj ((gn jj) + (lf jj))))), (m5, .inl (G.2.1 0, 20, .inl (upd bs jj sg))), (m6, .inl (G.2.1 0, 20, .inl (upd bm jj 1))), (m8, .inl (G.2.1 0, 20, .inl lc)), (m11, .inl (G.2.1 0, 80, .inl (upd (upd bo (4 * jj + 3) ((bo (4 * jj + 3)) + (bo (4 * jj + 0)))) (4 * jj + 0) 0)))] H := hP
      have hD : va_D A [(h0, .inr (5, [.ref m0, .ref m1, .ref m2, .ref m3, .ref m4, .ref m5, .ref m6, .ref m7, .ref m8, .ref m9, .ref m10, .ref m11, .int nb, .int dy, .int pd, .int ow, .int th])), (m7, .inl (G.2.1 0, 20, .inl (upd lf jj 0))), (m9, .inl (G.2.1 0, 20, .inl (upd gn jj ((gn jj) + (lf jj))))), (m5, .inl (G.2.1 0, 20, .inl (upd bs jj sg))), (m6, .inl (G.2.1 0, 20, .inl (upd bm jj 1))), (m8, .inl (G.2.1 0, 20, .inl lc)), (m11, .inl (G.2.1 0, 80, .inl (upd (upd bo (4 * jj + 3) ((bo (4 * jj + 3)) + (bo (4 * jj + 0)))) (4 * jj + 0) 0)))] := hD
      refine lv_iinc (v := 1) (lv' := [(5, .int 1), (4, .int (0 + ((bo (4 * jj + 0)) * 11))), (3, .int 3), (0, .ref h0), (1, .int (nI jj)), (2, .int sg)]) hx hb dX3_measures_112 hl (k := 1) rfl (by decide) (by decide) rfl (fun ls hl => ?_)
      refine lv_goto (tgt := 41) hx hb dX3_measures_115 (by decide) ?_
      refine lv_iload hx hb dX3_measures_41 (lv_at hl 0 rfl) ?_
      refine lv_iload_n hx hb dX3_measures_43 rfl (lv_at hl 2 rfl) ?_
      refine lv_icmp_ge (tgt := 118) hx hb dX3_measures_44 (by decide) (fun c_37 => absurd c_37 (by decide)) (fun c_37 => ?_)
      refine lv_iload hx hb dX3_measures_47 (lv_at hl 1 rfl) ?_
      refine lv_aload_n hx hb dX3_measures_49 rfl (lv_at hl 3 rfl) ?_
      refine va_get (D := G.1) (ci := 5) (v := .ref m11) (C := RX3) (T := TX3) (N := 17) hx hb hts wsi_X3_measures_X3 hown hK hP 0 rfl rfl 11 (by decide) (hts (.fieldLink "CellarschedulerModel" 43 "CellarschedulerModel" "bottles" "[I") (List.mem_of_getElem? (i := 4) (by decide +kernel))) (fun _ h9 => h9) rfl dX3_measures_50 ?_
      refine lv_iconst (v := 4) hx hb dX3_measures_53 (by decide) ?_
      refine lv_iload_n hx hb dX3_measures_54 rfl (lv_at hl 4 rfl) ?_
      refine lv_imul hx hb dX3_measures_55 ?_
      refine zTop (v := nI (4 * jj)) (show (4 * (nI jj) : Int32) = nI (4 * jj) from pk_mul 4 jj) ?_
      refine lv_iload hx hb dX3_measures_56 (lv_at hl 0 rfl) ?_
      refine lv_iadd hx hb dX3_measures_58 ?_
      refine zTop (v := nI (4 * jj + 1)) (show ((nI (4 * jj)) + 1 : Int32) = nI (4 * jj + 1) from nI_add (4 * jj) 1) ?_
      refine zIald hx hb hK hP 6 rfl (4 * jj + 1) rfl (by omega) (by decide) dX3_measures_59 ?_
      refine lv_aload_n hx hb dX3_measures_60 rfl (lv_at hl 3 rfl) ?_
      refine lv_iload_n hx hb dX3_measures_61 rfl (lv_at hl 2 rfl) ?_
      refine zCi (r := f_X3_stamp 3) (va_runV (As := [.int 3]) (rest := [.int ((upd (upd bo (4 * jj + 3) ((bo (4 * jj + 3)) + (bo (4 * jj + 0)))) (4 * jj + 0) 0) (4 * jj + 1)), .int (0 + ((bo (4 * jj + 0)) * 11))]) ⟨hx, hb, hml, hown, hts⟩ (c_X3_stamp l G H.size h0 m0 m1 m2 m3 m4 m5 m6 m7 m8 m9 m10 m11 nb dy pd ow th 3) (cwV 1 hts gX3_measures_X3_stamp rfl rfl rfl (by decide +kernel) ⟨(Nat.le_of_ble_eq_true rfl), (Nat.le_of_ble_eq_true rfl)⟩) (zPreV hE hS hA hP hD hK (z_pick (n := 7) [0] [1, 2, 3, 4, 5, 6] rfl (by decide) rfl rfl) (va_recv hK hP (ci := 5) (q0 := 0) rfl rfl)) rfl rfl hl.1 rfl (lv_room (Nat.le_of_ble_eq_true rfl)) dX3_measures_62 ⟨(Nat.le_of_ble_eq_true rfl), (Nat.le_of_ble_eq_true rfl)⟩).run ?_
      refine zTop (v := 12) (by decide +kernel) ?_
      refine lv_aload_n hx hb dX3_measures_65 rfl (lv_at hl 3 rfl) ?_
      refine lv_iload hx hb dX3_measures_66 (lv_at hl 0 rfl) ?_
      refine zCi (r := f_X3_stamp 1) (va_runV (As := [.int 1]) (rest := [.int 12, .int ((upd (upd bo (4 * jj + 3) ((bo (4 * jj + 3)) + (bo (4 * jj + 0)))) (4 * jj + 0) 0) (4 * jj + 1)), .int (0 + ((bo (4 * jj + 0)) * 11))]) ⟨hx, hb, hml, hown, hts⟩ (c_X3_stamp l G H.size h0 m0 m1 m2 m3 m4 m5 m6 m7 m8 m9 m10 m11 nb dy pd ow th 1) (cwV 1 hts gX3_measures_X3_stamp rfl rfl rfl (by decide +kernel) ⟨(Nat.le_of_ble_eq_true rfl), (Nat.le_of_ble_eq_true rfl)⟩) (zPreV hE hS hA hP hD hK (z_pick (n := 7) [0] [1, 2, 3, 4, 5, 6] rfl (by decide) rfl rfl) (va_recv hK hP (ci := 5) (q0 := 0) rfl rfl)) rfl rfl hl.1 rfl (lv_room (Nat.le_of_ble_eq_true rfl)) dX3_measures_68 ⟨(Nat.le_of_ble_eq_true rfl), (Nat.le_of_ble_eq_true rfl)⟩).run ?_
      refine zTop (v := 3) (by decide +kernel) ?_
      refine lv_isub hx hb dX3_measures_71 ?_
      refine zTop (v := 9) (by decide) ?_
      refine lv_imul hx hb dX3_measures_72 ?_
      refine lv_iadd hx hb dX3_measures_73 ?_
      refine lv_istore (lv' := [(4, .int ((0 + ((bo (4 * jj + 0)) * 11)) + (((upd (upd bo (4 * jj + 3) ((bo (4 * jj + 3)) + (bo (4 * jj + 0)))) (4 * jj + 0) 0) (4 * jj + 1)) * 9))), (5, .int 1), (3, .int 3), (0, .ref h0), (1, .int (nI jj)), (2, .int sg)]) hx hb dX3_measures_74 hl (by decide) rfl (fun ls hl => ?_)
      refine lv_aload_n hx hb dX3_measures_76 rfl (lv_at hl 3 rfl) ?_
      refine va_get (D := G.1) (ci := 5) (v := .ref m11) (C := RX3) (T := TX3) (N := 17) hx hb hts wsi_X3_measures_X3 hown hK hP 0 rfl rfl 11 (by decide) (hts (.fieldLink "CellarschedulerModel" 43 "CellarschedulerModel" "bottles" "[I") (List.mem_of_getElem? (i := 4) (by decide +kernel))) (fun _ h9 => h9) rfl dX3_measures_77 ?_
      refine lv_iconst (v := 4) hx hb dX3_measures_80 (by decide) ?_
      refine lv_iload_n hx hb dX3_measures_81 rfl (lv_at hl 4 rfl) ?_
      refine lv_imul hx hb dX3_measures_82 ?_
      refine zTop (v := nI (4 * jj)) (show (4 * (nI jj) : Int32) = nI (4 * jj) from pk_mul 4 jj) ?_
      refine lv_iload_n hx hb dX3_measures_83 rfl (lv_at hl 2 rfl) ?_
      refine lv_iadd hx hb dX3_measures_84 ?_
      refine zTop (v := nI (4 * jj + 3)) (show ((nI (4 * jj)) + 3 : Int32) = nI (4 * jj + 3) from nI_add (4 * jj) 3) ?_
      refine lv_dup2_11 hx hb dX3_measures_85 rfl rfl ?_
      refine zIald hx hb hK hP 6 rfl (4 * jj + 3) rfl (by omega) (by decide) dX3_measures_86 ?_
      refine lv_aload_n hx hb dX3_measures_87 rfl (lv_at hl 3 rfl) ?_
      refine va_get (D := G.1) (ci := 5) (v := .ref m11) (C := RX3) (T := TX3) (N := 17) hx hb hts wsi_X3_measures_X3 hown hK hP 0 rfl rfl 11 (by decide) (hts (.fieldLink "CellarschedulerModel" 43 "CellarschedulerModel" "bottles" "[I") (List.mem_of_getElem? (i := 4) (by decide +kernel))) (fun _ h9 => h9) rfl dX3_measures_88 ?_
      refine lv_iconst (v := 4) hx hb dX3_measures_91 (by decide) ?_
      refine lv_iload_n hx hb dX3_measures_92 rfl (lv_at hl 4 rfl) ?_
      refine lv_imul hx hb dX3_measures_93 ?_
      refine zTop (v := nI (4 * jj)) (show (4 * (nI jj) : Int32) = nI (4 * jj) from pk_mul 4 jj) ?_
      refine lv_iload hx hb dX3_measures_94 (lv_at hl 1 rfl) ?_
      refine lv_iadd hx hb dX3_measures_96 ?_
      refine zTop (v := nI (4 * jj + 1)) (show ((nI (4 * jj)) + 1 : Int32) = nI (4 * jj + 1) from nI_add (4 * jj) 1) ?_
      refine zIald hx hb hK hP 6 rfl (4 * jj + 1) rfl (by omega) (by decide) dX3_measures_97 ?_
      refine lv_iadd hx hb dX3_measures_98 ?_
      refine zIast hx hb hK hP hD hS 6 rfl (4 * jj + 3) rfl (by omega) (by decide) dX3_measures_99 (fun H locs hP hD hS => ?_)
      have hP : zP G [(h0, .inr (5, [.ref m0, .ref m1, .ref m2, .ref m3, .ref m4, .ref m5, .ref m6, .ref m7, .ref m8, .ref m9, .ref m10, .ref m11, .int nb, .int dy, .int pd, .int ow, .int th])), (m7, .inl (G.2.1 0, 20, .inl (upd lf jj 0))), (m9, .inl (G.2.1 0, 20, .inl (upd gn jj ((gn jj) + (lf jj))))), (m5, .inl (G.2.1 0, 20, .inl (upd bs jj sg))), (m6, .inl (G.2.1 0, 20, .inl (upd bm jj 1))), (m8, .inl (G.2.1 0, 20, .inl lc)), (m11, .inl (G.2.1 0, 80, .inl (upd (upd (upd bo (4 * jj + 3) ((bo (4 * jj + 3)) + (bo (4 * jj + 0)))) (4 * jj + 0) 0) (4 * jj + 3) (((upd (upd bo (4 * jj + 3) ((bo (4 * jj + 3)) + (bo (4 * jj + 0)))) (4 * jj + 0) 0) (4 * jj + 3)) + ((upd (upd bo (4 * jj + 3) ((bo (4 * jj + 3)) + (bo (4 * jj + 0)))) (4 * jj + 0) 0) (4 * jj + 1))))))] H := hP
      have hD : va_D A [(h0, .inr (5, [.ref m0, .ref m1, .ref m2, .ref m3, .ref m4, .ref m5, .ref m6, .ref m7, .ref m8, .ref m9, .ref m10, .ref m11, .int nb, .int dy, .int pd, .int ow, .int th])), (m7, .inl (G.2.1 0, 20, .inl (upd lf jj 0))), (m9, .inl (G.2.1 0, 20, .inl (upd gn jj ((gn jj) + (lf jj))))), (m5, .inl (G.2.1 0, 20, .inl (upd bs jj sg))), (m6, .inl (G.2.1 0, 20, .inl (upd bm jj 1))), (m8, .inl (G.2.1 0, 20, .inl lc)), (m11, .inl (G.2.1 0, 80, .inl (upd (upd (upd bo (4 * jj + 3) ((bo (4 * jj + 3)) + (bo (4 * jj + 0)))) (4 * jj + 0) 0) (4 * jj + 3) (((upd (upd bo (4 * jj + 3) ((bo (4 * jj + 3)) + (bo (4 * jj + 0)))) (4 * jj + 0) 0) (4 * jj + 3)) + ((upd (upd bo (4 * jj + 3) ((bo (4 * jj + 3)) + (bo (4 * jj + 0)))) (4 * jj + 0) 0) (4 * jj + 1))))))] := hD
      refine lv_aload_n hx hb dX3_measures_100 rfl (lv_at hl 3 rfl) ?_
      refine va_get (D := G.1) (ci := 5) (v := .ref m11) (C := RX3) (T := TX3) (N := 17) hx hb hts wsi_X3_measures_X3 hown hK hP 0 rfl rfl 11 (by decide) (hts (.fieldLink "CellarschedulerModel" 43 "CellarschedulerModel" "bottles" "[I") (List.mem_of_getElem? (i := 4) (by decide +kernel))) (fun _ h9 => h9) rfl dX3_measures_101 ?_
      refine lv_iconst (v := 4) hx hb dX3_measures_104 (by decide) ?_
      refine lv_iload_n hx hb dX3_measures_105 rfl (lv_at hl 4 rfl) ?_
      refine lv_imul hx hb dX3_measures_106 ?_
      refine zTop (v := nI (4 * jj)) (show (4 * (nI jj) : Int32) = nI (4 * jj) from pk_mul 4 jj) ?_
      refine lv_iload hx hb dX3_measures_107 (lv_at hl 1 rfl) ?_
      refine lv_iadd hx hb dX3_measures_109 ?_
      refine zTop (v := nI (4 * jj + 1)) (show ((nI (4 * jj)) + 1 : Int32) = nI (4 * jj + 1) from nI_add (4 * jj) 1) ?_
      refine lv_iconst (v := 0) hx hb dX3_measures_110 (by decide) ?_
      refine zIast hx hb hK hP hD hS 6 rfl (4 * jj + 1) rfl (by omega) (by decide) dX3_measures_111 (fun H locs hP hD hS => ?_)
      have hP : zP G [(h0, .inr (5, [.ref m0, .ref m1, .ref m2, .ref m3, .ref m4, .ref m5, .ref m6, .ref m7, .ref m8, .ref m9, .ref m10, .ref m11, .int nb, .int dy, .int pd, .int ow, .int th])), (m7, .inl (G.2.1 0, 20, .inl (upd lf jj 0))), (m9, .inl (G.2.1 0, 20, .inl (upd gn jj ((gn jj) + (lf jj))))), (m5, .inl (G.2.1 0, 20, .inl (upd bs jj sg))), (m6, .inl (G.2.1 0, 20, .inl (upd bm jj 1))), (m8, .inl (G.2.1 0, 20, .inl lc)), (m11, .inl (G.2.1 0, 80, .inl (upd (upd (upd (upd bo (4 * jj + 3) ((bo (4 * jj + 3)) + (bo (4 * jj + 0)))) (4 * jj + 0) 0) (4 * jj + 3) (((upd (upd bo (4 * jj + 3) ((bo (4 * jj + 3)) + (bo (4 * jj + 0)))) (4 * jj + 0) 0) (4 * jj + 3)) + ((upd (upd bo (4 * jj + 3) ((bo (4 * jj + 3)) + (bo (4 * jj + 0)))) (4 * jj + 0) 0) (4 * jj + 1)))) (4 * jj + 1) 0)))] H := hP
      have hD : va_D A [(h0, .inr (5, [.ref m0, .ref m1, .ref m2, .ref m3, .ref m4, .ref m5, .ref m6, .ref m7, .ref m8, .ref m9, .ref m10, .ref m11, .int nb, .int dy, .int pd, .int ow, .int th])), (m7, .inl (G.2.1 0, 20, .inl (upd lf jj 0))), (m9, .inl (G.2.1 0, 20, .inl (upd gn jj ((gn jj) + (lf jj))))), (m5, .inl (G.2.1 0, 20, .inl (upd bs jj sg))), (m6, .inl (G.2.1 0, 20, .inl (upd bm jj 1))), (m8, .inl (G.2.1 0, 20, .inl lc)), (m11, .inl (G.2.1 0, 80, .inl (upd (upd (upd (upd bo (4 * jj + 3) ((bo (4 * jj + 3)) + (bo (4 * jj + 0)))) (4 * jj + 0) 0) (4 * jj + 3) (((upd (upd bo (4 * jj + 3) ((bo (4 * jj + 3)) + (bo (4 * jj + 0)))) (4 * jj + 0) 0) (4 * jj + 3)) + ((upd (upd bo (4 * jj + 3) ((bo (4 * jj + 3)) + (bo (4 * jj + 0)))) (4 * jj + 0) 0) (4 * jj + 1)))) (4 * jj + 1) 0)))] := hD
      refine lv_iinc (v := 2) (lv' := [(5, .int 2), (4, .int ((0 + ((bo (4 * jj + 0)) * 11)) + (((upd (upd bo (4 * jj + 3) ((bo (4 * jj + 3)) + (bo (4 * jj + 0)))) (4 * jj + 0) 0) (4 * jj + 1)) * 9))), (3, .int 3), (0, .ref h0), (1, .int (nI jj)), (2, .int sg)]) hx hb dX3_measures_112 hl (k := 1) rfl (by decide) (by decide) rfl (fun ls hl => ?_)
      refine lv_goto (tgt := 41) hx hb dX3_measures_115 (by decide) ?_
      refine lv_iload hx hb dX3_measures_41 (lv_at hl 0 rfl) ?_
      refine lv_iload_n hx hb dX3_measures_43 rfl (lv_at hl 2 rfl) ?_
      refine lv_icmp_ge (tgt := 118) hx hb dX3_measures_44 (by decide) (fun c_38 => absurd c_38 (by decide)) (fun c_38 => ?_)
      refine lv_iload hx hb dX3_measures_47 (lv_at hl 1 rfl) ?_
      refine lv_aload_n hx hb dX3_measures_49 rfl (lv_at hl 3 rfl) ?_
      refine va_get (D := G.1) (ci := 5) (v := .ref m11) (C := RX3) (T := TX3) (N := 17) hx hb hts wsi_X3_measures_X3 hown hK hP 0 rfl rfl 11 (by decide) (hts (.fieldLink "CellarschedulerModel" 43 "CellarschedulerModel" "bottles" "[I") (List.mem_of_getElem? (i := 4) (by decide +kernel))) (fun _ h9 => h9) rfl dX3_measures_50 ?_
      refine lv_iconst (v := 4) hx hb dX3_measures_53 (by decide) ?_
      refine lv_iload_n hx hb dX3_measures_54 rfl (lv_at hl 4 rfl) ?_
      refine lv_imul hx hb dX3_measures_55 ?_
      refine zTop (v := nI (4 * jj)) (show (4 * (nI jj) : Int32) = nI (4 * jj) from pk_mul 4 jj) ?_
      refine lv_iload hx hb dX3_measures_56 (lv_at hl 0 rfl) ?_
      refine lv_iadd hx hb dX3_measures_58 ?_
      refine zTop (v := nI (4 * jj + 2)) (show ((nI (4 * jj)) + 2 : Int32) = nI (4 * jj + 2) from nI_add (4 * jj) 2) ?_
      refine zIald hx hb hK hP 6 rfl (4 * jj + 2) rfl (by omega) (by decide) dX3_measures_59 ?_
      refine lv_aload_n hx hb dX3_measures_60 rfl (lv_at hl 3 rfl) ?_
      refine lv_iload_n hx hb dX3_measures_61 rfl (lv_at hl 2 rfl) ?_
      refine zCi (r := f_X3_stamp 3) (va_runV (As := [.int 3]) (rest := [.int ((upd (upd (upd (upd bo (4 * jj + 3) ((bo (4 * jj + 3)) + (bo (4 * jj + 0)))) (4 * jj + 0) 0) (4 * jj + 3) (((upd (upd bo (4 * jj + 3) ((bo (4 * jj + 3)) + (bo (4 * jj + 0)))) (4 * jj + 0) 0) (4 * jj + 3)) + ((upd (upd bo (4 * jj + 3) ((bo (4 * jj + 3)) + (bo (4 * jj + 0)))) (4 * jj + 0) 0) (4 * jj + 1)))) (4 * jj + 1) 0) (4 * jj + 2)), .int ((0 + ((bo (4 * jj + 0)) * 11)) + (((upd (upd bo (4 * jj + 3) ((bo (4 * jj + 3)) + (bo (4 * jj + 0)))) (4 * jj + 0) 0) (4 * jj + 1)) * 9))]) ⟨hx, hb, hml, hown, hts⟩ (c_X3_stamp l G H.size h0 m0 m1 m2 m3 m4 m5 m6 m7 m8 m9 m10 m11 nb dy pd ow th 3) (cwV 1 hts gX3_measures_X3_stamp rfl rfl rfl (by decide +kernel) ⟨(Nat.le_of_ble_eq_true rfl), (Nat.le_of_ble_eq_true rfl)⟩) (zPreV hE hS hA hP hD hK (z_pick (n := 7) [0] [1, 2, 3, 4, 5, 6] rfl (by decide) rfl rfl) (va_recv hK hP (ci := 5) (q0 := 0) rfl rfl)) rfl rfl hl.1 rfl (lv_room (Nat.le_of_ble_eq_true rfl)) dX3_measures_62 ⟨(Nat.le_of_ble_eq_true rfl), (Nat.le_of_ble_eq_true rfl)⟩).run ?_
      refine zTop (v := 12) (by decide +kernel) ?_
      refine lv_aload_n hx hb dX3_measures_65 rfl (lv_at hl 3 rfl) ?_
      refine lv_iload hx hb dX3_measures_66 (lv_at hl 0 rfl) ?_
      refine zCi (r := f_X3_stamp 2) (va_runV (As := [.int 2]) (rest := [.int 12, .int ((upd (upd (upd (upd bo (4 * jj + 3) ((bo (4 * jj + 3)) + (bo (4 * jj + 0)))) (4 * jj + 0) 0) (4 * jj + 3) (((upd (upd bo (4 * jj + 3) ((bo (4 * jj + 3)) + (bo (4 * jj + 0)))) (4 * jj + 0) 0) (4 * jj + 3)) + ((upd (upd bo (4 * jj + 3) ((bo (4 * jj + 3)) + (bo (4 * jj + 0)))) (4 * jj + 0) 0) (4 * jj + 1)))) (4 * jj + 1) 0) (4 * jj + 2)), .int ((0 + ((bo (4 * jj + 0)) * 11)) + (((upd (upd bo (4 * jj + 3) ((bo (4 * jj + 3)) + (bo (4 * jj + 0)))) (4 * jj + 0) 0) (4 * jj + 1)) * 9))]) ⟨hx, hb, hml, hown, hts⟩ (c_X3_stamp l G H.size h0 m0 m1 m2 m3 m4 m5 m6 m7 m8 m9 m10 m11 nb dy pd ow th 2) (cwV 1 hts gX3_measures_X3_stamp rfl rfl rfl (by decide +kernel) ⟨(Nat.le_of_ble_eq_true rfl), (Nat.le_of_ble_eq_true rfl)⟩) (zPreV hE hS hA hP hD hK (z_pick (n := 7) [0] [1, 2, 3, 4, 5, 6] rfl (by decide) rfl rfl) (va_recv hK hP (ci := 5) (q0 := 0) rfl rfl)) rfl rfl hl.1 rfl (lv_room (Nat.le_of_ble_eq_true rfl)) dX3_measures_68 ⟨(Nat.le_of_ble_eq_true rfl), (Nat.le_of_ble_eq_true rfl)⟩).run ?_
      refine zTop (v := 6) (by decide +kernel) ?_
      refine lv_isub hx hb dX3_measures_71 ?_
      refine zTop (v := 6) (by decide) ?_
      refine lv_imul hx hb dX3_measures_72 ?_
      refine lv_iadd hx hb dX3_measures_73 ?_
      refine lv_istore (lv' := [(4, .int (((0 + ((bo (4 * jj + 0)) * 11)) + (((upd (upd bo (4 * jj + 3) ((bo (4 * jj + 3)) + (bo (4 * jj + 0)))) (4 * jj + 0) 0) (4 * jj + 1)) * 9)) + (((upd (upd (upd (upd bo (4 * jj + 3) ((bo (4 * jj + 3)) + (bo (4 * jj + 0)))) (4 * jj + 0) 0) (4 * jj + 3) (((upd (upd bo (4 * jj + 3) ((bo (4 * jj + 3)) + (bo (4 * jj + 0)))) (4 * jj + 0) 0) (4 * jj + 3)) + ((upd (upd bo (4 * jj + 3) ((bo (4 * jj + 3)) + (bo (4 * jj + 0)))) (4 * jj + 0) 0) (4 * jj + 1)))) (4 * jj + 1) 0) (4 * jj + 2)) * 6))), (5, .int 2), (3, .int 3), (0, .ref h0), (1, .int (nI jj)), (2, .int sg)]) hx hb dX3_measures_74 hl (by decide) rfl (fun ls hl => ?_)
      refine lv_aload_n hx hb dX3_measures_76 rfl (lv_at hl 3 rfl) ?_
      refine va_get (D := G.1) (ci := 5) (v := .ref m11) (C := RX3) (T := TX3) (N := 17) hx hb hts wsi_X3_measures_X3 hown hK hP 0 rfl rfl 11 (by decide) (hts (.fieldLink "CellarschedulerModel" 43 "CellarschedulerModel" "bottles" "[I") (List.mem_of_getElem? (i := 4) (by decide +kernel))) (fun _ h9 => h9) rfl dX3_measures_77 ?_
      refine lv_iconst (v := 4) hx hb dX3_measures_80 (by decide) ?_
      refine lv_iload_n hx hb dX3_measures_81 rfl (lv_at hl 4 rfl) ?_
      refine lv_imul hx hb dX3_measures_82 ?_
      refine zTop (v := nI (4 * jj)) (show (4 * (nI jj) : Int32) = nI (4 * jj) from pk_mul 4 jj) ?_
      refine lv_iload_n hx hb dX3_measures_83 rfl (lv_at hl 2 rfl) ?_
      refine lv_iadd hx hb dX3_measures_84 ?_
      refine zTop (v := nI (4 * jj + 3)) (show ((nI (4 * jj)) + 3 : Int32) = nI (4 * jj + 3) from nI_add (4 * jj) 3) ?_
      refine lv_dup2_11 hx hb dX3_measures_85 rfl rfl ?_
      refine zIald hx hb hK hP 6 rfl (4 * jj + 3) rfl (by omega) (by decide) dX3_measures_86 ?_
      refine lv_aload_n hx hb dX3_measures_87 rfl (lv_at hl 3 rfl) ?_
      refine va_get (D := G.1) (ci := 5) (v := .ref m11) (C := RX3) (T := TX3) (N := 17) hx hb hts wsi_X3_measures_X3 hown hK hP 0 rfl rfl 11 (by decide) (hts (.fieldLink "CellarschedulerModel" 43 "CellarschedulerModel" "bottles" "[I") (List.mem_of_getElem? (i := 4) (by decide +kernel))) (fun _ h9 => h9) rfl dX3_measures_88 ?_
      refine lv_iconst (v := 4) hx hb dX3_measures_91 (by decide) ?_
      refine lv_iload_n hx hb dX3_measures_92 rfl (lv_at hl 4 rfl) ?_
      refine lv_imul hx hb dX3_measures_93 ?_
      refine zTop (v := nI (4 * jj)) (show (4 * (nI jj) : Int32) = nI (4 * jj) from pk_mul 4 jj) ?_
      refine lv_iload hx hb dX3_measures_94 (lv_at hl 1 rfl) ?_
      refine lv_iadd hx hb dX3_measures_96 ?_
      refine zTop (v := nI (4 * jj + 2)) (show ((nI (4 * jj)) + 2 : Int32) = nI (4 * jj + 2) from nI_add (4 * jj) 2) ?_
      refine zIald hx hb hK hP 6 rfl (4 * jj + 2) rfl (by omega) (by decide) dX3_measures_97 ?_
      refine lv_iadd hx hb dX3_measures_98 ?_
      refine zIast hx hb hK hP hD hS 6 rfl (4 * jj + 3) rfl (by omega) (by decide) dX3_measures_99 (fun H locs hP hD hS => ?_)
      have hP : zP G [(h0, .inr (5, [.ref m0, .ref m1, .ref m2, .ref m3, .ref m4, .ref m5, .ref m6, .ref m7, .ref m8, .ref m9, .ref m10, .ref m11, .int nb, .int dy, .int pd, .int ow, .int th])), (m7, .inl (G.2.1 0, 20, .inl (upd lf jj 0))), (m9, .inl (G.2.1 0, 20, .inl (upd gn jj ((gn jj) + (lf jj))))), (m5, .inl (G.2.1 0, 20, .inl (upd bs jj sg))), (m6, .inl (G.2.1 0, 20, .inl (upd bm jj 1))), (m8, .inl (G.2.1 0, 20, .inl lc)), (m11, .inl (G.2.1 0, 80, .inl (upd (upd (upd (upd (upd bo (4 * jj + 3) ((bo (4 * jj + 3)) + (bo (4 * jj + 0)))) (4 * jj + 0) 0) (4 * jj + 3) (((upd (upd bo (4 * jj + 3) ((bo (4 * jj + 3)) + (bo (4 * jj + 0)))) (4 * jj + 0) 0) (4 * jj + 3)) + ((upd (upd bo (4 * jj + 3) ((bo (4 * jj + 3)) + (bo (4 * jj + 0)))) (4 * jj + 0) 0) (4 * jj + 1)))) (4 * jj + 1) 0) (4 * jj + 3) (((upd (upd (upd (upd bo (4 * jj + 3) ((bo (4 * jj + 3)) + (bo (4 * jj + 0)))) (4 * jj + 0) 0) (4 * jj + 3) (((upd (upd bo (4 * jj + 3) ((bo (4 * jj + 3)) + (bo (4 * jj + 0)))) (4 * jj + 0) 0) (4 * jj + 3)) + ((upd (upd bo (4 * jj + 3) ((bo (4 * jj + 3)) + (bo (4 * jj + 0)))) (4 * jj + 0) 0) (4 * jj + 1)))) (4 * jj + 1) 0) (4 * jj + 3)) + ((upd (upd (upd (upd bo (4 * jj + 3) ((bo (4 * jj + 3)) + (bo (4 * jj + 0)))) (4 * jj + 0) 0) (4 * jj + 3) (((upd (upd bo (4 * jj + 3) ((bo (4 * jj + 3)) + (bo (4 * jj + 0)))) (4 * jj + 0) 0) (4 * jj + 3)) + ((upd (upd bo (4 * jj + 3) ((bo (4 * jj + 3)) + (bo (4 * jj + 0)))) (4 * jj + 0) 0) (4 * jj + 1)))) (4 * jj + 1) 0) (4 * jj + 2))))))] H := hP
      have hD : va_D A [(h0, .inr (5, [.ref m0, .ref m1, .ref m2, .ref m3, .ref m4, .ref m5, .ref m6, .ref m7, .ref m8, .ref m9, .ref m10, .ref m11, .int nb, .int dy, .int pd, .int ow, .int th])), (m7, .inl (G.2.1 0, 20, .inl (upd lf jj 0))), (m9, .inl (G.2.1 0, 20, .inl (upd gn jj ((gn jj) + (lf jj))))), (m5, .inl (G.2.1 0, 20, .inl (upd bs jj sg))), (m6, .inl (G.2.1 0, 20, .inl (upd bm jj 1))), (m8, .inl (G.2.1 0, 20, .inl lc)), (m11, .inl (G.2.1 0, 80, .inl (upd (upd (upd (upd (upd bo (4 * jj + 3) ((bo (4 * jj + 3)) + (bo (4 * jj + 0)))) (4 * jj + 0) 0) (4 * jj + 3) (((upd (upd bo (4 * jj + 3) ((bo (4 * jj + 3)) + (bo (4 * jj + 0)))) (4 * jj + 0) 0) (4 * jj + 3)) + ((upd (upd bo (4 * jj + 3) ((bo (4 * jj + 3)) + (bo (4 * jj + 0)))) (4 * jj + 0) 0) (4 * jj + 1)))) (4 * jj + 1) 0) (4 * jj + 3) (((upd (upd (upd (upd bo (4 * jj + 3) ((bo (4 * jj + 3)) + (bo (4 * jj + 0)))) (4 * jj + 0) 0) (4 * jj + 3) (((upd (upd bo (4 * jj + 3) ((bo (4 * jj + 3)) + (bo (4 * jj + 0)))) (4 * jj + 0) 0) (4 * jj + 3)) + ((upd (upd bo (4 * jj + 3) ((bo (4 * jj + 3)) + (bo (4 * jj + 0)))) (4 * jj + 0) 0) (4 * jj + 1)))) (4 * jj + 1) 0) (4 * jj + 3)) + ((upd (upd (upd (upd bo (4 * jj + 3) ((bo (4 * jj + 3)) + (bo (4 * jj + 0)))) (4 * jj + 0) 0) (4 * jj + 3) (((upd (upd bo (4 * jj + 3) ((bo (4 * jj + 3)) + (bo (4 * jj + 0)))) (4 * jj + 0) 0) (4 * jj + 3)) + ((upd (upd bo (4 * jj + 3) ((bo (4 * jj + 3)) + (bo (4 * jj + 0)))) (4 * jj + 0) 0) (4 * jj + 1)))) (4 * jj + 1) 0) (4 * jj + 2))))))] := hD
      refine lv_aload_n hx hb dX3_measures_100 rfl (lv_at hl 3 rfl) ?_
      refine va_get (D := G.1) (ci := 5) (v := .ref m11) (C := RX3) (T := TX3) (N := 17) hx hb hts wsi_X3_measures_X3 hown hK hP 0 rfl rfl 11 (by decide) (hts (.fieldLink "CellarschedulerModel" 43 "CellarschedulerModel" "bottles" "[I") (List.mem_of_getElem? (i := 4) (by decide +kernel))) (fun _ h9 => h9) rfl dX3_measures_101 ?_
      refine lv_iconst (v := 4) hx hb dX3_measures_104 (by decide) ?_
      refine lv_iload_n hx hb dX3_measures_105 rfl (lv_at hl 4 rfl) ?_
      refine lv_imul hx hb dX3_measures_106 ?_
      refine zTop (v := nI (4 * jj)) (show (4 * (nI jj) : Int32) = nI (4 * jj) from pk_mul 4 jj) ?_
      refine lv_iload hx hb dX3_measures_107 (lv_at hl 1 rfl) ?_
      refine lv_iadd hx hb dX3_measures_109 ?_
      refine zTop (v := nI (4 * jj + 2)) (show ((nI (4 * jj)) + 2 : Int32) = nI (4 * jj + 2) from nI_add (4 * jj) 2) ?_
      refine lv_iconst (v := 0) hx hb dX3_measures_110 (by decide) ?_
      refine zIast hx hb hK hP hD hS 6 rfl (4 * jj + 2) rfl (by omega) (by decide) dX3_measures_111 (fun H locs hP hD hS => ?_)
      have hP : zP G [(h0, .inr (5, [.ref m0, .ref m1, .ref m2, .ref m3, .ref m4, .ref m5, .ref m6, .ref m7, .ref m8, .ref m9, .ref m10, .ref m11, .int nb, .int dy, .int pd, .int ow, .int th])), (m7, .inl (G.2.1 0, 20, .inl (upd lf jj 0))), (m9, .inl (G.2.1 0, 20, .inl (upd gn jj ((gn jj) + (lf jj))))), (m5, .inl (G.2.1 0, 20, .inl (upd bs jj sg))), (m6, .inl (G.2.1 0, 20, .inl (upd bm jj 1))), (m8, .inl (G.2.1 0, 20, .inl lc)), (m11, .inl (G.2.1 0, 80, .inl (upd (upd (upd (upd (upd (upd bo (4 * jj + 3) ((bo (4 * jj + 3)) + (bo (4 * jj + 0)))) (4 * jj + 0) 0) (4 * jj + 3) (((upd (upd bo (4 * jj + 3) ((bo (4 * jj + 3)) + (bo (4 * jj + 0)))) (4 * jj + 0) 0) (4 * jj + 3)) + ((upd (upd bo (4 * jj + 3) ((bo (4 * jj + 3)) + (bo (4 * jj + 0)))) (4 * jj + 0) 0) (4 * jj + 1)))) (4 * jj + 1) 0) (4 * jj + 3) (((upd (upd (upd (upd bo (4 * jj + 3) ((bo (4 * jj + 3)) + (bo (4 * jj + 0)))) (4 * jj + 0) 0) (4 * jj + 3) (((upd (upd bo (4 * jj + 3) ((bo (4 * jj + 3)) + (bo (4 * jj + 0)))) (4 * jj + 0) 0) (4 * jj + 3)) + ((upd (upd bo (4 * jj + 3) ((bo (4 * jj + 3)) + (bo (4 * jj + 0)))) (4 * jj + 0) 0) (4 * jj + 1)))) (4 * jj + 1) 0) (4 * jj + 3)) + ((upd (upd (upd (upd bo (4 * jj + 3) ((bo (4 * jj + 3)) + (bo (4 * jj + 0)))) (4 * jj + 0) 0) (4 * jj + 3) (((upd (upd bo (4 * jj + 3) ((bo (4 * jj + 3)) + (bo (4 * jj + 0)))) (4 * jj + 0) 0) (4 * jj + 3)) + ((upd (upd bo (4 * jj + 3) ((bo (4 * jj + 3)) + (bo (4 * jj + 0)))) (4 * jj + 0) 0) (4 * jj + 1)))) (4 * jj + 1) 0) (4 * jj + 2)))) (4 * jj + 2) 0)))] H := hP
      have hD : va_D A [(h0, .inr (5, [.ref m0, .ref m1, .ref m2, .ref m3, .ref m4, .ref m5, .ref m6, .ref m7, .ref m8, .ref m9, .ref m10, .ref m11, .int nb, .int dy, .int pd, .int ow, .int th])), (m7, .inl (G.2.1 0, 20, .inl (upd lf jj 0))), (m9, .inl (G.2.1 0, 20, .inl (upd gn jj ((gn jj) + (lf jj))))), (m5, .inl (G.2.1 0, 20, .inl (upd bs jj sg))), (m6, .inl (G.2.1 0, 20, .inl (upd bm jj 1))), (m8, .inl (G.2.1 0, 20, .inl lc)), (m11, .inl (G.2.1 0, 80, .inl (upd (upd (upd (upd (upd (upd bo (4 * jj + 3) ((bo (4 * jj + 3)) + (bo (4 * jj + 0)))) (4 * jj + 0) 0) (4 * jj + 3) (((upd (upd bo (4 * jj + 3) ((bo (4 * jj + 3)) + (bo (4 * jj + 0)))) (4 * jj + 0) 0) (4 * jj + 3)) + ((upd (upd bo (4 * jj + 3) ((bo (4 * jj + 3)) + (bo (4 * jj + 0)))) (4 * jj + 0) 0) (4 * jj + 1)))) (4 * jj + 1) 0) (4 * jj + 3) (((upd (upd (upd (upd bo (4 * jj + 3) ((bo (4 * jj + 3)) + (bo (4 * jj + 0)))) (4 * jj + 0) 0) (4 * jj + 3) (((upd (upd bo (4 * jj + 3) ((bo (4 * jj + 3)) + (bo (4 * jj + 0)))) (4 * jj + 0) 0) (4 * jj + 3)) + ((upd (upd bo (4 * jj + 3) ((bo (4 * jj + 3)) + (bo (4 * jj + 0)))) (4 * jj + 0) 0) (4 * jj + 1)))) (4 * jj + 1) 0) (4 * jj + 3)) + ((upd (upd (upd (upd bo (4 * jj + 3) ((bo (4 * jj + 3)) + (bo (4 * jj + 0)))) (4 * jj + 0) 0) (4 * jj + 3) (((upd (upd bo (4 * jj + 3) ((bo (4 * jj + 3)) + (bo (4 * jj + 0)))) (4 * jj + 0) 0) (4 * jj + 3)) + ((upd (upd bo (4 * jj + 3) ((bo (4 * jj + 3)) + (bo (4 * jj + 0)))) (4 * jj + 0) 0) (4 * jj + 1)))) (4 * jj + 1) 0) (4 * jj + 2)))) (4 * jj + 2) 0)))] := hD
      refine lv_iinc (v := 3) (lv' := [(5, .int 3), (4, .int (((0 + ((bo (4 * jj + 0)) * 11)) + (((upd (upd bo (4 * jj + 3) ((bo (4 * jj + 3)) + (bo (4 * jj + 0)))) (4 * jj + 0) 0) (4 * jj + 1)) * 9)) + (((upd (upd (upd (upd bo (4 * jj + 3) ((bo (4 * jj + 3)) + (bo (4 * jj + 0)))) (4 * jj + 0) 0) (4 * jj + 3) (((upd (upd bo (4 * jj + 3) ((bo (4 * jj + 3)) + (bo (4 * jj + 0)))) (4 * jj + 0) 0) (4 * jj + 3)) + ((upd (upd bo (4 * jj + 3) ((bo (4 * jj + 3)) + (bo (4 * jj + 0)))) (4 * jj + 0) 0) (4 * jj + 1)))) (4 * jj + 1) 0) (4 * jj + 2)) * 6))), (3, .int 3), (0, .ref h0), (1, .int (nI jj)), (2, .int sg)]) hx hb dX3_measures_112 hl (k := 1) rfl (by decide) (by decide) rfl (fun ls hl => ?_)
      refine lv_goto (tgt := 41) hx hb dX3_measures_115 (by decide) ?_
      refine lv_iload hx hb dX3_measures_41 (lv_at hl 0 rfl) ?_
      refine lv_iload_n hx hb dX3_measures_43 rfl (lv_at hl 2 rfl) ?_
      refine lv_icmp_ge (tgt := 118) hx hb dX3_measures_44 (by decide) (fun c_39 => ?_) (fun c_39 => absurd (by decide) c_39)
      refine lv_aload_n hx hb dX3_measures_118 rfl (lv_at hl 3 rfl) ?_
      refine lv_dup hx hb dX3_measures_119 rfl ?_
      refine va_get (D := G.1) (ci := 5) (v := .int ow) (C := RX3) (T := TX3) (N := 17) hx hb hts wsi_X3_measures_X3 hown hK hP 0 rfl rfl 15 (by decide) (hts (.fieldLink "CellarschedulerModel" 101 "CellarschedulerModel" "owed" "I") (List.mem_of_getElem? (i := 5) (by decide +kernel))) (fun _ h9 => h9) rfl dX3_measures_120 ?_
      refine lv_iload hx hb dX3_measures_123 (lv_at hl 1 rfl) ?_
      refine lv_iadd hx hb dX3_measures_125 ?_
      refine va_put (D := G.1) (ci := 5) (v := .int (ow + (((0 + ((bo (4 * jj + 0)) * 11)) + (((upd (upd bo (4 * jj + 3) ((bo (4 * jj + 3)) + (bo (4 * jj + 0)))) (4 * jj + 0) 0) (4 * jj + 1)) * 9)) + (((upd (upd (upd (upd bo (4 * jj + 3) ((bo (4 * jj + 3)) + (bo (4 * jj + 0)))) (4 * jj + 0) 0) (4 * jj + 3) (((upd (upd bo (4 * jj + 3) ((bo (4 * jj + 3)) + (bo (4 * jj + 0)))) (4 * jj + 0) 0) (4 * jj + 3)) + ((upd (upd bo (4 * jj + 3) ((bo (4 * jj + 3)) + (bo (4 * jj + 0)))) (4 * jj + 0) 0) (4 * jj + 1)))) (4 * jj + 1) 0) (4 * jj + 2)) * 6)))) (ty := .int) (C := RX3) (T := TX3) (N := 17) hx hb hts wsi_X3_measures_X3 tyX3 tyX3_ok nmX3 hown hK hP hD hS 0 rfl rfl 15 (by decide) (hts (.fieldLink "CellarschedulerModel" 101 "CellarschedulerModel" "owed" "I") (List.mem_of_getElem? (i := 5) (by decide +kernel))) (fun _ h9 => h9) rfl (by decide +kernel) rfl rfl (Nat.le_of_ble_eq_true rfl) dX3_measures_126 (fun H locs hP hD hS => ?_)
      have hP : zP G [(h0, .inr (5, [.ref m0, .ref m1, .ref m2, .ref m3, .ref m4, .ref m5, .ref m6, .ref m7, .ref m8, .ref m9, .ref m10, .ref m11, .int nb, .int dy, .int pd, .int (ow + (((0 + ((bo (4 * jj + 0)) * 11)) + (((upd (upd bo (4 * jj + 3) ((bo (4 * jj + 3)) + (bo (4 * jj + 0)))) (4 * jj + 0) 0) (4 * jj + 1)) * 9)) + (((upd (upd (upd (upd bo (4 * jj + 3) ((bo (4 * jj + 3)) + (bo (4 * jj + 0)))) (4 * jj + 0) 0) (4 * jj + 3) (((upd (upd bo (4 * jj + 3) ((bo (4 * jj + 3)) + (bo (4 * jj + 0)))) (4 * jj + 0) 0) (4 * jj + 3)) + ((upd (upd bo (4 * jj + 3) ((bo (4 * jj + 3)) + (bo (4 * jj + 0)))) (4 * jj + 0) 0) (4 * jj + 1)))) (4 * jj + 1) 0) (4 * jj + 2)) * 6))), .int th])), (m7, .inl (G.2.1 0, 20, .inl (upd lf jj 0))), (m9, .inl (G.2.1 0, 20, .inl (upd gn jj ((gn jj) + (lf jj))))), (m5, .inl (G.2.1 0, 20, .inl (upd bs jj sg))), (m6, .inl (G.2.1 0, 20, .inl (upd bm jj 1))), (m8, .inl (G.2.1 0, 20, .inl lc)), (m11, .inl (G.2.1 0, 80, .inl (upd (upd (upd (upd (upd (upd bo (4 * jj + 3) ((bo (4 * jj + 3)) + (bo (4 * jj + 0)))) (4 * jj + 0) 0) (4 * jj + 3) (((upd (upd bo (4 * jj + 3) ((bo (4 * jj + 3)) + (bo (4 * jj + 0)))) (4 * jj + 0) 0) (4 * jj + 3)) + ((upd (upd bo (4 * jj + 3) ((bo (4 * jj + 3)) + (bo (4 * jj + 0)))) (4 * jj + 0) 0) (4 * jj + 1)))) (4 * jj + 1) 0) (4 * jj + 3) (((upd (upd (upd (upd bo (4 * jj + 3) ((bo (4 * jj + 3)) + (bo (4 * jj + 0)))) (4 * jj + 0) 0) (4 * jj + 3) (((upd (upd bo (4 * jj + 3) ((bo (4 * jj + 3)) + (bo (4 * jj + 0)))) (4 * jj + 0) 0) (4 * jj + 3)) + ((upd (upd bo (4 * jj + 3) ((bo (4 * jj + 3)) + (bo (4 * jj + 0)))) (4 * jj + 0) 0) (4 * jj + 1)))) (4 * jj + 1) 0) (4 * jj + 3)) + ((upd (upd (upd (upd bo (4 * jj + 3) ((bo (4 * jj + 3)) + (bo (4 * jj + 0)))) (4 * jj + 0) 0) (4 * jj + 3) (((upd (upd bo (4 * jj + 3) ((bo (4 * jj + 3)) + (bo (4 * jj + 0)))) (4 * jj + 0) 0) (4 * jj + 3)) + ((upd (upd bo (4 * jj + 3) ((bo (4 * jj + 3)) + (bo (4 * jj + 0)))) (4 * jj + 0) 0) (4 * jj + 1)))) (4 * jj + 1) 0) (4 * jj + 2)))) (4 * jj + 2) 0)))] H := hP
      have hD : va_D A [(h0, .inr (5, [.ref m0, .ref m1, .ref m2, .ref m3, .ref m4, .ref m5, .ref m6, .ref m7, .ref m8, .ref m9, .ref m10, .ref m11, .int nb, .int dy, .int pd, .int (ow + (((0 + ((bo (4 * jj + 0)) * 11)) + (((upd (upd bo (4 * jj + 3) ((bo (4 * jj + 3)) + (bo (4 * jj + 0)))) (4 * jj + 0) 0) (4 * jj + 1)) * 9)) + (((upd (upd (upd (upd bo (4 * jj + 3) ((bo (4 * jj + 3)) + (bo (4 * jj + 0)))) (4 * jj + 0) 0) (4 * jj + 3) (((upd (upd bo (4 * jj + 3) ((bo (4 * jj + 3)) + (bo (4 * jj + 0)))) (4 * jj + 0) 0) (4 * jj + 3)) + ((upd (upd bo (4 * jj + 3) ((bo (4 * jj + 3)) + (bo (4 * jj + 0)))) (4 * jj + 0) 0) (4 * jj + 1)))) (4 * jj + 1) 0) (4 * jj + 2)) * 6))), .int th])), (m7, .inl (G.2.1 0, 20, .inl (upd lf jj 0))), (m9, .inl (G.2.1 0, 20, .inl (upd gn jj ((gn jj) + (lf jj))))), (m5, .inl (G.2.1 0, 20, .inl (upd bs jj sg))), (m6, .inl (G.2.1 0, 20, .inl (upd bm jj 1))), (m8, .inl (G.2.1 0, 20, .inl lc)), (m11, .inl (G.2.1 0, 80, .inl (upd (upd (upd (upd (upd (upd bo (4 * jj + 3) ((bo (4 * jj + 3)) + (bo (4 * jj + 0)))) (4 * jj + 0) 0) (4 * jj + 3) (((upd (upd bo (4 * jj + 3) ((bo (4 * jj + 3)) + (bo (4 * jj + 0)))) (4 * jj + 0) 0) (4 * jj + 3)) + ((upd (upd bo (4 * jj + 3) ((bo (4 * jj + 3)) + (bo (4 * jj + 0)))) (4 * jj + 0) 0) (4 * jj + 1)))) (4 * jj + 1) 0) (4 * jj + 3) (((upd (upd (upd (upd bo (4 * jj + 3) ((bo (4 * jj + 3)) + (bo (4 * jj + 0)))) (4 * jj + 0) 0) (4 * jj + 3) (((upd (upd bo (4 * jj + 3) ((bo (4 * jj + 3)) + (bo (4 * jj + 0)))) (4 * jj + 0) 0) (4 * jj + 3)) + ((upd (upd bo (4 * jj + 3) ((bo (4 * jj + 3)) + (bo (4 * jj + 0)))) (4 * jj + 0) 0) (4 * jj + 1)))) (4 * jj + 1) 0) (4 * jj + 3)) + ((upd (upd (upd (upd bo (4 * jj + 3) ((bo (4 * jj + 3)) + (bo (4 * jj + 0)))) (4 * jj + 0) 0) (4 * jj + 3) (((upd (upd bo (4 * jj + 3) ((bo (4 * jj + 3)) + (bo (4 * jj + 0)))) (4 * jj + 0) 0) (4 * jj + 3)) + ((upd (upd bo (4 * jj + 3) ((bo (4 * jj + 3)) + (bo (4 * jj + 0)))) (4 * jj + 0) 0) (4 * jj + 1)))) (4 * jj + 1) 0) (4 * jj + 2)))) (4 * jj + 2) 0)))] := hD
      refine lv_iload hx hb dX3_measures_129 (lv_at hl 1 rfl) ?_
      exact zWi (upd lf jj 0, upd gn jj ((gn jj) + (lf jj)), upd (upd (upd (upd (upd (upd bo (4 * jj + 3) ((bo (4 * jj + 3)) + (bo (4 * jj + 0)))) (4 * jj + 0) 0) (4 * jj + 3) (((upd (upd bo (4 * jj + 3) ((bo (4 * jj + 3)) + (bo (4 * jj + 0)))) (4 * jj + 0) 0) (4 * jj + 3)) + ((upd (upd bo (4 * jj + 3) ((bo (4 * jj + 3)) + (bo (4 * jj + 0)))) (4 * jj + 0) 0) (4 * jj + 1)))) (4 * jj + 1) 0) (4 * jj + 3) (((upd (upd (upd (upd bo (4 * jj + 3) ((bo (4 * jj + 3)) + (bo (4 * jj + 0)))) (4 * jj + 0) 0) (4 * jj + 3) (((upd (upd bo (4 * jj + 3) ((bo (4 * jj + 3)) + (bo (4 * jj + 0)))) (4 * jj + 0) 0) (4 * jj + 3)) + ((upd (upd bo (4 * jj + 3) ((bo (4 * jj + 3)) + (bo (4 * jj + 0)))) (4 * jj + 0) 0) (4 * jj + 1)))) (4 * jj + 1) 0) (4 * jj + 3)) + ((upd (upd (upd (upd bo (4 * jj + 3) ((bo (4 * jj + 3)) + (bo (4 * jj + 0)))) (4 * jj + 0) 0) (4 * jj + 3) (((upd (upd bo (4 * jj + 3) ((bo (4 * jj + 3)) + (bo (4 * jj + 0)))) (4 * jj + 0) 0) (4 * jj + 3)) + ((upd (upd bo (4 * jj + 3) ((bo (4 * jj + 3)) + (bo (4 * jj + 0)))) (4 * jj + 0) 0) (4 * jj + 1)))) (4 * jj + 1) 0) (4 * jj + 2)))) (4 * jj + 2) 0, ow + (((0 + ((bo (4 * jj + 0)) * 11)) + (((upd (upd bo (4 * jj + 3) ((bo (4 * jj + 3)) + (bo (4 * jj + 0)))) (4 * jj + 0) 0) (4 * jj + 1)) * 9)) + (((upd (upd (upd (upd bo (4 * jj + 3) ((bo (4 * jj + 3)) + (bo (4 * jj + 0)))) (4 * jj + 0) 0) (4 * jj + 3) (((upd (upd bo (4 * jj + 3) ((bo (4 * jj + 3)) + (bo (4 * jj + 0)))) (4 * jj + 0) 0) (4 * jj + 3)) + ((upd (upd bo (4 * jj + 3) ((bo (4 * jj + 3)) + (bo (4 * jj + 0)))) (4 * jj + 0) 0) (4 * jj + 1)))) (4 * jj + 1) 0) (4 * jj + 2)) * 6))) hx hb hr hlocks rfl ⟨(by rw [f_X3_measures, if_neg hn_26, if_neg hn_27, if_neg hn_28, if_neg c_29]), (by rw [f_X3_measures_lf, if_neg hn_26, if_neg hn_27, if_neg hn_28, if_neg c_29]), (by rw [f_X3_measures_gn, if_neg hn_26, if_neg hn_27, if_neg hn_28, if_neg c_29]), (by rw [f_X3_measures_bo, if_neg hn_26, if_neg hn_27, if_neg hn_28, if_neg c_29]), (by rw [f_X3_measures_ow, if_neg hn_26, if_neg hn_27, if_neg hn_28, if_neg c_29])⟩ hP hD hK hS (z_pick (n := 7) [0, 3, 4, 1, 5, 2, 6] [] rfl (by decide) rfl rfl) (Nat.le_of_ble_eq_true rfl) (Nat.le_of_ble_eq_true rfl) dX3_measures_131
