
theorem wsi_X3_init_X3 : ∀ w ∈ wsX30, w ∈ wsX3_init := fun w h => List.mem_cons_of_mem _ (List.mem_append_right _ h)
def f_X3_init_tk  : Nat → Int32 := upd (upd (upd (upd (upd (upd (upd (upd (fun _ => 0) 0 (-1)) 1 (-1)) 2 (-1)) 3 (-1)) 4 (-1)) 5 (-1)) 6 (-1)) 7 (-1)
set_option maxHeartbeats 4000000 in
set_option maxRecDepth 100000 in
/-- CellarschedulerModel() -/
theorem c_X3_init (l : Launch) (G : zG) (sz : Nat) (h0 : Nat) : Met l yX3_init wsX3_init { frames := 1, cells := 12, slots := 288, locals := 20 } (zPc G [.ref h0] [(h0, .inr (5, [.null, .null, .null, .null, .null, .null, .null, .null, .null, .null, .null, .null, .int 0, .int 0, .int 0, .int 0, .int 0]))] sz) (zQv G (fun (u : Nat × Nat × Nat × Nat × Nat × Nat × Nat × Nat × Nat × Nat × Nat × Nat × (Nat → Int32)) => u.2.2.2.2.2.2.2.2.2.2.2.2 = f_X3_init_tk) (fun u => [(h0, .inr (5, [.ref u.1, .ref u.2.1, .ref u.2.2.1, .ref u.2.2.2.1, .ref u.2.2.2.2.1, .ref u.2.2.2.2.2.1, .ref u.2.2.2.2.2.2.1, .ref u.2.2.2.2.2.2.2.1, .ref u.2.2.2.2.2.2.2.2.1, .ref u.2.2.2.2.2.2.2.2.2.1, .ref u.2.2.2.2.2.2.2.2.2.2.1, .ref u.2.2.2.2.2.2.2.2.2.2.2.1, .int 0, .int 0, .int 0, .int 0, .int 0])), (u.1, .inl (G.2.1 0, 8, .inl u.2.2.2.2.2.2.2.2.2.2.2.2)), (u.2.1, .inl (G.2.1 0, 20, .inl (fun _ => 0))), (u.2.2.1, .inl (G.2.1 0, 20, .inl (fun _ => 0))), (u.2.2.2.1, .inl (G.2.1 0, 20, .inl (fun _ => 0))), (u.2.2.2.2.1, .inl (G.2.1 0, 20, .inl (fun _ => 0))), (u.2.2.2.2.2.1, .inl (G.2.1 0, 20, .inl (fun _ => 0))), (u.2.2.2.2.2.2.1, .inl (G.2.1 0, 20, .inl (fun _ => 0))), (u.2.2.2.2.2.2.2.1, .inl (G.2.1 0, 20, .inl (fun _ => 0))), (u.2.2.2.2.2.2.2.2.1, .inl (G.2.1 0, 20, .inl (fun _ => 0))), (u.2.2.2.2.2.2.2.2.2.1, .inl (G.2.1 0, 20, .inl (fun _ => 0))), (u.2.2.2.2.2.2.2.2.2.2.1, .inl (G.2.1 0, 20, .inl (fun _ => 0))), (u.2.2.2.2.2.2.2.2.2.2.2.1, .inl (G.2.1 0, 80, .inl (fun _ => 0)))]) (va_A [(h0, .inr (5, [.null, .null, .null, .null, .null, .null, .null, .null, .null, .null, .null, .null, .int 0, .int 0, .int 0, .int 0, .int 0]))] sz)) 12 288 (va_A [(h0, .inr (5, [.null, .null, .null, .null, .null, .null, .null, .null, .null, .null, .null, .null, .int 0, .int 0, .int 0, .int 0, .int 0]))] sz) := by
  refine zOfW (Qc := fun A => zQv G (fun (u : Nat × Nat × Nat × Nat × Nat × Nat × Nat × Nat × Nat × Nat × Nat × Nat × (Nat → Int32)) => u.2.2.2.2.2.2.2.2.2.2.2.2 = f_X3_init_tk) (fun u => [(h0, .inr (5, [.ref u.1, .ref u.2.1, .ref u.2.2.1, .ref u.2.2.2.1, .ref u.2.2.2.2.1, .ref u.2.2.2.2.2.1, .ref u.2.2.2.2.2.2.1, .ref u.2.2.2.2.2.2.2.1, .ref u.2.2.2.2.2.2.2.2.1, .ref u.2.2.2.2.2.2.2.2.2.1, .ref u.2.2.2.2.2.2.2.2.2.2.1, .ref u.2.2.2.2.2.2.2.2.2.2.2.1, .int 0, .int 0, .int 0, .int 0, .int 0])), (u.1, .inl (G.2.1 0, 8, .inl u.2.2.2.2.2.2.2.2.2.2.2.2)), (u.2.1, .inl (G.2.1 0, 20, .inl (fun _ => 0))), (u.2.2.1, .inl (G.2.1 0, 20, .inl (fun _ => 0))), (u.2.2.2.1, .inl (G.2.1 0, 20, .inl (fun _ => 0))), (u.2.2.2.2.1, .inl (G.2.1 0, 20, .inl (fun _ => 0))), (u.2.2.2.2.2.1, .inl (G.2.1 0, 20, .inl (fun _ => 0))), (u.2.2.2.2.2.2.1, .inl (G.2.1 0, 20, .inl (fun _ => 0))), (u.2.2.2.2.2.2.2.1, .inl (G.2.1 0, 20, .inl (fun _ => 0))), (u.2.2.2.2.2.2.2.2.1, .inl (G.2.1 0, 20, .inl (fun _ => 0))), (u.2.2.2.2.2.2.2.2.2.1, .inl (G.2.1 0, 20, .inl (fun _ => 0))), (u.2.2.2.2.2.2.2.2.2.2.1, .inl (G.2.1 0, 20, .inl (fun _ => 0))), (u.2.2.2.2.2.2.2.2.2.2.2.1, .inl (G.2.1 0, 80, .inl (fun _ => 0)))]) A) (fr := fun A => A) (cc := cX3_init) (maxL := 2) (ret := none) (by decide) rfl (Nat.le_of_ble_eq_true rfl) ?_
  intro p e s m below meth c hx hb hml hr hlocks hown hin hts A hP hK hD hE hA hS ls hl
  have hl : lv_has ls 2 [(0, .ref h0)] := hl
  have hown : s.vm.findClass RX3 = some m.cls := hown
  have hin : meth.name = "<init>" := hin
  have hP : zP G [(h0, .inr (5, [.null, .null, .null, .null, .null, .null, .null, .null, .null, .null, .null, .null, .int 0, .int 0, .int 0, .int 0, .int 0]))] s.heap := hP
  have hD : va_D A [(h0, .inr (5, [.null, .null, .null, .null, .null, .null, .null, .null, .null, .null, .null, .null, .int 0, .int 0, .int 0, .int 0, .int 0]))] := hD
  refine lv_aload_n hx hb dX3_init_0 rfl (lv_at hl 0 rfl) ?_
  refine W.objInit hx hb hown (hts (.methodLink "CellarschedulerModel" 1 ⟨"java/lang/Object","<init>","()V"⟩) (List.mem_of_getElem? (i := 1) (by decide +kernel))) (hts (.instanceMethod objectInit) (List.mem_of_getElem? (i := 2) (by decide +kernel))) (hts (.code objectInit ⟨#[0xb1]⟩ 1 none) (List.mem_of_getElem? (i := 3) (by decide +kernel))) rfl (by rw [hml]; exact hl.1) rfl dX3_init_1 (Nat.le_of_ble_eq_true rfl) (Nat.le_of_ble_eq_true rfl) ?_
  refine W.eq (g2 := F0 m 4 ls []) rfl ?_
  refine lv_aload_n hx hb dX3_init_4 rfl (lv_at hl 0 rfl) ?_
  refine lv_bipush (v := 8) hx hb dX3_init_5 (by decide) ?_
  refine zNewi (N := 8) hx hb (hts (.arrayClass .int) (List.mem_of_getElem? (i := 4) (by decide +kernel))) hK hP hD hS hA (by decide) (by decide) (by decide) (Nat.le_of_ble_eq_true rfl) (Nat.le_of_ble_eq_true rfl) dX3_init_7 (fun q_1 H hP hD hS => ?_)
  have hP : zP G [(h0, .inr (5, [.null, .null, .null, .null, .null, .null, .null, .null, .null, .null, .null, .null, .int 0, .int 0, .int 0, .int 0, .int 0])), (q_1, .inl (G.2.1 0, 8, .inl (fun _ => 0)))] H := hP
  have hD : va_D A [(h0, .inr (5, [.null, .null, .null, .null, .null, .null, .null, .null, .null, .null, .null, .null, .int 0, .int 0, .int 0, .int 0, .int 0])), (q_1, .inl (G.2.1 0, 8, .inl (fun _ => 0)))] := hD
  refine va_putF (D := G.1) (ci := 5) (v := .ref q_1) (ty := .array .int) (C := RX3) (T := TX3) (N := 17) hx hb hts wsi_X3_init_X3 tyX3 tyX3_ok nmX3 hown hK hP hD hS 0 rfl rfl 0 (by decide) (hts (.fieldLink "CellarschedulerModel" 7 "CellarschedulerModel" "tank" "[I") (List.mem_of_getElem? (i := 5) (by decide +kernel))) (fun _ h9 => h9) rfl hin rfl (by decide +kernel) rfl rfl (Nat.le_of_ble_eq_true rfl) dX3_init_9 (fun H locs hP hD hS => ?_)
  have hP : zP G [(h0, .inr (5, [.ref q_1, .null, .null, .null, .null, .null, .null, .null, .null, .null, .null, .null, .int 0, .int 0, .int 0, .int 0, .int 0])), (q_1, .inl (G.2.1 0, 8, .inl (fun _ => 0)))] H := hP
  have hD : va_D A [(h0, .inr (5, [.ref q_1, .null, .null, .null, .null, .null, .null, .null, .null, .null, .null, .null, .int 0, .int 0, .int 0, .int 0, .int 0])), (q_1, .inl (G.2.1 0, 8, .inl (fun _ => 0)))] := hD
  refine lv_aload_n hx hb dX3_init_12 rfl (lv_at hl 0 rfl) ?_
  refine lv_bipush (v := 20) hx hb dX3_init_13 (by decide) ?_
  refine zNewi (N := 20) hx hb (hts (.arrayClass .int) (List.mem_of_getElem? (i := 4) (by decide +kernel))) hK hP hD hS hA (by decide) (by decide) (by decide) (Nat.le_of_ble_eq_true rfl) (Nat.le_of_ble_eq_true rfl) dX3_init_15 (fun q_2 H hP hD hS => ?_)
  have hP : zP G [(h0, .inr (5, [.ref q_1, .null, .null, .null, .null, .null, .null, .null, .null, .null, .null, .null, .int 0, .int 0, .int 0, .int 0, .int 0])), (q_1, .inl (G.2.1 0, 8, .inl (fun _ => 0))), (q_2, .inl (G.2.1 0, 20, .inl (fun _ => 0)))] H := hP
  have hD : va_D A [(h0, .inr (5, [.ref q_1, .null, .null, .null, .null, .null, .null, .null, .null, .null, .null, .null, .int 0, .int 0, .int 0, .int 0, .int 0])), (q_1, .inl (G.2.1 0, 8, .inl (fun _ => 0))), (q_2, .inl (G.2.1 0, 20, .inl (fun _ => 0)))] := hD
  refine va_putF (D := G.1) (ci := 5) (v := .ref q_2) (ty := .array .int) (C := RX3) (T := TX3) (N := 17) hx hb hts wsi_X3_init_X3 tyX3 tyX3_ok nmX3 hown hK hP hD hS 0 rfl rfl 1 (by decide) (hts (.fieldLink "CellarschedulerModel" 13 "CellarschedulerModel" "bt" "[I") (List.mem_of_getElem? (i := 6) (by decide +kernel))) (fun _ h9 => h9) rfl hin rfl (by decide +kernel) rfl rfl (Nat.le_of_ble_eq_true rfl) dX3_init_17 (fun H locs hP hD hS => ?_)
  have hP : zP G [(h0, .inr (5, [.ref q_1, .ref q_2, .null, .null, .null, .null, .null, .null, .null, .null, .null, .null, .int 0, .int 0, .int 0, .int 0, .int 0])), (q_1, .inl (G.2.1 0, 8, .inl (fun _ => 0))), (q_2, .inl (G.2.1 0, 20, .inl (fun _ => 0)))] H := hP
  have hD : va_D A [(h0, .inr (5, [.ref q_1, .ref q_2, .null, .null, .null, .null, .null, .null, .null, .null, .null, .null, .int 0, .int 0, .int 0, .int 0, .int 0])), (q_1, .inl (G.2.1 0, 8, .inl (fun _ => 0))), (q_2, .inl (G.2.1 0, 20, .inl (fun _ => 0)))] := hD
  refine lv_aload_n hx hb dX3_init_20 rfl (lv_at hl 0 rfl) ?_
  refine lv_bipush (v := 20) hx hb dX3_init_21 (by decide) ?_
  refine zNewi (N := 20) hx hb (hts (.arrayClass .int) (List.mem_of_getElem? (i := 4) (by decide +kernel))) hK hP hD hS hA (by decide) (by decide) (by decide) (Nat.le_of_ble_eq_true rfl) (Nat.le_of_ble_eq_true rfl) dX3_init_23 (fun q_3 H hP hD hS => ?_)
  have hP : zP G [(h0, .inr (5, [.ref q_1, .ref q_2, .null, .null, .null, .null, .null, .null, .null, .null, .null, .null, .int 0, .int 0, .int 0, .int 0, .int 0])), (q_1, .inl (G.2.1 0, 8, .inl (fun _ => 0))), (q_2, .inl (G.2.1 0, 20, .inl (fun _ => 0))), (q_3, .inl (G.2.1 0, 20, .inl (fun _ => 0)))] H := hP
  have hD : va_D A [(h0, .inr (5, [.ref q_1, .ref q_2, .null, .null, .null, .null, .null, .null, .null, .null, .null, .null, .int 0, .int 0, .int 0, .int 0, .int 0])), (q_1, .inl (G.2.1 0, 8, .inl (fun _ => 0))), (q_2, .inl (G.2.1 0, 20, .inl (fun _ => 0))), (q_3, .inl (G.2.1 0, 20, .inl (fun _ => 0)))] := hD
  refine va_putF (D := G.1) (ci := 5) (v := .ref q_3) (ty := .array .int) (C := RX3) (T := TX3) (N := 17) hx hb hts wsi_X3_init_X3 tyX3 tyX3_ok nmX3 hown hK hP hD hS 0 rfl rfl 2 (by decide) (hts (.fieldLink "CellarschedulerModel" 16 "CellarschedulerModel" "bl" "[I") (List.mem_of_getElem? (i := 7) (by decide +kernel))) (fun _ h9 => h9) rfl hin rfl (by decide +kernel) rfl rfl (Nat.le_of_ble_eq_true rfl) dX3_init_25 (fun H locs hP hD hS => ?_)
  have hP : zP G [(h0, .inr (5, [.ref q_1, .ref q_2, .ref q_3, .null, .null, .null, .null, .null, .null, .null, .null, .null, .int 0, .int 0, .int 0, .int 0, .int 0])), (q_1, .inl (G.2.1 0, 8, .inl (fun _ => 0))), (q_2, .inl (G.2.1 0, 20, .inl (fun _ => 0))), (q_3, .inl (G.2.1 0, 20, .inl (fun _ => 0)))] H := hP
  have hD : va_D A [(h0, .inr (5, [.ref q_1, .ref q_2, .ref q_3, .null, .null, .null, .null, .null, .null, .null, .null, .null, .int 0, .int 0, .int 0, .int 0, .int 0])), (q_1, .inl (G.2.1 0, 8, .inl (fun _ => 0))), (q_2, .inl (G.2.1 0, 20, .inl (fun _ => 0))), (q_3, .inl (G.2.1 0, 20, .inl (fun _ => 0)))] := hD
  refine lv_aload_n hx hb dX3_init_28 rfl (lv_at hl 0 rfl) ?_
  refine lv_bipush (v := 20) hx hb dX3_init_29 (by decide) ?_
  refine zNewi (N := 20) hx hb (hts (.arrayClass .int) (List.mem_of_getElem? (i := 4) (by decide +kernel))) hK hP hD hS hA (by decide) (by decide) (by decide) (Nat.le_of_ble_eq_true rfl) (Nat.le_of_ble_eq_true rfl) dX3_init_31 (fun q_4 H hP hD hS => ?_)
  have hP : zP G [(h0, .inr (5, [.ref q_1, .ref q_2, .ref q_3, .null, .null, .null, .null, .null, .null, .null, .null, .null, .int 0, .int 0, .int 0, .int 0, .int 0])), (q_1, .inl (G.2.1 0, 8, .inl (fun _ => 0))), (q_2, .inl (G.2.1 0, 20, .inl (fun _ => 0))), (q_3, .inl (G.2.1 0, 20, .inl (fun _ => 0))), (q_4, .inl (G.2.1 0, 20, .inl (fun _ => 0)))] H := hP
  have hD : va_D A [(h0, .inr (5, [.ref q_1, .ref q_2, .ref q_3, .null, .null, .null, .null, .null, .null, .null, .null, .null, .int 0, .int 0, .int 0, .int 0, .int 0])), (q_1, .inl (G.2.1 0, 8, .inl (fun _ => 0))), (q_2, .inl (G.2.1 0, 20, .inl (fun _ => 0))), (q_3, .inl (G.2.1 0, 20, .inl (fun _ => 0))), (q_4, .inl (G.2.1 0, 20, .inl (fun _ => 0)))] := hD
  refine va_putF (D := G.1) (ci := 5) (v := .ref q_4) (ty := .array .int) (C := RX3) (T := TX3) (N := 17) hx hb hts wsi_X3_init_X3 tyX3 tyX3_ok nmX3 hown hK hP hD hS 0 rfl rfl 3 (by decide) (hts (.fieldLink "CellarschedulerModel" 19 "CellarschedulerModel" "bd" "[I") (List.mem_of_getElem? (i := 8) (by decide +kernel))) (fun _ h9 => h9) rfl hin rfl (by decide +kernel) rfl rfl (Nat.le_of_ble_eq_true rfl) dX3_init_33 (fun H locs hP hD hS => ?_)
  have hP : zP G [(h0, .inr (5, [.ref q_1, .ref q_2, .ref q_3, .ref q_4, .null, .null, .null, .null, .null, .null, .null, .null, .int 0, .int 0, .int 0, .int 0, .int 0])), (q_1, .inl (G.2.1 0, 8, .inl (fun _ => 0))), (q_2, .inl (G.2.1 0, 20, .inl (fun _ => 0))), (q_3, .inl (G.2.1 0, 20, .inl (fun _ => 0))), (q_4, .inl (G.2.1 0, 20, .inl (fun _ => 0)))] H := hP
  have hD : va_D A [(h0, .inr (5, [.ref q_1, .ref q_2, .ref q_3, .ref q_4, .null, .null, .null, .null, .null, .null, .null, .null, .int 0, .int 0, .int 0, .int 0, .int 0])), (q_1, .inl (G.2.1 0, 8, .inl (fun _ => 0))), (q_2, .inl (G.2.1 0, 20, .inl (fun _ => 0))), (q_3, .inl (G.2.1 0, 20, .inl (fun _ => 0))), (q_4, .inl (G.2.1 0, 20, .inl (fun _ => 0)))] := hD
  refine lv_aload_n hx hb dX3_init_36 rfl (lv_at hl 0 rfl) ?_
  refine lv_bipush (v := 20) hx hb dX3_init_37 (by decide) ?_
  refine zNewi (N := 20) hx hb (hts (.arrayClass .int) (List.mem_of_getElem? (i := 4) (by decide +kernel))) hK hP hD hS hA (by decide) (by decide) (by decide) (Nat.le_of_ble_eq_true rfl) (Nat.le_of_ble_eq_true rfl) dX3_init_39 (fun q_5 H hP hD hS => ?_)
  have hP : zP G [(h0, .inr (5, [.ref q_1, .ref q_2, .ref q_3, .ref q_4, .null, .null, .null, .null, .null, .null, .null, .null, .int 0, .int 0, .int 0, .int 0, .int 0])), (q_1, .inl (G.2.1 0, 8, .inl (fun _ => 0))), (q_2, .inl (G.2.1 0, 20, .inl (fun _ => 0))), (q_3, .inl (G.2.1 0, 20, .inl (fun _ => 0))), (q_4, .inl (G.2.1 0, 20, .inl (fun _ => 0))), (q_5, .inl (G.2.1 0, 20, .inl (fun _ => 0)))] H := hP
  have hD : va_D A [(h0, .inr (5, [.ref q_1, .ref q_2, .ref q_3, .ref q_4, .null, .null, .null, .null, .null, .null, .null, .null, .int 0, .int 0, .int 0, .int 0, .int 0])), (q_1, .inl (G.2.1 0, 8, .inl (fun _ => 0))), (q_2, .inl (G.2.1 0, 20, .inl (fun _ => 0))), (q_3, .inl (G.2.1 0, 20, .inl (fun _ => 0))), (q_4, .inl (G.2.1 0, 20, .inl (fun _ => 0))), (q_5, .inl (G.2.1 0, 20, .inl (fun _ => 0)))] := hD
  refine va_putF (D := G.1) (ci := 5) (v := .ref q_5) (ty := .array .int) (C := RX3) (T := TX3) (N := 17) hx hb hts wsi_X3_init_X3 tyX3 tyX3_ok nmX3 hown hK hP hD hS 0 rfl rfl 4 (by decide) (hts (.fieldLink "CellarschedulerModel" 22 "CellarschedulerModel" "by" "[I") (List.mem_of_getElem? (i := 9) (by decide +kernel))) (fun _ h9 => h9) rfl hin rfl (by decide +kernel) rfl rfl (Nat.le_of_ble_eq_true rfl) dX3_init_41 (fun H locs hP hD hS => ?_)
  have hP : zP G [(h0, .inr (5, [.ref q_1, .ref q_2, .ref q_3, .ref q_4, .ref q_5, .null, .null, .null, .null, .null, .null, .null, .int 0, .int 0, .int 0, .int 0, .int 0])), (q_1, .inl (G.2.1 0, 8, .inl (fun _ => 0))), (q_2, .inl (G.2.1 0, 20, .inl (fun _ => 0))), (q_3, .inl (G.2.1 0, 20, .inl (fun _ => 0))), (q_4, .inl (G.2.1 0, 20, .inl (fun _ => 0))), (q_5, .inl (G.2.1 0, 20, .inl (fun _ => 0)))] H := hP
  have hD : va_D A [(h0, .inr (5, [.ref q_1, .ref q_2, .ref q_3, .ref q_4, .ref q_5, .null, .null, .null, .null, .null, .null, .null, .int 0, .int 0, .int 0, .int 0, .int 0])), (q_1, .inl (G.2.1 0, 8, .inl (fun _ => 0))), (q_2, .inl (G.2.1 0, 20, .inl (fun _ => 0))), (q_3, .inl (G.2.1 0, 20, .inl (fun _ => 0))), (q_4, .inl (G.2.1 0, 20, .inl (fun _ => 0))), (q_5, .inl (G.2.1 0, 20, .inl (fun _ => 0)))] := hD
  refine lv_aload_n hx hb dX3_init_44 rfl (lv_at hl 0 rfl) ?_
  refine lv_bipush (v := 20) hx hb dX3_init_45 (by decide) ?_
  refine zNewi (N := 20) hx hb (hts (.arrayClass .int) (List.mem_of_getElem? (i := 4) (by decide +kernel))) hK hP hD hS hA (by decide) (by decide) (by decide) (Nat.le_of_ble_eq_true rfl) (Nat.le_of_ble_eq_true rfl) dX3_init_47 (fun q_6 H hP hD hS => ?_)
  have hP : zP G [(h0, .inr (5, [.ref q_1, .ref q_2, .ref q_3, .ref q_4, .ref q_5, .null, .null, .null, .null, .null, .null, .null, .int 0, .int 0, .int 0, .int 0, .int 0])), (q_1, .inl (G.2.1 0, 8, .inl (fun _ => 0))), (q_2, .inl (G.2.1 0, 20, .inl (fun _ => 0))), (q_3, .inl (G.2.1 0, 20, .inl (fun _ => 0))), (q_4, .inl (G.2.1 0, 20, .inl (fun _ => 0))), (q_5, .inl (G.2.1 0, 20, .inl (fun _ => 0))), (q_6, .inl (G.2.1 0, 20, .inl (fun _ => 0)))] H := hP
  have hD : va_D A [(h0, .inr (5, [.ref q_1, .ref q_2, .ref q_3, .ref q_4, .ref q_5, .null, .null, .null, .null, .null, .null, .null, .int 0, .int 0, .int 0, .int 0, .int 0])), (q_1, .inl (G.2.1 0, 8, .inl (fun _ => 0))), (q_2, .inl (G.2.1 0, 20, .inl (fun _ => 0))), (q_3, .inl (G.2.1 0, 20, .inl (fun _ => 0))), (q_4, .inl (G.2.1 0, 20, .inl (fun _ => 0))), (q_5, .inl (G.2.1 0, 20, .inl (fun _ => 0))), (q_6, .inl (G.2.1 0, 20, .inl (fun _ => 0)))] := hD
  refine va_putF (D := G.1) (ci := 5) (v := .ref q_6) (ty := .array .int) (C := RX3) (T := TX3) (N := 17) hx hb hts wsi_X3_init_X3 tyX3 tyX3_ok nmX3 hown hK hP hD hS 0 rfl rfl 5 (by decide) (hts (.fieldLink "CellarschedulerModel" 25 "CellarschedulerModel" "bs" "[I") (List.mem_of_getElem? (i := 10) (by decide +kernel))) (fun _ h9 => h9) rfl hin rfl (by decide +kernel) rfl rfl (Nat.le_of_ble_eq_true rfl) dX3_init_49 (fun H locs hP hD hS => ?_)
  have hP : zP G [(h0, .inr (5, [.ref q_1, .ref q_2, .ref q_3, .ref q_4, .ref q_5, .ref q_6, .null, .null, .null, .null, .null, .null, .int 0, .int 0, .int 0, .int 0, .int 0])), (q_1, .inl (G.2.1 0, 8, .inl (fun _ => 0))), (q_2, .inl (G.2.1 0, 20, .inl (fun _ => 0))), (q_3, .inl (G.2.1 0, 20, .inl (fun _ => 0))), (q_4, .inl (G.2.1 0, 20, .inl (fun _ => 0))), (q_5, .inl (G.2.1 0, 20, .inl (fun _ => 0))), (q_6, .inl (G.2.1 0, 20, .inl (fun _ => 0)))] H := hP
  have hD : va_D A [(h0, .inr (5, [.ref q_1, .ref q_2, .ref q_3, .ref q_4, .ref q_5, .ref q_6, .null, .null, .null, .null, .null, .null, .int 0, .int 0, .int 0, .int 0, .int 0])), (q_1, .inl (G.2.1 0, 8, .inl (fun _ => 0))), (q_2, .inl (G.2.1 0, 20, .inl (fun _ => 0))), (q_3, .inl (G.2.1 0, 20, .inl (fun _ => 0))), (q_4, .inl (G.2.1 0, 20, .inl (fun _ => 0))), (q_5, .inl (G.2.1 0, 20, .inl (fun _ => 0))), (q_6, .inl (G.2.1 0, 20, .inl (fun _ => 0)))] := hD
  refine lv_aload_n hx hb dX3_init_52 rfl (lv_at hl 0 rfl) ?_
  refine lv_bipush (v := 20) hx hb dX3_init_53 (by decide) ?_
  refine zNewi (N := 20) hx hb (hts (.arrayClass .int) (List.mem_of_getElem? (i := 4) (by decide +kernel))) hK hP hD hS hA (by decide) (by decide) (by decide) (Nat.le_of_ble_eq_true rfl) (Nat.le_of_ble_eq_true rfl) dX3_init_55 (fun q_7 H hP hD hS => ?_)
  have hP : zP G [(h0, .inr (5, [.ref q_1, .ref q_2, .ref q_3, .ref q_4, .ref q_5, .ref q_6, .null, .null, .null, .null, .null, .null, .int 0, .int 0, .int 0, .int 0, .int 0])), (q_1, .inl (G.2.1 0, 8, .inl (fun _ => 0))), (q_2, .inl (G.2.1 0, 20, .inl (fun _ => 0))), (q_3, .inl (G.2.1 0, 20, .inl (fun _ => 0))), (q_4, .inl (G.2.1 0, 20, .inl (fun _ => 0))), (q_5, .inl (G.2.1 0, 20, .inl (fun _ => 0))), (q_6, .inl (G.2.1 0, 20, .inl (fun _ => 0))), (q_7, .inl (G.2.1 0, 20, .inl (fun _ => 0)))] H := hP
  have hD : va_D A [(h0, .inr (5, [.ref q_1, .ref q_2, .ref q_3, .ref q_4, .ref q_5, .ref q_6, .null, .null, .null, .null, .null, .null, .int 0, .int 0, .int 0, .int 0, .int 0])), (q_1, .inl (G.2.1 0, 8, .inl (fun _ => 0))), (q_2, .inl (G.2.1 0, 20, .inl (fun _ => 0))), (q_3, .inl (G.2.1 0, 20, .inl (fun _ => 0))), (q_4, .inl (G.2.1 0, 20, .inl (fun _ => 0))), (q_5, .inl (G.2.1 0, 20, .inl (fun _ => 0))), (q_6, .inl (G.2.1 0, 20, .inl (fun _ => 0))), (q_7, .inl (G.2.1 0, 20, .inl (fun _ => 0)))] := hD
  refine va_putF (D := G.1) (ci := 5) (v := .ref q_7) (ty := .array .int) (C := RX3) (T := TX3) (N := 17) hx hb hts wsi_X3_init_X3 tyX3 tyX3_ok nmX3 hown hK hP hD hS 0 rfl rfl 6 (by decide) (hts (.fieldLink "CellarschedulerModel" 28 "CellarschedulerModel" "bm" "[I") (List.mem_of_getElem? (i := 11) (by decide +kernel))) (fun _ h9 => h9) rfl hin rfl (by decide +kernel) rfl rfl (Nat.le_of_ble_eq_true rfl) dX3_init_57 (fun H locs hP hD hS => ?_)
  have hP : zP G [(h0, .inr (5, [.ref q_1, .ref q_2, .ref q_3, .ref q_4, .ref q_5, .ref q_6, .ref q_7, .null, .null, .null, .null, .null, .int 0, .int 0, .int 0, .int 0, .int 0])), (q_1, .inl (G.2.1 0, 8, .inl (fun _ => 0))), (q_2, .inl (G.2.1 0, 20, .inl (fun _ => 0))), (q_3, .inl (G.2.1 0, 20, .inl (fun _ => 0))), (q_4, .inl (G.2.1 0, 20, .inl (fun _ => 0))), (q_5, .inl (G.2.1 0, 20, .inl (fun _ => 0))), (q_6, .inl (G.2.1 0, 20, .inl (fun _ => 0))), (q_7, .inl (G.2.1 0, 20, .inl (fun _ => 0)))] H := hP
  have hD : va_D A [(h0, .inr (5, [.ref q_1, .ref q_2, .ref q_3, .ref q_4, .ref q_5, .ref q_6, .ref q_7, .null, .null, .null, .null, .null, .int 0, .int 0, .int 0, .int 0, .int 0])), (q_1, .inl (G.2.1 0, 8, .inl (fun _ => 0))), (q_2, .inl (G.2.1 0, 20, .inl (fun _ => 0))), (q_3, .inl (G.2.1 0, 20, .inl (fun _ => 0))), (q_4, .inl (G.2.1 0, 20, .inl (fun _ => 0))), (q_5, .inl (G.2.1 0, 20, .inl (fun _ => 0))), (q_6, .inl (G.2.1 0, 20, .inl (fun _ => 0))), (q_7, .inl (G.2.1 0, 20, .inl (fun _ => 0)))] := hD
  refine lv_aload_n hx hb dX3_init_60 rfl (lv_at hl 0 rfl) ?_
  refine lv_bipush (v := 20) hx hb dX3_init_61 (by decide) ?_
  refine zNewi (N := 20) hx hb (hts (.arrayClass .int) (List.mem_of_getElem? (i := 4) (by decide +kernel))) hK hP hD hS hA (by decide) (by decide) (by decide) (Nat.le_of_ble_eq_true rfl) (Nat.le_of_ble_eq_true rfl) dX3_init_63 (fun q_8 H hP hD hS => ?_)
  have hP : zP G [(h0, .inr (5, [.ref q_1, .ref q_2, .ref q_3, .ref q_4, .ref q_5, .ref q_6, .ref q_7, .null, .null, .null, .null, .null, .int 0, .int 0, .int 0, .int 0, .int 0])), (q_1, .inl (G.2.1 0, 8, .inl (fun _ => 0))), (q_2, .inl (G.2.1 0, 20, .inl (fun _ => 0))), (q_3, .inl (G.2.1 0, 20, .inl (fun _ => 0))), (q_4, .inl (G.2.1 0, 20, .inl (fun _ => 0))), (q_5, .inl (G.2.1 0, 20, .inl (fun _ => 0))), (q_6, .inl (G.2.1 0, 20, .inl (fun _ => 0))), (q_7, .inl (G.2.1 0, 20, .inl (fun _ => 0))), (q_8, .inl (G.2.1 0, 20, .inl (fun _ => 0)))] H := hP
  have hD : va_D A [(h0, .inr (5, [.ref q_1, .ref q_2, .ref q_3, .ref q_4, .ref q_5, .ref q_6, .ref q_7, .null, .null, .null, .null, .null, .int 0, .int 0, .int 0, .int 0, .int 0])), (q_1, .inl (G.2.1 0, 8, .inl (fun _ => 0))), (q_2, .inl (G.2.1 0, 20, .inl (fun _ => 0))), (q_3, .inl (G.2.1 0, 20, .inl (fun _ => 0))), (q_4, .inl (G.2.1 0, 20, .inl (fun _ => 0))), (q_5, .inl (G.2.1 0, 20, .inl (fun _ => 0))), (q_6, .inl (G.2.1 0, 20, .inl (fun _ => 0))), (q_7, .inl (G.2.1 0, 20, .inl (fun _ => 0))), (q_8, .inl (G.2.1 0, 20, .inl (fun _ => 0)))] := hD
  refine va_putF (D := G.1) (ci := 5) (v := .ref q_8) (ty := .array .int) (C := RX3) (T := TX3) (N := 17) hx hb hts wsi_X3_init_X3 tyX3 tyX3_ok nmX3 hown hK hP hD hS 0 rfl rfl 7 (by decide) (hts (.fieldLink "CellarschedulerModel" 31 "CellarschedulerModel" "left" "[I") (List.mem_of_getElem? (i := 12) (by decide +kernel))) (fun _ h9 => h9) rfl hin rfl (by decide +kernel) rfl rfl (Nat.le_of_ble_eq_true rfl) dX3_init_65 (fun H locs hP hD hS => ?_)
  have hP : zP G [(h0, .inr (5, [.ref q_1, .ref q_2, .ref q_3, .ref q_4, .ref q_5, .ref q_6, .ref q_7, .ref q_8, .null, .null, .null, .null, .int 0, .int 0, .int 0, .int 0, .int 0])), (q_1, .inl (G.2.1 0, 8, .inl (fun _ => 0))), (q_2, .inl (G.2.1 0, 20, .inl (fun _ => 0))), (q_3, .inl (G.2.1 0, 20, .inl (fun _ => 0))), (q_4, .inl (G.2.1 0, 20, .inl (fun _ => 0))), (q_5, .inl (G.2.1 0, 20, .inl (fun _ => 0))), (q_6, .inl (G.2.1 0, 20, .inl (fun _ => 0))), (q_7, .inl (G.2.1 0, 20, .inl (fun _ => 0))), (q_8, .inl (G.2.1 0, 20, .inl (fun _ => 0)))] H := hP
  have hD : va_D A [(h0, .inr (5, [.ref q_1, .ref q_2, .ref q_3, .ref q_4, .ref q_5, .ref q_6, .ref q_7, .ref q_8, .null, .null, .null, .null, .int 0, .int 0, .int 0, .int 0, .int 0])), (q_1, .inl (G.2.1 0, 8, .inl (fun _ => 0))), (q_2, .inl (G.2.1 0, 20, .inl (fun _ => 0))), (q_3, .inl (G.2.1 0, 20, .inl (fun _ => 0))), (q_4, .inl (G.2.1 0, 20, .inl (fun _ => 0))), (q_5, .inl (G.2.1 0, 20, .inl (fun _ => 0))), (q_6, .inl (G.2.1 0, 20, .inl (fun _ => 0))), (q_7, .inl (G.2.1 0, 20, .inl (fun _ => 0))), (q_8, .inl (G.2.1 0, 20, .inl (fun _ => 0)))] := hD
  refine lv_aload_n hx hb dX3_init_68 rfl (lv_at hl 0 rfl) ?_
  refine lv_bipush (v := 20) hx hb dX3_init_69 (by decide) ?_
  refine zNewi (N := 20) hx hb (hts (.arrayClass .int) (List.mem_of_getElem? (i := 4) (by decide +kernel))) hK hP hD hS hA (by decide) (by decide) (by decide) (Nat.le_of_ble_eq_true rfl) (Nat.le_of_ble_eq_true rfl) dX3_init_71 (fun q_9 H hP hD hS => ?_)
  have hP : zP G [(h0, .inr (5, [.ref q_1, .ref q_2, .ref q_3, .ref q_4, .ref q_5, .ref q_6, .ref q_7, .ref q_8, .null, .null, .null, .null, .int 0, .int 0, .int 0, .int 0, .int 0])), (q_1, .inl (G.2.1 0, 8, .inl (fun _ => 0))), (q_2, .inl (G.2.1 0, 20, .inl (fun _ => 0))), (q_3, .inl (G.2.1 0, 20, .inl (fun _ => 0))), (q_4, .inl (G.2.1 0, 20, .inl (fun _ => 0))), (q_5, .inl (G.2.1 0, 20, .inl (fun _ => 0))), (q_6, .inl (G.2.1 0, 20, .inl (fun _ => 0))), (q_7, .inl (G.2.1 0, 20, .inl (fun _ => 0))), (q_8, .inl (G.2.1 0, 20, .inl (fun _ => 0))), (q_9, .inl (G.2.1 0, 20, .inl (fun _ => 0)))] H := hP
  have hD : va_D A [(h0, .inr (5, [.ref q_1, .ref q_2, .ref q_3, .ref q_4, .ref q_5, .ref q_6, .ref q_7, .ref q_8, .null, .null, .null, .null, .int 0, .int 0, .int 0, .int 0, .int 0])), (q_1, .inl (G.2.1 0, 8, .inl (fun _ => 0))), (q_2, .inl (G.2.1 0, 20, .inl (fun _ => 0))), (q_3, .inl (G.2.1 0, 20, .inl (fun _ => 0))), (q_4, .inl (G.2.1 0, 20, .inl (fun _ => 0))), (q_5, .inl (G.2.1 0, 20, .inl (fun _ => 0))), (q_6, .inl (G.2.1 0, 20, .inl (fun _ => 0))), (q_7, .inl (G.2.1 0, 20, .inl (fun _ => 0))), (q_8, .inl (G.2.1 0, 20, .inl (fun _ => 0))), (q_9, .inl (G.2.1 0, 20, .inl (fun _ => 0)))] := hD
  refine va_putF (D := G.1) (ci := 5) (v := .ref q_9) (ty := .array .int) (C := RX3) (T := TX3) (N := 17) hx hb hts wsi_X3_init_X3 tyX3 tyX3_ok nmX3 hown hK hP hD hS 0 rfl rfl 8 (by decide) (hts (.fieldLink "CellarschedulerModel" 34 "CellarschedulerModel" "leftClass" "[I") (List.mem_of_getElem? (i := 13) (by decide +kernel))) (fun _ h9 => h9) rfl hin rfl (by decide +kernel) rfl rfl (Nat.le_of_ble_eq_true rfl) dX3_init_73 (fun H locs hP hD hS => ?_)
  have hP : zP G [(h0, .inr (5, [.ref q_1, .ref q_2, .ref q_3, .ref q_4, .ref q_5, .ref q_6, .ref q_7, .ref q_8, .ref q_9, .null, .null, .null, .int 0, .int 0, .int 0, .int 0, .int 0])), (q_1, .inl (G.2.1 0, 8, .inl (fun _ => 0))), (q_2, .inl (G.2.1 0, 20, .inl (fun _ => 0))), (q_3, .inl (G.2.1 0, 20, .inl (fun _ => 0))), (q_4, .inl (G.2.1 0, 20, .inl (fun _ => 0))), (q_5, .inl (G.2.1 0, 20, .inl (fun _ => 0))), (q_6, .inl (G.2.1 0, 20, .inl (fun _ => 0))), (q_7, .inl (G.2.1 0, 20, .inl (fun _ => 0))), (q_8, .inl (G.2.1 0, 20, .inl (fun _ => 0))), (q_9, .inl (G.2.1 0, 20, .inl (fun _ => 0)))] H := hP
  have hD : va_D A [(h0, .inr (5, [.ref q_1, .ref q_2, .ref q_3, .ref q_4, .ref q_5, .ref q_6, .ref q_7, .ref q_8, .ref q_9, .null, .null, .null, .int 0, .int 0, .int 0, .int 0, .int 0])), (q_1, .inl (G.2.1 0, 8, .inl (fun _ => 0))), (q_2, .inl (G.2.1 0, 20, .inl (fun _ => 0))), (q_3, .inl (G.2.1 0, 20, .inl (fun _ => 0))), (q_4, .inl (G.2.1 0, 20, .inl (fun _ => 0))), (q_5, .inl (G.2.1 0, 20, .inl (fun _ => 0))), (q_6, .inl (G.2.1 0, 20, .inl (fun _ => 0))), (q_7, .inl (G.2.1 0, 20, .inl (fun _ => 0))), (q_8, .inl (G.2.1 0, 20, .inl (fun _ => 0))), (q_9, .inl (G.2.1 0, 20, .inl (fun _ => 0)))] := hD
  refine lv_aload_n hx hb dX3_init_76 rfl (lv_at hl 0 rfl) ?_
  refine lv_bipush (v := 20) hx hb dX3_init_77 (by decide) ?_
  refine zNewi (N := 20) hx hb (hts (.arrayClass .int) (List.mem_of_getElem? (i := 4) (by decide +kernel))) hK hP hD hS hA (by decide) (by decide) (by decide) (Nat.le_of_ble_eq_true rfl) (Nat.le_of_ble_eq_true rfl) dX3_init_79 (fun q_10 H hP hD hS => ?_)
  have hP : zP G [(h0, .inr (5, [.ref q_1, .ref q_2, .ref q_3, .ref q_4, .ref q_5, .ref q_6, .ref q_7, .ref q_8, .ref q_9, .null, .null, .null, .int 0, .int 0, .int 0, .int 0, .int 0])), (q_1, .inl (G.2.1 0, 8, .inl (fun _ => 0))), (q_2, .inl (G.2.1 0, 20, .inl (fun _ => 0))), (q_3, .inl (G.2.1 0, 20, .inl (fun _ => 0))), (q_4, .inl (G.2.1 0, 20, .inl (fun _ => 0))), (q_5, .inl (G.2.1 0, 20, .inl (fun _ => 0))), (q_6, .inl (G.2.1 0, 20, .inl (fun _ => 0))), (q_7, .inl (G.2.1 0, 20, .inl (fun _ => 0))), (q_8, .inl (G.2.1 0, 20, .inl (fun _ => 0))), (q_9, .inl (G.2.1 0, 20, .inl (fun _ => 0))), (q_10, .inl (G.2.1 0, 20, .inl (fun _ => 0)))] H := hP
  have hD : va_D A [(h0, .inr (5, [.ref q_1, .ref q_2, .ref q_3, .ref q_4, .ref q_5, .ref q_6, .ref q_7, .ref q_8, .ref q_9, .null, .null, .null, .int 0, .int 0, .int 0, .int 0, .int 0])), (q_1, .inl (G.2.1 0, 8, .inl (fun _ => 0))), (q_2, .inl (G.2.1 0, 20, .inl (fun _ => 0))), (q_3, .inl (G.2.1 0, 20, .inl (fun _ => 0))), (q_4, .inl (G.2.1 0, 20, .inl (fun _ => 0))), (q_5, .inl (G.2.1 0, 20, .inl (fun _ => 0))), (q_6, .inl (G.2.1 0, 20, .inl (fun _ => 0))), (q_7, .inl (G.2.1 0, 20, .inl (fun _ => 0))), (q_8, .inl (G.2.1 0, 20, .inl (fun _ => 0))), (q_9, .inl (G.2.1 0, 20, .inl (fun _ => 0))), (q_10, .inl (G.2.1 0, 20, .inl (fun _ => 0)))] := hD
  refine va_putF (D := G.1) (ci := 5) (v := .ref q_10) (ty := .array .int) (C := RX3) (T := TX3) (N := 17) hx hb hts wsi_X3_init_X3 tyX3 tyX3_ok nmX3 hown hK hP hD hS 0 rfl rfl 9 (by decide) (hts (.fieldLink "CellarschedulerModel" 37 "CellarschedulerModel" "gone" "[I") (List.mem_of_getElem? (i := 14) (by decide +kernel))) (fun _ h9 => h9) rfl hin rfl (by decide +kernel) rfl rfl (Nat.le_of_ble_eq_true rfl) dX3_init_81 (fun H locs hP hD hS => ?_)
  have hP : zP G [(h0, .inr (5, [.ref q_1, .ref q_2, .ref q_3, .ref q_4, .ref q_5, .ref q_6, .ref q_7, .ref q_8, .ref q_9, .ref q_10, .null, .null, .int 0, .int 0, .int 0, .int 0, .int 0])), (q_1, .inl (G.2.1 0, 8, .inl (fun _ => 0))), (q_2, .inl (G.2.1 0, 20, .inl (fun _ => 0))), (q_3, .inl (G.2.1 0, 20, .inl (fun _ => 0))), (q_4, .inl (G.2.1 0, 20, .inl (fun _ => 0))), (q_5, .inl (G.2.1 0, 20, .inl (fun _ => 0))), (q_6, .inl (G.2.1 0, 20, .inl (fun _ => 0))), (q_7, .inl (G.2.1 0, 20, .inl (fun _ => 0))), (q_8, .inl (G.2.1 0, 20, .inl (fun _ => 0))), (q_9, .inl (G.2.1 0, 20, .inl (fun _ => 0))), (q_10, .inl (G.2.1 0, 20, .inl (fun _ => 0)))] H := hP
  have hD : va_D A [(h0, .inr (5, [.ref q_1, .ref q_2, .ref q_3, .ref q_4, .ref q_5, .ref q_6, .ref q_7, .ref q_8, .ref q_9, .ref q_10, .null, .null, .int 0, .int 0, .int 0, .int 0, .int 0])), (q_1, .inl (G.2.1 0, 8, .inl (fun _ => 0))), (q_2, .inl (G.2.1 0, 20, .inl (fun _ => 0))), (q_3, .inl (G.2.1 0, 20, .inl (fun _ => 0))), (q_4, .inl (G.2.1 0, 20, .inl (fun _ => 0))), (q_5, .inl (G.2.1 0, 20, .inl (fun _ => 0))), (q_6, .inl (G.2.1 0, 20, .inl (fun _ => 0))), (q_7, .inl (G.2.1 0, 20, .inl (fun _ => 0))), (q_8, .inl (G.2.1 0, 20, .inl (fun _ => 0))), (q_9, .inl (G.2.1 0, 20, .inl (fun _ => 0))), (q_10, .inl (G.2.1 0, 20, .inl (fun _ => 0)))] := hD
  refine lv_aload_n hx hb dX3_init_84 rfl (lv_at hl 0 rfl) ?_
  refine lv_bipush (v := 20) hx hb dX3_init_85 (by decide) ?_
  refine zNewi (N := 20) hx hb (hts (.arrayClass .int) (List.mem_of_getElem? (i := 4) (by decide +kernel))) hK hP hD hS hA (by decide) (by decide) (by decide) (Nat.le_of_ble_eq_true rfl) (Nat.le_of_ble_eq_true rfl) dX3_init_87 (fun q_11 H hP hD hS => ?_)
  have hP : zP G [(h0, .inr (5, [.ref q_1, .ref q_2, .ref q_3, .ref q_4, .ref q_5, .ref q_6, .ref q_7, .ref q_8, .ref q_9, .ref q_10, .null, .null, .int 0, .int 0, .int 0, .int 0, .int 0])), (q_1, .inl (G.2.1 0, 8, .inl (fun _ => 0))), (q_2, .inl (G.2.1 0, 20, .inl (fun _ => 0))), (q_3, .inl (G.2.1 0, 20, .inl (fun _ => 0))), (q_4, .inl (G.2.1 0, 20, .inl (fun _ => 0))), (q_5, .inl (G.2.1 0, 20, .inl (fun _ => 0))), (q_6, .inl (G.2.1 0, 20, .inl (fun _ => 0))), (q_7, .inl (G.2.1 0, 20, .inl (fun _ => 0))), (q_8, .inl (G.2.1 0, 20, .inl (fun _ => 0))), (q_9, .inl (G.2.1 0, 20, .inl (fun _ => 0))), (q_10, .inl (G.2.1 0, 20, .inl (fun _ => 0))), (q_11, .inl (G.2.1 0, 20, .inl (fun _ => 0)))] H := hP
  have hD : va_D A [(h0, .inr (5, [.ref q_1, .ref q_2, .ref q_3, .ref q_4, .ref q_5, .ref q_6, .ref q_7, .ref q_8, .ref q_9, .ref q_10, .null, .null, .int 0, .int 0, .int 0, .int 0, .int 0])), (q_1, .inl (G.2.1 0, 8, .inl (fun _ => 0))), (q_2, .inl (G.2.1 0, 20, .inl (fun _ => 0))), (q_3, .inl (G.2.1 0, 20, .inl (fun _ => 0))), (q_4, .inl (G.2.1 0, 20, .inl (fun _ => 0))), (q_5, .inl (G.2.1 0, 20, .inl (fun _ => 0))), (q_6, .inl (G.2.1 0, 20, .inl (fun _ => 0))), (q_7, .inl (G.2.1 0, 20, .inl (fun _ => 0))), (q_8, .inl (G.2.1 0, 20, .inl (fun _ => 0))), (q_9, .inl (G.2.1 0, 20, .inl (fun _ => 0))), (q_10, .inl (G.2.1 0, 20, .inl (fun _ => 0))), (q_11, .inl (G.2.1 0, 20, .inl (fun _ => 0)))] := hD
  refine va_putF (D := G.1) (ci := 5) (v := .ref q_11) (ty := .array .int) (C := RX3) (T := TX3) (N := 17) hx hb hts wsi_X3_init_X3 tyX3 tyX3_ok nmX3 hown hK hP hD hS 0 rfl rfl 10 (by decide) (hts (.fieldLink "CellarschedulerModel" 40 "CellarschedulerModel" "printed" "[I") (List.mem_of_getElem? (i := 15) (by decide +kernel))) (fun _ h9 => h9) rfl hin rfl (by decide +kernel) rfl rfl (Nat.le_of_ble_eq_true rfl) dX3_init_89 (fun H locs hP hD hS => ?_)
  have hP : zP G [(h0, .inr (5, [.ref q_1, .ref q_2, .ref q_3, .ref q_4, .ref q_5, .ref q_6, .ref q_7, .ref q_8, .ref q_9, .ref q_10, .ref q_11, .null, .int 0, .int 0, .int 0, .int 0, .int 0])), (q_1, .inl (G.2.1 0, 8, .inl (fun _ => 0))), (q_2, .inl (G.2.1 0, 20, .inl (fun _ => 0))), (q_3, .inl (G.2.1 0, 20, .inl (fun _ => 0))), (q_4, .inl (G.2.1 0, 20, .inl (fun _ => 0))), (q_5, .inl (G.2.1 0, 20, .inl (fun _ => 0))), (q_6, .inl (G.2.1 0, 20, .inl (fun _ => 0))), (q_7, .inl (G.2.1 0, 20, .inl (fun _ => 0))), (q_8, .inl (G.2.1 0, 20, .inl (fun _ => 0))), (q_9, .inl (G.2.1 0, 20, .inl (fun _ => 0))), (q_10, .inl (G.2.1 0, 20, .inl (fun _ => 0))), (q_11, .inl (G.2.1 0, 20, .inl (fun _ => 0)))] H := hP
  have hD : va_D A [(h0, .inr (5, [.ref q_1, .ref q_2, .ref q_3, .ref q_4, .ref q_5, .ref q_6, .ref q_7, .ref q_8, .ref q_9, .ref q_10, .ref q_11, .null, .int 0, .int 0, .int 0, .int 0, .int 0])), (q_1, .inl (G.2.1 0, 8, .inl (fun _ => 0))), (q_2, .inl (G.2.1 0, 20, .inl (fun _ => 0))), (q_3, .inl (G.2.1 0, 20, .inl (fun _ => 0))), (q_4, .inl (G.2.1 0, 20, .inl (fun _ => 0))), (q_5, .inl (G.2.1 0, 20, .inl (fun _ => 0))), (q_6, .inl (G.2.1 0, 20, .inl (fun _ => 0))), (q_7, .inl (G.2.1 0, 20, .inl (fun _ => 0))), (q_8, .inl (G.2.1 0, 20, .inl (fun _ => 0))), (q_9, .inl (G.2.1 0, 20, .inl (fun _ => 0))), (q_10, .inl (G.2.1 0, 20, .inl (fun _ => 0))), (q_11, .inl (G.2.1 0, 20, .inl (fun _ => 0)))] := hD
  refine lv_aload_n hx hb dX3_init_92 rfl (lv_at hl 0 rfl) ?_
  refine lv_bipush (v := 80) hx hb dX3_init_93 (by decide) ?_
  refine zNewi (N := 80) hx hb (hts (.arrayClass .int) (List.mem_of_getElem? (i := 4) (by decide +kernel))) hK hP hD hS hA (by decide) (by decide) (by decide) (Nat.le_of_ble_eq_true rfl) (Nat.le_of_ble_eq_true rfl) dX3_init_95 (fun q_12 H hP hD hS => ?_)
  have hP : zP G [(h0, .inr (5, [.ref q_1, .ref q_2, .ref q_3, .ref q_4, .ref q_5, .ref q_6, .ref q_7, .ref q_8, .ref q_9, .ref q_10, .ref q_11, .null, .int 0, .int 0, .int 0, .int 0, .int 0])), (q_1, .inl (G.2.1 0, 8, .inl (fun _ => 0))), (q_2, .inl (G.2.1 0, 20, .inl (fun _ => 0))), (q_3, .inl (G.2.1 0, 20, .inl (fun _ => 0))), (q_4, .inl (G.2.1 0, 20, .inl (fun _ => 0))), (q_5, .inl (G.2.1 0, 20, .inl (fun _ => 0))), (q_6, .inl (G.2.1 0, 20, .inl (fun _ => 0))), (q_7, .inl (G.2.1 0, 20, .inl (fun _ => 0))), (q_8, .inl (G.2.1 0, 20, .inl (fun _ => 0))), (q_9, .inl (G.2.1 0, 20, .inl (fun _ => 0))), (q_10, .inl (G.2.1 0, 20, .inl (fun _ => 0))), (q_11, .inl (G.2.1 0, 20, .inl (fun _ => 0))), (q_12, .inl (G.2.1 0, 80, .inl (fun _ => 0)))] H := hP
  have hD : va_D A [(h0, .inr (5, [.ref q_1, .ref q_2, .ref q_3, .ref q_4, .ref q_5, .ref q_6, .ref q_7, .ref q_8, .ref q_9, .ref q_10, .ref q_11, .null, .int 0, .int 0, .int 0, .int 0, .int 0])), (q_1, .inl (G.2.1 0, 8, .inl (fun _ => 0))), (q_2, .inl (G.2.1 0, 20, .inl (fun _ => 0))), (q_3, .inl (G.2.1 0, 20, .inl (fun _ => 0))), (q_4, .inl (G.2.1 0, 20, .inl (fun _ => 0))), (q_5, .inl (G.2.1 0, 20, .inl (fun _ => 0))), (q_6, .inl (G.2.1 0, 20, .inl (fun _ => 0))), (q_7, .inl (G.2.1 0, 20, .inl (fun _ => 0))), (q_8, .inl (G.2.1 0, 20, .inl (fun _ => 0))), (q_9, .inl (G.2.1 0, 20, .inl (fun _ => 0))), (q_10, .inl (G.2.1 0, 20, .inl (fun _ => 0))), (q_11, .inl (G.2.1 0, 20, .inl (fun _ => 0))), (q_12, .inl (G.2.1 0, 80, .inl (fun _ => 0)))] := hD
  refine va_putF (D := G.1) (ci := 5) (v := .ref q_12) (ty := .array .int) (C := RX3) (T := TX3) (N := 17) hx hb hts wsi_X3_init_X3 tyX3 tyX3_ok nmX3 hown hK hP hD hS 0 rfl rfl 11 (by decide) (hts (.fieldLink "CellarschedulerModel" 43 "CellarschedulerModel" "bottles" "[I") (List.mem_of_getElem? (i := 16) (by decide +kernel))) (fun _ h9 => h9) rfl hin rfl (by decide +kernel) rfl rfl (Nat.le_of_ble_eq_true rfl) dX3_init_97 (fun H locs hP hD hS => ?_)
  have hP : zP G [(h0, .inr (5, [.ref q_1, .ref q_2, .ref q_3, .ref q_4, .ref q_5, .ref q_6, .ref q_7, .ref q_8, .ref q_9, .ref q_10, .ref q_11, .ref q_12, .int 0, .int 0, .int 0, .int 0, .int 0])), (q_1, .inl (G.2.1 0, 8, .inl (fun _ => 0))), (q_2, .inl (G.2.1 0, 20, .inl (fun _ => 0))), (q_3, .inl (G.2.1 0, 20, .inl (fun _ => 0))), (q_4, .inl (G.2.1 0, 20, .inl (fun _ => 0))), (q_5, .inl (G.2.1 0, 20, .inl (fun _ => 0))), (q_6, .inl (G.2.1 0, 20, .inl (fun _ => 0))), (q_7, .inl (G.2.1 0, 20, .inl (fun _ => 0))), (q_8, .inl (G.2.1 0, 20, .inl (fun _ => 0))), (q_9, .inl (G.2.1 0, 20, .inl (fun _ => 0))), (q_10, .inl (G.2.1 0, 20, .inl (fun _ => 0))), (q_11, .inl (G.2.1 0, 20, .inl (fun _ => 0))), (q_12, .inl (G.2.1 0, 80, .inl (fun _ => 0)))] H := hP
  have hD : va_D A [(h0, .inr (5, [.ref q_1, .ref q_2, .ref q_3, .ref q_4, .ref q_5, .ref q_6, .ref q_7, .ref q_8, .ref q_9, .ref q_10, .ref q_11, .ref q_12, .int 0, .int 0, .int 0, .int 0, .int 0])), (q_1, .inl (G.2.1 0, 8, .inl (fun _ => 0))), (q_2, .inl (G.2.1 0, 20, .inl (fun _ => 0))), (q_3, .inl (G.2.1 0, 20, .inl (fun _ => 0))), (q_4, .inl (G.2.1 0, 20, .inl (fun _ => 0))), (q_5, .inl (G.2.1 0, 20, .inl (fun _ => 0))), (q_6, .inl (G.2.1 0, 20, .inl (fun _ => 0))), (q_7, .inl (G.2.1 0, 20, .inl (fun _ => 0))), (q_8, .inl (G.2.1 0, 20, .inl (fun _ => 0))), (q_9, .inl (G.2.1 0, 20, .inl (fun _ => 0))), (q_10, .inl (G.2.1 0, 20, .inl (fun _ => 0))), (q_11, .inl (G.2.1 0, 20, .inl (fun _ => 0))), (q_12, .inl (G.2.1 0, 80, .inl (fun _ => 0)))] := hD
  refine lv_iconst (v := 0) hx hb dX3_init_100 (by decide) ?_
  refine lv_istore_n (lv' := [(1, .int 0), (0, .ref h0)]) hx hb dX3_init_101 rfl hl (by decide) rfl (fun ls hl => ?_)
  refine lv_iload_n hx hb dX3_init_102 rfl (lv_at hl 0 rfl) ?_
  refine lv_bipush (v := 8) hx hb dX3_init_103 (by decide) ?_
  refine lv_icmp_ge (tgt := 121) hx hb dX3_init_105 (by decide) (fun c_13 => absurd c_13 (by decide)) (fun c_13 => ?_)
  refine lv_aload_n hx hb dX3_init_108 rfl (lv_at hl 1 rfl) ?_
  refine va_get (D := G.1) (ci := 5) (v := .ref q_1) (C := RX3) (T := TX3) (N := 17) hx hb hts wsi_X3_init_X3 hown hK hP 0 rfl rfl 0 (by decide) (hts (.fieldLink "CellarschedulerModel" 7 "CellarschedulerModel" "tank" "[I") (List.mem_of_getElem? (i := 5) (by decide +kernel))) (fun _ h9 => h9) rfl dX3_init_109 ?_
  refine lv_iload_n hx hb dX3_init_112 rfl (lv_at hl 0 rfl) ?_
  refine lv_iconst (v := (-1)) hx hb dX3_init_113 (by decide) ?_
  refine zIast hx hb hK hP hD hS 1 rfl 0 rfl (by omega) (by decide) dX3_init_114 (fun H locs hP hD hS => ?_)
  have hP : zP G [(h0, .inr (5, [.ref q_1, .ref q_2, .ref q_3, .ref q_4, .ref q_5, .ref q_6, .ref q_7, .ref q_8, .ref q_9, .ref q_10, .ref q_11, .ref q_12, .int 0, .int 0, .int 0, .int 0, .int 0])), (q_1, .inl (G.2.1 0, 8, .inl (upd (fun _ => 0) 0 (-1)))), (q_2, .inl (G.2.1 0, 20, .inl (fun _ => 0))), (q_3, .inl (G.2.1 0, 20, .inl (fun _ => 0))), (q_4, .inl (G.2.1 0, 20, .inl (fun _ => 0))), (q_5, .inl (G.2.1 0, 20, .inl (fun _ => 0))), (q_6, .inl (G.2.1 0, 20, .inl (fun _ => 0))), (q_7, .inl (G.2.1 0, 20, .inl (fun _ => 0))), (q_8, .inl (G.2.1 0, 20, .inl (fun _ => 0))), (q_9, .inl (G.2.1 0, 20, .inl (fun _ => 0))), (q_10, .inl (G.2.1 0, 20, .inl (fun _ => 0))), (q_11, .inl (G.2.1 0, 20, .inl (fun _ => 0))), (q_12, .inl (G.2.1 0, 80, .inl (fun _ => 0)))] H := hP
  have hD : va_D A [(h0, .inr (5, [.ref q_1, .ref q_2, .ref q_3, .ref q_4, .ref q_5, .ref q_6, .ref q_7, .ref q_8, .ref q_9, .ref q_10, .ref q_11, .ref q_12, .int 0, .int 0, .int 0, .int 0, .int 0])), (q_1, .inl (G.2.1 0, 8, .inl (upd (fun _ => 0) 0 (-1)))), (q_2, .inl (G.2.1 0, 20, .inl (fun _ => 0))), (q_3, .inl (G.2.1 0, 20, .inl (fun _ => 0))), (q_4, .inl (G.2.1 0, 20, .inl (fun _ => 0))), (q_5, .inl (G.2.1 0, 20, .inl (fun _ => 0))), (q_6, .inl (G.2.1 0, 20, .inl (fun _ => 0))), (q_7, .inl (G.2.1 0, 20, .inl (fun _ => 0))), (q_8, .inl (G.2.1 0, 20, .inl (fun _ => 0))), (q_9, .inl (G.2.1 0, 20, .inl (fun _ => 0))), (q_10, .inl (G.2.1 0, 20, .inl (fun _ => 0))), (q_11, .inl (G.2.1 0, 20, .inl (fun _ => 0))), (q_12, .inl (G.2.1 0, 80, .inl (fun _ => 0)))] := hD
  refine lv_iinc (v := 1) (lv' := [(1, .int 1), (0, .ref h0)]) hx hb dX3_init_115 hl (k := 0) rfl (by decide) (by decide) rfl (fun ls hl => ?_)
  refine lv_goto (tgt := 102) hx hb dX3_init_118 (by decide) ?_
  refine lv_iload_n hx hb dX3_init_102 rfl (lv_at hl 0 rfl) ?_
  refine lv_bipush (v := 8) hx hb dX3_init_103 (by decide) ?_
  refine lv_icmp_ge (tgt := 121) hx hb dX3_init_105 (by decide) (fun c_14 => absurd c_14 (by decide)) (fun c_14 => ?_)
  refine lv_aload_n hx hb dX3_init_108 rfl (lv_at hl 1 rfl) ?_
  refine va_get (D := G.1) (ci := 5) (v := .ref q_1) (C := RX3) (T := TX3) (N := 17) hx hb hts wsi_X3_init_X3 hown hK hP 0 rfl rfl 0 (by decide) (hts (.fieldLink "CellarschedulerModel" 7 "CellarschedulerModel" "tank" "[I") (List.mem_of_getElem? (i := 5) (by decide +kernel))) (fun _ h9 => h9) rfl dX3_init_109 ?_
  refine lv_iload_n hx hb dX3_init_112 rfl (lv_at hl 0 rfl) ?_
  refine lv_iconst (v := (-1)) hx hb dX3_init_113 (by decide) ?_
  refine zIast hx hb hK hP hD hS 1 rfl 1 rfl (by omega) (by decide) dX3_init_114 (fun H locs hP hD hS => ?_)
  have hP : zP G [(h0, .inr (5, [.ref q_1, .ref q_2, .ref q_3, .ref q_4, .ref q_5, .ref q_6, .ref q_7, .ref q_8, .ref q_9, .ref q_10, .ref q_11, .ref q_12, .int 0, .int 0, .int 0, .int 0, .int 0])), (q_1, .inl (G.2.1 0, 8, .inl (upd (upd (fun _ => 0) 0 (-1)) 1 (-1)))), (q_2, .inl (G.2.1 0, 20, .inl (fun _ => 0))), (q_3, .inl (G.2.1 0, 20, .inl (fun _ => 0))), (q_4, .inl (G.2.1 0, 20, .inl (fun _ => 0))), (q_5, .inl (G.2.1 0, 20, .inl (fun _ => 0))), (q_6, .inl (G.2.1 0, 20, .inl (fun _ => 0))), (q_7, .inl (G.2.1 0, 20, .inl (fun _ => 0))), (q_8, .inl (G.2.1 0, 20, .inl (fun _ => 0))), (q_9, .inl (G.2.1 0, 20, .inl (fun _ => 0))), (q_10, .inl (G.2.1 0, 20, .inl (fun _ => 0))), (q_11, .inl (G.2.1 0, 20, .inl (fun _ => 0))), (q_12, .inl (G.2.1 0, 80, .inl (fun _ => 0)))] H := hP
  have hD : va_D A [(h0, .inr (5, [.ref q_1, .ref q_2, .ref q_3, .ref q_4, .ref q_5, .ref q_6, .ref q_7, .ref q_8, .ref q_9, .ref q_10, .ref q_11, .ref q_12, .int 0, .int 0, .int 0, .int 0, .int 0])), (q_1, .inl (G.2.1 0, 8, .inl (upd (upd (fun _ => 0) 0 (-1)) 1 (-1)))), (q_2, .inl (G.2.1 0, 20, .inl (fun _ => 0))), (q_3, .inl (G.2.1 0, 20, .inl (fun _ => 0))), (q_4, .inl (G.2.1 0, 20, .inl (fun _ => 0))), (q_5, .inl (G.2.1 0, 20, .inl (fun _ => 0))), (q_6, .inl (G.2.1 0, 20, .inl (fun _ => 0))), (q_7, .inl (G.2.1 0, 20, .inl (fun _ => 0))), (q_8, .inl (G.2.1 0, 20, .inl (fun _ => 0))), (q_9, .inl (G.2.1 0, 20, .inl (fun _ => 0))), (q_10, .inl (G.2.1 0, 20, .inl (fun _ => 0))), (q_11, .inl (G.2.1 0, 20, .inl (fun _ => 0))), (q_12, .inl (G.2.1 0, 80, .inl (fun _ => 0)))] := hD
  refine lv_iinc (v := 2) (lv' := [(1, .int 2), (0, .ref h0)]) hx hb dX3_init_115 hl (k := 0) rfl (by decide) (by decide) rfl (fun ls hl => ?_)
  refine lv_goto (tgt := 102) hx hb dX3_init_118 (by decide) ?_
  refine lv_iload_n hx hb dX3_init_102 rfl (lv_at hl 0 rfl) ?_
  refine lv_bipush (v := 8) hx hb dX3_init_103 (by decide) ?_
  refine lv_icmp_ge (tgt := 121) hx hb dX3_init_105 (by decide) (fun c_15 => absurd c_15 (by decide)) (fun c_15 => ?_)
  refine lv_aload_n hx hb dX3_init_108 rfl (lv_at hl 1 rfl) ?_
  refine va_get (D := G.1) (ci := 5) (v := .ref q_1) (C := RX3) (T := TX3) (N := 17) hx hb hts wsi_X3_init_X3 hown hK hP 0 rfl rfl 0 (by decide) (hts (.fieldLink "CellarschedulerModel" 7 "CellarschedulerModel" "tank" "[I") (List.mem_of_getElem? (i := 5) (by decide +kernel))) (fun _ h9 => h9) rfl dX3_init_109 ?_
  refine lv_iload_n hx hb dX3_init_112 rfl (lv_at hl 0 rfl) ?_
  refine lv_iconst (v := (-1)) hx hb dX3_init_113 (by decide) ?_
  refine zIast hx hb hK hP hD hS 1 rfl 2 rfl (by omega) (by decide) dX3_init_114 (fun H locs hP hD hS => ?_)
  have hP : zP G [(h0, .inr (5, [.ref q_1, .ref q_2, .ref q_3, .ref q_4, .ref q_5, .ref q_6, .ref q_7, .ref q_8, .ref q_9, .ref q_10, .ref q_11, .ref q_12, .int 0, .int 0, .int 0, .int 0, .int 0])), (q_1, .inl (G.2.1 0, 8, .inl (upd (upd (upd (fun _ => 0) 0 (-1)) 1 (-1)) 2 (-1)))), (q_2, .inl (G.2.1 0, 20, .inl (fun _ => 0))), (q_3, .inl (G.2.1 0, 20, .inl (fun _ => 0))), (q_4, .inl (G.2.1 0, 20, .inl (fun _ => 0))), (q_5, .inl (G.2.1 0, 20, .inl (fun _ => 0))), (q_6, .inl (G.2.1 0, 20, .inl (fun _ => 0))), (q_7, .inl (G.2.1 0, 20, .inl (fun _ => 0))), (q_8, .inl (G.2.1 0, 20, .inl (fun _ => 0))), (q_9, .inl (G.2.1 0, 20, .inl (fun _ => 0))), (q_10, .inl (G.2.1 0, 20, .inl (fun _ => 0))), (q_11, .inl (G.2.1 0, 20, .inl (fun _ => 0))), (q_12, .inl (G.2.1 0, 80, .inl (fun _ => 0)))] H := hP
  have hD : va_D A [(h0, .inr (5, [.ref q_1, .ref q_2, .ref q_3, .ref q_4, .ref q_5, .ref q_6, .ref q_7, .ref q_8, .ref q_9, .ref q_10, .ref q_11, .ref q_12, .int 0, .int 0, .int 0, .int 0, .int 0])), (q_1, .inl (G.2.1 0, 8, .inl (upd (upd (upd (fun _ => 0) 0 (-1)) 1 (-1)) 2 (-1)))), (q_2, .inl (G.2.1 0, 20, .inl (fun _ => 0))), (q_3, .inl (G.2.1 0, 20, .inl (fun _ => 0))), (q_4, .inl (G.2.1 0, 20, .inl (fun _ => 0))), (q_5, .inl (G.2.1 0, 20, .inl (fun _ => 0))), (q_6, .inl (G.2.1 0, 20, .inl (fun _ => 0))), (q_7, .inl (G.2.1 0, 20, .inl (fun _ => 0))), (q_8, .inl (G.2.1 0, 20, .inl (fun _ => 0))), (q_9, .inl (G.2.1 0, 20, .inl (fun _ => 0))), (q_10, .inl (G.2.1 0, 20, .inl (fun _ => 0))), (q_11, .inl (G.2.1 0, 20, .inl (fun _ => 0))), (q_12, .inl (G.2.1 0, 80, .inl (fun _ => 0)))] := hD
  refine lv_iinc (v := 3) (lv' := [(1, .int 3), (0, .ref h0)]) hx hb dX3_init_115 hl (k := 0) rfl (by decide) (by decide) rfl (fun ls hl => ?_)
  refine lv_goto (tgt := 102) hx hb dX3_init_118 (by decide) ?_
  refine lv_iload_n hx hb dX3_init_102 rfl (lv_at hl 0 rfl) ?_
  refine lv_bipush (v := 8) hx hb dX3_init_103 (by decide) ?_
  refine lv_icmp_ge (tgt := 121) hx hb dX3_init_105 (by decide) (fun c_16 => absurd c_16 (by decide)) (fun c_16 => ?_)
  refine lv_aload_n hx hb dX3_init_108 rfl (lv_at hl 1 rfl) ?_
  refine va_get (D := G.1) (ci := 5) (v := .ref q_1) (C := RX3) (T := TX3) (N := 17) hx hb hts wsi_X3_init_X3 hown hK hP 0 rfl rfl 0 (by decide) (hts (.fieldLink "CellarschedulerModel" 7 "CellarschedulerModel" "tank" "[I") (List.mem_of_getElem? (i := 5) (by decide +kernel))) (fun _ h9 => h9) rfl dX3_init_109 ?_
  refine lv_iload_n hx hb dX3_init_112 rfl (lv_at hl 0 rfl) ?_
  refine lv_iconst (v := (-1)) hx hb dX3_init_113 (by decide) ?_
  refine zIast hx hb hK hP hD hS 1 rfl 3 rfl (by omega) (by decide) dX3_init_114 (fun H locs hP hD hS => ?_)
  have hP : zP G [(h0, .inr (5, [.ref q_1, .ref q_2, .ref q_3, .ref q_4, .ref q_5, .ref q_6, .ref q_7, .ref q_8, .ref q_9, .ref q_10, .ref q_11, .ref q_12, .int 0, .int 0, .int 0, .int 0, .int 0])), (q_1, .inl (G.2.1 0, 8, .inl (upd (upd (upd (upd (fun _ => 0) 0 (-1)) 1 (-1)) 2 (-1)) 3 (-1)))), (q_2, .inl (G.2.1 0, 20, .inl (fun _ => 0))), (q_3, .inl (G.2.1 0, 20, .inl (fun _ => 0))), (q_4, .inl (G.2.1 0, 20, .inl (fun _ => 0))), (q_5, .inl (G.2.1 0, 20, .inl (fun _ => 0))), (q_6, .inl (G.2.1 0, 20, .inl (fun _ => 0))), (q_7, .inl (G.2.1 0, 20, .inl (fun _ => 0))), (q_8, .inl (G.2.1 0, 20, .inl (fun _ => 0))), (q_9, .inl (G.2.1 0, 20, .inl (fun _ => 0))), (q_10, .inl (G.2.1 0, 20, .inl (fun _ => 0))), (q_11, .inl (G.2.1 0, 20, .inl (fun _ => 0))), (q_12, .inl (G.2.1 0, 80, .inl (fun _ => 0)))] H := hP
  have hD : va_D A [(h0, .inr (5, [.ref q_1, .ref q_2, .ref q_3, .ref q_4, .ref q_5, .ref q_6, .ref q_7, .ref q_8, .ref q_9, .ref q_10, .ref q_11, .ref q_12, .int 0, .int 0, .int 0, .int 0, .int 0])), (q_1, .inl (G.2.1 0, 8, .inl (upd (upd (upd (upd (fun _ => 0) 0 (-1)) 1 (-1)) 2 (-1)) 3 (-1)))), (q_2, .inl (G.2.1 0, 20, .inl (fun _ => 0))), (q_3, .inl (G.2.1 0, 20, .inl (fun _ => 0))), (q_4, .inl (G.2.1 0, 20, .inl (fun _ => 0))), (q_5, .inl (G.2.1 0, 20, .inl (fun _ => 0))), (q_6, .inl (G.2.1 0, 20, .inl (fun _ => 0))), (q_7, .inl (G.2.1 0, 20, .inl (fun _ => 0))), (q_8, .inl (G.2.1 0, 20, .inl (fun _ => 0))), (q_9, .inl (G.2.1 0, 20, .inl (fun _ => 0))), (q_10, .inl (G.2.1 0, 20, .inl (fun _ => 0))), (q_11, .inl (G.2.1 0, 20, .inl (fun _ => 0))), (q_12, .inl (G.2.1 0, 80, .inl (fun _ => 0)))] := hD
  refine lv_iinc (v := 4) (lv' := [(1, .int 4), (0, .ref h0)]) hx hb dX3_init_115 hl (k := 0) rfl (by decide) (by decide) rfl (fun ls hl => ?_)
  refine lv_goto (tgt := 102) hx hb dX3_init_118 (by decide) ?_
  refine lv_iload_n hx hb dX3_init_102 rfl (lv_at hl 0 rfl) ?_
  refine lv_bipush (v := 8) hx hb dX3_init_103 (by decide) ?_
  refine lv_icmp_ge (tgt := 121) hx hb dX3_init_105 (by decide) (fun c_17 => absurd c_17 (by decide)) (fun c_17 => ?_)
  refine lv_aload_n hx hb dX3_init_108 rfl (lv_at hl 1 rfl) ?_
  refine va_get (D := G.1) (ci := 5) (v := .ref q_1) (C := RX3) (T := TX3) (N := 17) hx hb hts wsi_X3_init_X3 hown hK hP 0 rfl rfl 0 (by decide) (hts (.fieldLink "CellarschedulerModel" 7 "CellarschedulerModel" "tank" "[I") (List.mem_of_getElem? (i := 5) (by decide +kernel))) (fun _ h9 => h9) rfl dX3_init_109 ?_
  refine lv_iload_n hx hb dX3_init_112 rfl (lv_at hl 0 rfl) ?_
  refine lv_iconst (v := (-1)) hx hb dX3_init_113 (by decide) ?_
  refine zIast hx hb hK hP hD hS 1 rfl 4 rfl (by omega) (by decide) dX3_init_114 (fun H locs hP hD hS => ?_)
  have hP : zP G [(h0, .inr (5, [.ref q_1, .ref q_2, .ref q_3, .ref q_4, .ref q_5, .ref q_6, .ref q_7, .ref q_8, .ref q_9, .ref q_10, .ref q_11, .ref q_12, .int 0, .int 0, .int 0, .int 0, .int 0])), (q_1, .inl (G.2.1 0, 8, .inl (upd (upd (upd (upd (upd (fun _ => 0) 0 (-1)) 1 (-1)) 2 (-1)) 3 (-1)) 4 (-1)))), (q_2, .inl (G.2.1 0, 20, .inl (fun _ => 0))), (q_3, .inl (G.2.1 0, 20, .inl (fun _ => 0))), (q_4, .inl (G.2.1 0, 20, .inl (fun _ => 0))), (q_5, .inl (G.2.1 0, 20, .inl (fun _ => 0))), (q_6, .inl (G.2.1 0, 20, .inl (fun _ => 0))), (q_7, .inl (G.2.1 0, 20, .inl (fun _ => 0))), (q_8, .inl (G.2.1 0, 20, .inl (fun _ => 0))), (q_9, .inl (G.2.1 0, 20, .inl (fun _ => 0))), (q_10, .inl (G.2.1 0, 20, .inl (fun _ => 0))), (q_11, .inl (G.2.1 0, 20, .inl (fun _ => 0))), (q_12, .inl (G.2.1 0, 80, .inl (fun _ => 0)))] H := hP
  have hD : va_D A [(h0, .inr (5, [.ref q_1, .ref q_2, .ref q_3, .ref q_4, .ref q_5, .ref q_6, .ref q_7, .ref q_8, .ref q_9, .ref q_10, .ref q_11, .ref q_12, .int 0, .int 0, .int 0, .int 0, .int 0])), (q_1, .inl (G.2.1 0, 8, .inl (upd (upd (upd (upd (upd (fun _ => 0) 0 (-1)) 1 (-1)) 2 (-1)) 3 (-1)) 4 (-1)))), (q_2, .inl (G.2.1 0, 20, .inl (fun _ => 0))), (q_3, .inl (G.2.1 0, 20, .inl (fun _ => 0))), (q_4, .inl (G.2.1 0, 20, .inl (fun _ => 0))), (q_5, .inl (G.2.1 0, 20, .inl (fun _ => 0))), (q_6, .inl (G.2.1 0, 20, .inl (fun _ => 0))), (q_7, .inl (G.2.1 0, 20, .inl (fun _ => 0))), (q_8, .inl (G.2.1 0, 20, .inl (fun _ => 0))), (q_9, .inl (G.2.1 0, 20, .inl (fun _ => 0))), (q_10, .inl (G.2.1 0, 20, .inl (fun _ => 0))), (q_11, .inl (G.2.1 0, 20, .inl (fun _ => 0))), (q_12, .inl (G.2.1 0, 80, .inl (fun _ => 0)))] := hD
  refine lv_iinc (v := 5) (lv' := [(1, .int 5), (0, .ref h0)]) hx hb dX3_init_115 hl (k := 0) rfl (by decide) (by decide) rfl (fun ls hl => ?_)
  refine lv_goto (tgt := 102) hx hb dX3_init_118 (by decide) ?_
  refine lv_iload_n hx hb dX3_init_102 rfl (lv_at hl 0 rfl) ?_
  refine lv_bipush (v := 8) hx hb dX3_init_103 (by decide) ?_
  refine lv_icmp_ge (tgt := 121) hx hb dX3_init_105 (by decide) (fun c_18 => absurd c_18 (by decide)) (fun c_18 => ?_)
  refine lv_aload_n hx hb dX3_init_108 rfl (lv_at hl 1 rfl) ?_
  refine va_get (D := G.1) (ci := 5) (v := .ref q_1) (C := RX3) (T := TX3) (N := 17) hx hb hts wsi_X3_init_X3 hown hK hP 0 rfl rfl 0 (by decide) (hts (.fieldLink "CellarschedulerModel" 7 "CellarschedulerModel" "tank" "[I") (List.mem_of_getElem? (i := 5) (by decide +kernel))) (fun _ h9 => h9) rfl dX3_init_109 ?_
  refine lv_iload_n hx hb dX3_init_112 rfl (lv_at hl 0 rfl) ?_
  refine lv_iconst (v := (-1)) hx hb dX3_init_113 (by decide) ?_
  refine zIast hx hb hK hP hD hS 1 rfl 5 rfl (by omega) (by decide) dX3_init_114 (fun H locs hP hD hS => ?_)
  have hP : zP G [(h0, .inr (5, [.ref q_1, .ref q_2, .ref q_3, .ref q_4, .ref q_5, .ref q_6, .ref q_7, .ref q_8, .ref q_9, .ref q_10, .ref q_11, .ref q_12, .int 0, .int 0, .int 0, .int 0, .int 0])), (q_1, .inl (G.2.1 0, 8, .inl (upd (upd (upd (upd (upd (upd (fun _ => 0) 0 (-1)) 1 (-1)) 2 (-1)) 3 (-1)) 4 (-1)) 5 (-1)))), (q_2, .inl (G.2.1 0, 20, .inl (fun _ => 0))), (q_3, .inl (G.2.1 0, 20, .inl (fun _ => 0))), (q_4, .inl (G.2.1 0, 20, .inl (fun _ => 0))), (q_5, .inl (G.2.1 0, 20, .inl (fun _ => 0))), (q_6, .inl (G.2.1 0, 20, .inl (fun _ => 0))), (q_7, .inl (G.2.1 0, 20, .inl (fun _ => 0))), (q_8, .inl (G.2.1 0, 20, .inl (fun _ => 0))), (q_9, .inl (G.2.1 0, 20, .inl (fun _ => 0))), (q_10, .inl (G.2.1 0, 20, .inl (fun _ => 0))), (q_11, .inl (G.2.1 0, 20, .inl (fun _ => 0))), (q_12, .inl (G.2.1 0, 80, .inl (fun _ => 0)))] H := hP
  have hD : va_D A [(h0, .inr (5, [.ref q_1, .ref q_2, .ref q_3, .ref q_4, .ref q_5, .ref q_6, .ref q_7, .ref q_8, .ref q_9, .ref q_10, .ref q_11, .ref q_12, .int 0, .int 0, .int 0, .int 0, .int 0])), (q_1, .inl (G.2.1 0, 8, .inl (upd (upd (upd (upd (upd (upd (fun _ => 0) 0 (-1)) 1 (-1)) 2 (-1)) 3 (-1)) 4 (-1)) 5 (-1)))), (q_2, .inl (G.2.1 0, 20, .inl (fun _ => 0))), (q_3, .inl (G.2.1 0, 20, .inl (fun _ => 0))), (q_4, .inl (G.2.1 0, 20, .inl (fun _ => 0))), (q_5, .inl (G.2.1 0, 20, .inl (fun _ => 0))), (q_6, .inl (G.2.1 0, 20, .inl (fun _ => 0))), (q_7, .inl (G.2.1 0, 20, .inl (fun _ => 0))), (q_8, .inl (G.2.1 0, 20, .inl (fun _ => 0))), (q_9, .inl (G.2.1 0, 20, .inl (fun _ => 0))), (q_10, .inl (G.2.1 0, 20, .inl (fun _ => 0))), (q_11, .inl (G.2.1 0, 20, .inl (fun _ => 0))), (q_12, .inl (G.2.1 0, 80, .inl (fun _ => 0)))] := hD
  refine lv_iinc (v := 6) (lv' := [(1, .int 6), (0, .ref h0)]) hx hb dX3_init_115 hl (k := 0) rfl (by decide) (by decide) rfl (fun ls hl => ?_)
  refine lv_goto (tgt := 102) hx hb dX3_init_118 (by decide) ?_
  refine lv_iload_n hx hb dX3_init_102 rfl (lv_at hl 0 rfl) ?_
  refine lv_bipush (v := 8) hx hb dX3_init_103 (by decide) ?_
  refine lv_icmp_ge (tgt := 121) hx hb dX3_init_105 (by decide) (fun c_19 => absurd c_19 (by decide)) (fun c_19 => ?_)
  refine lv_aload_n hx hb dX3_init_108 rfl (lv_at hl 1 rfl) ?_
  refine va_get (D := G.1) (ci := 5) (v := .ref q_1) (C := RX3) (T := TX3) (N := 17) hx hb hts wsi_X3_init_X3 hown hK hP 0 rfl rfl 0 (by decide) (hts (.fieldLink "CellarschedulerModel" 7 "CellarschedulerModel" "tank" "[I") (List.mem_of_getElem? (i := 5) (by decide +kernel))) (fun _ h9 => h9) rfl dX3_init_109 ?_
  refine lv_iload_n hx hb dX3_init_112 rfl (lv_at hl 0 rfl) ?_
  refine lv_iconst (v := (-1)) hx hb dX3_init_113 (by decide) ?_
  refine zIast hx hb hK hP hD hS 1 rfl 6 rfl (by omega) (by decide) dX3_init_114 (fun H locs hP hD hS => ?_)
  have hP : zP G [(h0, .inr (5, [.ref q_1, .ref q_2, .ref q_3, .ref q_4, .ref q_5, .ref q_6, .ref q_7, .ref q_8, .ref q_9, .ref q_10, .ref q_11, .ref q_12, .int 0, .int 0, .int 0, .int 0, .int 0])), (q_1, .inl (G.2.1 0, 8, .inl (upd (upd (upd (upd (upd (upd (upd (fun _ => 0) 0 (-1)) 1 (-1)) 2 (-1)) 3 (-1)) 4 (-1)) 5 (-1)) 6 (-1)))), (q_2, .inl (G.2.1 0, 20, .inl (fun _ => 0))), (q_3, .inl (G.2.1 0, 20, .inl (fun _ => 0))), (q_4, .inl (G.2.1 0, 20, .inl (fun _ => 0))), (q_5, .inl (G.2.1 0, 20, .inl (fun _ => 0))), (q_6, .inl (G.2.1 0, 20, .inl (fun _ => 0))), (q_7, .inl (G.2.1 0, 20, .inl (fun _ => 0))), (q_8, .inl (G.2.1 0, 20, .inl (fun _ => 0))), (q_9, .inl (G.2.1 0, 20, .inl (fun _ => 0))), (q_10, .inl (G.2.1 0, 20, .inl (fun _ => 0))), (q_11, .inl (G.2.1 0, 20, .inl (fun _ => 0))), (q_12, .inl (G.2.1 0, 80, .inl (fun _ => 0)))] H := hP
  have hD : va_D A [(h0, .inr (5, [.ref q_1, .ref q_2, .ref q_3, .ref q_4, .ref q_5, .ref q_6, .ref q_7, .ref q_8, .ref q_9, .ref q_10, .ref q_11, .ref q_12, .int 0, .int 0, .int 0, .int 0, .int 0])), (q_1, .inl (G.2.1 0, 8, .inl (upd (upd (upd (upd (upd (upd (upd (fun _ => 0) 0 (-1)) 1 (-1)) 2 (-1)) 3 (-1)) 4 (-1)) 5 (-1)) 6 (-1)))), (q_2, .inl (G.2.1 0, 20, .inl (fun _ => 0))), (q_3, .inl (G.2.1 0, 20, .inl (fun _ => 0))), (q_4, .inl (G.2.1 0, 20, .inl (fun _ => 0))), (q_5, .inl (G.2.1 0, 20, .inl (fun _ => 0))), (q_6, .inl (G.2.1 0, 20, .inl (fun _ => 0))), (q_7, .inl (G.2.1 0, 20, .inl (fun _ => 0))), (q_8, .inl (G.2.1 0, 20, .inl (fun _ => 0))), (q_9, .inl (G.2.1 0, 20, .inl (fun _ => 0))), (q_10, .inl (G.2.1 0, 20, .inl (fun _ => 0))), (q_11, .inl (G.2.1 0, 20, .inl (fun _ => 0))), (q_12, .inl (G.2.1 0, 80, .inl (fun _ => 0)))] := hD
  refine lv_iinc (v := 7) (lv' := [(1, .int 7), (0, .ref h0)]) hx hb dX3_init_115 hl (k := 0) rfl (by decide) (by decide) rfl (fun ls hl => ?_)
  refine lv_goto (tgt := 102) hx hb dX3_init_118 (by decide) ?_
  refine lv_iload_n hx hb dX3_init_102 rfl (lv_at hl 0 rfl) ?_
  refine lv_bipush (v := 8) hx hb dX3_init_103 (by decide) ?_
  refine lv_icmp_ge (tgt := 121) hx hb dX3_init_105 (by decide) (fun c_20 => absurd c_20 (by decide)) (fun c_20 => ?_)
  refine lv_aload_n hx hb dX3_init_108 rfl (lv_at hl 1 rfl) ?_
  refine va_get (D := G.1) (ci := 5) (v := .ref q_1) (C := RX3) (T := TX3) (N := 17) hx hb hts wsi_X3_init_X3 hown hK hP 0 rfl rfl 0 (by decide) (hts (.fieldLink "CellarschedulerModel" 7 "CellarschedulerModel" "tank" "[I") (List.mem_of_getElem? (i := 5) (by decide +kernel))) (fun _ h9 => h9) rfl dX3_init_109 ?_
  refine lv_iload_n hx hb dX3_init_112 rfl (lv_at hl 0 rfl) ?_
  refine lv_iconst (v := (-1)) hx hb dX3_init_113 (by decide) ?_
  refine zIast hx hb hK hP hD hS 1 rfl 7 rfl (by omega) (by decide) dX3_init_114 (fun H locs hP hD hS => ?_)
  have hP : zP G [(h0, .inr (5, [.ref q_1, .ref q_2, .ref q_3, .ref q_4, .ref q_5, .ref q_6, .ref q_7, .ref q_8, .ref q_9, .ref q_10, .ref q_11, .ref q_12, .int 0, .int 0, .int 0, .int 0, .int 0])), (q_1, .inl (G.2.1 0, 8, .inl (upd (upd (upd (upd (upd (upd (upd (upd (fun _ => 0) 0 (-1)) 1 (-1)) 2 (-1)) 3 (-1)) 4 (-1)) 5 (-1)) 6 (-1)) 7 (-1)))), (q_2, .inl (G.2.1 0, 20, .inl (fun _ => 0))), (q_3, .inl (G.2.1 0, 20, .inl (fun _ => 0))), (q_4, .inl (G.2.1 0, 20, .inl (fun _ => 0))), (q_5, .inl (G.2.1 0, 20, .inl (fun _ => 0))), (q_6, .inl (G.2.1 0, 20, .inl (fun _ => 0))), (q_7, .inl (G.2.1 0, 20, .inl (fun _ => 0))), (q_8, .inl (G.2.1 0, 20, .inl (fun _ => 0))), (q_9, .inl (G.2.1 0, 20, .inl (fun _ => 0))), (q_10, .inl (G.2.1 0, 20, .inl (fun _ => 0))), (q_11, .inl (G.2.1 0, 20, .inl (fun _ => 0))), (q_12, .inl (G.2.1 0, 80, .inl (fun _ => 0)))] H := hP
  have hD : va_D A [(h0, .inr (5, [.ref q_1, .ref q_2, .ref q_3, .ref q_4, .ref q_5, .ref q_6, .ref q_7, .ref q_8, .ref q_9, .ref q_10, .ref q_11, .ref q_12, .int 0, .int 0, .int 0, .int 0, .int 0])), (q_1, .inl (G.2.1 0, 8, .inl (upd (upd (upd (upd (upd (upd (upd (upd (fun _ => 0) 0 (-1)) 1 (-1)) 2 (-1)) 3 (-1)) 4 (-1)) 5 (-1)) 6 (-1)) 7 (-1)))), (q_2, .inl (G.2.1 0, 20, .inl (fun _ => 0))), (q_3, .inl (G.2.1 0, 20, .inl (fun _ => 0))), (q_4, .inl (G.2.1 0, 20, .inl (fun _ => 0))), (q_5, .inl (G.2.1 0, 20, .inl (fun _ => 0))), (q_6, .inl (G.2.1 0, 20, .inl (fun _ => 0))), (q_7, .inl (G.2.1 0, 20, .inl (fun _ => 0))), (q_8, .inl (G.2.1 0, 20, .inl (fun _ => 0))), (q_9, .inl (G.2.1 0, 20, .inl (fun _ => 0))), (q_10, .inl (G.2.1 0, 20, .inl (fun _ => 0))), (q_11, .inl (G.2.1 0, 20, .inl (fun _ => 0))), (q_12, .inl (G.2.1 0, 80, .inl (fun _ => 0)))] := hD
  refine lv_iinc (v := 8) (lv' := [(1, .int 8), (0, .ref h0)]) hx hb dX3_init_115 hl (k := 0) rfl (by decide) (by decide) rfl (fun ls hl => ?_)
  refine lv_goto (tgt := 102) hx hb dX3_init_118 (by decide) ?_
  refine lv_iload_n hx hb dX3_init_102 rfl (lv_at hl 0 rfl) ?_
  refine lv_bipush (v := 8) hx hb dX3_init_103 (by decide) ?_
  refine lv_icmp_ge (tgt := 121) hx hb dX3_init_105 (by decide) (fun c_21 => ?_) (fun c_21 => absurd (by decide) c_21)
  exact zWv (q_1, q_2, q_3, q_4, q_5, q_6, q_7, q_8, q_9, q_10, q_11, q_12, upd (upd (upd (upd (upd (upd (upd (upd (fun _ => 0) 0 (-1)) 1 (-1)) 2 (-1)) 3 (-1)) 4 (-1)) 5 (-1)) 6 (-1)) 7 (-1)) hx hb hr hlocks (by rw [f_X3_init_tk]) hP hD hK hS (z_pick (n := 13) [0, 1, 2, 3, 4, 5, 6, 7, 8, 9, 10, 11, 12] [] rfl (by decide) rfl rfl) (Nat.le_of_ble_eq_true rfl) (Nat.le_of_ble_eq_true rfl) dX3_init_121

theorem wsi_X3_thrown_X3 : ∀ w ∈ wsX30, w ∈ wsX3_thrown := fun w h => List.mem_cons_of_mem _ (List.mem_append_right _ h)
set_option maxHeartbeats 4000000 in
set_option maxRecDepth 100000 in
/-- thrown() -/
theorem c_X3_thrown (l : Launch) (G : zG) (sz : Nat) (h0 : Nat) (m0 : Nat) (m1 : Nat) (m2 : Nat) (m3 : Nat) (m4 : Nat) (m5 : Nat) (m6 : Nat) (m7 : Nat) (m8 : Nat) (m9 : Nat) (m10 : Nat) (m11 : Nat) (tk : Nat → Int32) (bt : Nat → Int32) (bl : Nat → Int32) (bd : Nat → Int32) (yy : Nat → Int32) (bs : Nat → Int32) (bm : Nat → Int32) (lf : Nat → Int32) (lc : Nat → Int32) (gn : Nat → Int32) (pr : Nat → Int32) (bo : Nat → Int32) (nb : Int32) (dy : Int32) (pd : Int32) (ow : Int32) (th : Int32) : Met l yX3_thrown wsX3_thrown { frames := 0, cells := 0, slots := 0, locals := 0 } (zPc G [.ref h0] [(h0, .inr (5, [.ref m0, .ref m1, .ref m2, .ref m3, .ref m4, .ref m5, .ref m6, .ref m7, .ref m8, .ref m9, .ref m10, .ref m11, .int nb, .int dy, .int pd, .int ow, .int th])), (m0, .inl (G.2.1 0, 8, .inl tk)), (m1, .inl (G.2.1 0, 20, .inl bt)), (m2, .inl (G.2.1 0, 20, .inl bl)), (m3, .inl (G.2.1 0, 20, .inl bd)), (m4, .inl (G.2.1 0, 20, .inl yy)), (m5, .inl (G.2.1 0, 20, .inl bs)), (m6, .inl (G.2.1 0, 20, .inl bm)), (m7, .inl (G.2.1 0, 20, .inl lf)), (m8, .inl (G.2.1 0, 20, .inl lc)), (m9, .inl (G.2.1 0, 20, .inl gn)), (m10, .inl (G.2.1 0, 20, .inl pr)), (m11, .inl (G.2.1 0, 80, .inl bo))] sz) (vp_Si (fun z => z = th)) 0 0 (fun _ => False) := by
  refine zOfW (Qc := fun _ => vp_Si (fun z => z = th)) (fr := fun _ _ => False) (cc := cX3_thrown) (maxL := 1) (ret := (some .int)) (by decide) rfl (Nat.le_of_ble_eq_true rfl) ?_
  intro p e s m below meth c hx hb hml hr hlocks hown hin hts A hP hK hD hE hA hS ls hl
  have hl : lv_has ls 1 [(0, .ref h0)] := hl
  have hown : s.vm.findClass RX3 = some m.cls := hown
  have hP : zP G [(h0, .inr (5, [.ref m0, .ref m1, .ref m2, .ref m3, .ref m4, .ref m5, .ref m6, .ref m7, .ref m8, .ref m9, .ref m10, .ref m11, .int nb, .int dy, .int pd, .int ow, .int th])), (m0, .inl (G.2.1 0, 8, .inl tk)), (m1, .inl (G.2.1 0, 20, .inl bt)), (m2, .inl (G.2.1 0, 20, .inl bl)), (m3, .inl (G.2.1 0, 20, .inl bd)), (m4, .inl (G.2.1 0, 20, .inl yy)), (m5, .inl (G.2.1 0, 20, .inl bs)), (m6, .inl (G.2.1 0, 20, .inl bm)), (m7, .inl (G.2.1 0, 20, .inl lf)), (m8, .inl (G.2.1 0, 20, .inl lc)), (m9, .inl (G.2.1 0, 20, .inl gn)), (m10, .inl (G.2.1 0, 20, .inl pr)), (m11, .inl (G.2.1 0, 80, .inl bo))] s.heap := hP
  have hD : va_D A [(h0, .inr (5, [.ref m0, .ref m1, .ref m2, .ref m3, .ref m4, .ref m5, .ref m6, .ref m7, .ref m8, .ref m9, .ref m10, .ref m11, .int nb, .int dy, .int pd, .int ow, .int th])), (m0, .inl (G.2.1 0, 8, .inl tk)), (m1, .inl (G.2.1 0, 20, .inl bt)), (m2, .inl (G.2.1 0, 20, .inl bl)), (m3, .inl (G.2.1 0, 20, .inl bd)), (m4, .inl (G.2.1 0, 20, .inl yy)), (m5, .inl (G.2.1 0, 20, .inl bs)), (m6, .inl (G.2.1 0, 20, .inl bm)), (m7, .inl (G.2.1 0, 20, .inl lf)), (m8, .inl (G.2.1 0, 20, .inl lc)), (m9, .inl (G.2.1 0, 20, .inl gn)), (m10, .inl (G.2.1 0, 20, .inl pr)), (m11, .inl (G.2.1 0, 80, .inl bo))] := hD
  refine lv_aload_n hx hb dX3_thrown_0 rfl (lv_at hl 0 rfl) ?_
  refine va_get (D := G.1) (ci := 5) (v := .int th) (C := RX3) (T := TX3) (N := 17) hx hb hts wsi_X3_thrown_X3 hown hK hP 0 rfl rfl 16 (by decide) (hts (.fieldLink "CellarschedulerModel" 46 "CellarschedulerModel" "thrown" "I") (List.mem_of_getElem? (i := 1) (by decide +kernel))) (fun _ h9 => h9) rfl dX3_thrown_1 ?_
  exact zRi hx hb hr hlocks rfl rfl rfl rfl (Nat.le_of_ble_eq_true rfl) (Nat.le_of_ble_eq_true rfl) dX3_thrown_4

theorem wsi_X3_holds_X3 : ∀ w ∈ wsX30, w ∈ wsX3_holds := fun w h => List.mem_cons_of_mem _ (List.mem_append_right _ h)
def f_X3_holds (wh : Int32) : Int32 := if wh ≤ 0 then 0 else 1
set_option maxHeartbeats 4000000 in
set_option maxRecDepth 100000 in
/-- holds(which) -/
theorem c_X3_holds (l : Launch) (G : zG) (sz : Nat) (h0 : Nat) (m0 : Nat) (m1 : Nat) (m2 : Nat) (m3 : Nat) (m4 : Nat) (m5 : Nat) (m6 : Nat) (m7 : Nat) (m8 : Nat) (m9 : Nat) (m10 : Nat) (m11 : Nat) (nb : Int32) (dy : Int32) (pd : Int32) (ow : Int32) (th : Int32) (wh : Int32) : Met l yX3_holds wsX3_holds { frames := 0, cells := 0, slots := 0, locals := 0 } (zPc G [.ref h0, .int wh] [(h0, .inr (5, [.ref m0, .ref m1, .ref m2, .ref m3, .ref m4, .ref m5, .ref m6, .ref m7, .ref m8, .ref m9, .ref m10, .ref m11, .int nb, .int dy, .int pd, .int ow, .int th]))] sz) (zQi G (fun (r : Int32) (u : Unit) => r = f_X3_holds wh) (fun u => [(h0, .inr (5, [.ref m0, .ref m1, .ref m2, .ref m3, .ref m4, .ref m5, .ref m6, .ref m7, .ref m8, .ref m9, .ref m10, .ref m11, .int nb, .int dy, .int pd, .int ow, .int wh]))]) (va_A [(h0, .inr (5, [.ref m0, .ref m1, .ref m2, .ref m3, .ref m4, .ref m5, .ref m6, .ref m7, .ref m8, .ref m9, .ref m10, .ref m11, .int nb, .int dy, .int pd, .int ow, .int th]))] sz)) 0 0 (va_A [(h0, .inr (5, [.ref m0, .ref m1, .ref m2, .ref m3, .ref m4, .ref m5, .ref m6, .ref m7, .ref m8, .ref m9, .ref m10, .ref m11, .int nb, .int dy, .int pd, .int ow, .int th]))] sz) := by
  refine zOfW (Qc := fun A => zQi G (fun (r : Int32) (u : Unit) => r = f_X3_holds wh) (fun u => [(h0, .inr (5, [.ref m0, .ref m1, .ref m2, .ref m3, .ref m4, .ref m5, .ref m6, .ref m7, .ref m8, .ref m9, .ref m10, .ref m11, .int nb, .int dy, .int pd, .int ow, .int wh]))]) A) (fr := fun A => A) (cc := cX3_holds) (maxL := 2) (ret := (some .boolean)) (by decide) rfl (Nat.le_of_ble_eq_true rfl) ?_
  intro p e s m below meth c hx hb hml hr hlocks hown hin hts A hP hK hD hE hA hS ls hl
  have hl : lv_has ls 2 [(0, .ref h0), (1, .int wh)] := hl
  have hown : s.vm.findClass RX3 = some m.cls := hown
  have hP : zP G [(h0, .inr (5, [.ref m0, .ref m1, .ref m2, .ref m3, .ref m4, .ref m5, .ref m6, .ref m7, .ref m8, .ref m9, .ref m10, .ref m11, .int nb, .int dy, .int pd, .int ow, .int th]))] s.heap := hP
  have hD : va_D A [(h0, .inr (5, [.ref m0, .ref m1, .ref m2, .ref m3, .ref m4, .ref m5, .ref m6, .ref m7, .ref m8, .ref m9, .ref m10, .ref m11, .int nb, .int dy, .int pd, .int ow, .int th]))] := hD
  refine lv_aload_n hx hb dX3_holds_0 rfl (lv_at hl 0 rfl) ?_
  refine lv_iload_n hx hb dX3_holds_1 rfl (lv_at hl 1 rfl) ?_
  refine va_put (D := G.1) (ci := 5) (v := .int wh) (ty := .int) (C := RX3) (T := TX3) (N := 17) hx hb hts wsi_X3_holds_X3 tyX3 tyX3_ok nmX3 hown hK hP hD hS 0 rfl rfl 16 (by decide) (hts (.fieldLink "CellarschedulerModel" 46 "CellarschedulerModel" "thrown" "I") (List.mem_of_getElem? (i := 1) (by decide +kernel))) (fun _ h9 => h9) rfl (by decide +kernel) rfl rfl (Nat.le_of_ble_eq_true rfl) dX3_holds_2 (fun H locs hP hD hS => ?_)
  have hP : zP G [(h0, .inr (5, [.ref m0, .ref m1, .ref m2, .ref m3, .ref m4, .ref m5, .ref m6, .ref m7, .ref m8, .ref m9, .ref m10, .ref m11, .int nb, .int dy, .int pd, .int ow, .int wh]))] H := hP
  have hD : va_D A [(h0, .inr (5, [.ref m0, .ref m1, .ref m2, .ref m3, .ref m4, .ref m5, .ref m6, .ref m7, .ref m8, .ref m9, .ref m10, .ref m11, .int nb, .int dy, .int pd, .int ow, .int wh]))] := hD
  refine lv_iload_n hx hb dX3_holds_5 rfl (lv_at hl 1 rfl) ?_
  refine lv_if_le (tgt := 13) hx hb dX3_holds_6 (by decide) (fun c_1 => ?_) (fun c_1 => ?_)
  · refine lv_iconst (v := 0) hx hb dX3_holds_13 (by decide) ?_
    exact zWi () hx hb hr hlocks rfl (by rw [f_X3_holds, if_pos c_1]) hP hD hK hS (z_pick (n := 1) [0] [] rfl (by decide) rfl rfl) (Nat.le_of_ble_eq_true rfl) (Nat.le_of_ble_eq_true rfl) dX3_holds_14
  · refine lv_iconst (v := 1) hx hb dX3_holds_9 (by decide) ?_
    refine lv_goto (tgt := 14) hx hb dX3_holds_10 (by decide) ?_
    exact zWi () hx hb hr hlocks rfl (by rw [f_X3_holds, if_neg c_1]) hP hD hK hS (z_pick (n := 1) [0] [] rfl (by decide) rfl rfl) (Nat.le_of_ble_eq_true rfl) (Nat.le_of_ble_eq_true rfl) dX3_holds_14

def f_X3_in (va : Int32) (le : Int32) (mo : Int32) : Int32 := if va < le then 0 else (if mo < va then 0 else 1)
set_option maxHeartbeats 4000000 in
set_option maxRecDepth 100000 in
/-- in -/
theorem c_X3_in (l : Launch) (G : zG) (sz : Nat) (h0 : Nat) (m0 : Nat) (m1 : Nat) (m2 : Nat) (m3 : Nat) (m4 : Nat) (m5 : Nat) (m6 : Nat) (m7 : Nat) (m8 : Nat) (m9 : Nat) (m10 : Nat) (m11 : Nat) (nb : Int32) (dy : Int32) (pd : Int32) (ow : Int32) (th : Int32) (va : Int32) (le : Int32) (mo : Int32) : Met l yX3_in wsX3_in { frames := 0, cells := 0, slots := 0, locals := 0 } (zPc G [.ref h0, .int va, .int le, .int mo] [(h0, .inr (5, [.ref m0, .ref m1, .ref m2, .ref m3, .ref m4, .ref m5, .ref m6, .ref m7, .ref m8, .ref m9, .ref m10, .ref m11, .int nb, .int dy, .int pd, .int ow, .int th]))] sz) (vp_Si (fun z => z = f_X3_in va le mo)) 0 0 (fun _ => False) := by
  refine zOfW (Qc := fun _ => vp_Si (fun z => z = f_X3_in va le mo)) (fr := fun _ _ => False) (cc := cX3_in) (maxL := 4) (ret := (some .boolean)) (by decide) rfl (Nat.le_of_ble_eq_true rfl) ?_
  intro p e s m below meth c hx hb hml hr hlocks hown hin hts A hP hK hD hE hA hS ls hl
  have hl : lv_has ls 4 [(0, .ref h0), (1, .int va), (2, .int le), (3, .int mo)] := hl
  have hown : s.vm.findClass RX3 = some m.cls := hown
  have hP : zP G [(h0, .inr (5, [.ref m0, .ref m1, .ref m2, .ref m3, .ref m4, .ref m5, .ref m6, .ref m7, .ref m8, .ref m9, .ref m10, .ref m11, .int nb, .int dy, .int pd, .int ow, .int th]))] s.heap := hP
  have hD : va_D A [(h0, .inr (5, [.ref m0, .ref m1, .ref m2, .ref m3, .ref m4, .ref m5, .ref m6, .ref m7, .ref m8, .ref m9, .ref m10, .ref m11, .int nb, .int dy, .int pd, .int ow, .int th]))] := hD
  refine lv_iload_n hx hb dX3_in_0 rfl (lv_at hl 1 rfl) ?_
  refine lv_iload_n hx hb dX3_in_1 rfl (lv_at hl 2 rfl) ?_
  refine lv_icmp_lt (tgt := 14) hx hb dX3_in_2 (by decide) (fun c_1 => ?_) (fun c_1 => ?_)
  · refine lv_iconst (v := 0) hx hb dX3_in_14 (by decide) ?_
    exact zRi hx hb hr hlocks rfl (by rw [f_X3_in, if_pos c_1]) rfl rfl (Nat.le_of_ble_eq_true rfl) (Nat.le_of_ble_eq_true rfl) dX3_in_15
  · refine lv_iload_n hx hb dX3_in_5 rfl (lv_at hl 1 rfl) ?_
    refine lv_iload_n hx hb dX3_in_6 rfl (lv_at hl 3 rfl) ?_
    refine lv_icmp_gt (tgt := 14) hx hb dX3_in_7 (by decide) (fun c_2 => ?_) (fun c_2 => ?_)
    · refine lv_iconst (v := 0) hx hb dX3_in_14 (by decide) ?_
      exact zRi hx hb hr hlocks rfl (by rw [f_X3_in, if_neg c_1, if_pos c_2]) rfl rfl (Nat.le_of_ble_eq_true rfl) (Nat.le_of_ble_eq_true rfl) dX3_in_15
    · refine lv_iconst (v := 1) hx hb dX3_in_10 (by decide) ?_
      refine lv_goto (tgt := 15) hx hb dX3_in_11 (by decide) ?_
      exact zRi hx hb hr hlocks rfl (by rw [f_X3_in, if_neg c_1, if_neg c_2]) rfl rfl (Nat.le_of_ble_eq_true rfl) (Nat.le_of_ble_eq_true rfl) dX3_in_15

def f_X3_percent (ye : Int32) : Int32 := if ye = 0 then 82 else (if ye = 1 then 75 else 66)
set_option maxHeartbeats 4000000 in
set_option maxRecDepth 100000 in
/-- percent -/
theorem c_X3_percent (l : Launch) (G : zG) (sz : Nat) (h0 : Nat) (m0 : Nat) (m1 : Nat) (m2 : Nat) (m3 : Nat) (m4 : Nat) (m5 : Nat) (m6 : Nat) (m7 : Nat) (m8 : Nat) (m9 : Nat) (m10 : Nat) (m11 : Nat) (nb : Int32) (dy : Int32) (pd : Int32) (ow : Int32) (th : Int32) (ye : Int32) : Met l yX3_percent wsX3_percent { frames := 0, cells := 0, slots := 0, locals := 0 } (zPc G [.ref h0, .int ye] [(h0, .inr (5, [.ref m0, .ref m1, .ref m2, .ref m3, .ref m4, .ref m5, .ref m6, .ref m7, .ref m8, .ref m9, .ref m10, .ref m11, .int nb, .int dy, .int pd, .int ow, .int th]))] sz) (vp_Si (fun z => z = f_X3_percent ye)) 0 0 (fun _ => False) := by
  refine zOfW (Qc := fun _ => vp_Si (fun z => z = f_X3_percent ye)) (fr := fun _ _ => False) (cc := cX3_percent) (maxL := 2) (ret := (some .int)) (by decide) rfl (Nat.le_of_ble_eq_true rfl) ?_
  intro p e s m below meth c hx hb hml hr hlocks hown hin hts A hP hK hD hE hA hS ls hl
  have hl : lv_has ls 2 [(0, .ref h0), (1, .int ye)] := hl
  have hown : s.vm.findClass RX3 = some m.cls := hown
  have hP : zP G [(h0, .inr (5, [.ref m0, .ref m1, .ref m2, .ref m3, .ref m4, .ref m5, .ref m6, .ref m7, .ref m8, .ref m9, .ref m10, .ref m11, .int nb, .int dy, .int pd, .int ow, .int th]))] s.heap := hP
  have hD : va_D A [(h0, .inr (5, [.ref m0, .ref m1, .ref m2, .ref m3, .ref m4, .ref m5, .ref m6, .ref m7, .ref m8, .ref m9, .ref m10, .ref m11, .int nb, .int dy, .int pd, .int ow, .int th]))] := hD
  refine lv_iload_n hx hb dX3_percent_0 rfl (lv_at hl 1 rfl) ?_
  refine lv_if_ne (tgt := 9) hx hb dX3_percent_1 (by decide) (fun c_1 => ?_) (fun c_1 => ?_)
  · refine lv_iload_n hx hb dX3_percent_9 rfl (lv_at hl 1 rfl) ?_
    refine lv_iconst (v := 1) hx hb dX3_percent_10 (by decide) ?_
    refine lv_icmp_ne (tgt := 19) hx hb dX3_percent_11 (by decide) (fun c_2 => ?_) (fun c_2 => ?_)
    · refine lv_bipush (v := 66) hx hb dX3_percent_19 (by decide) ?_
      exact zRi hx hb hr hlocks rfl (by rw [f_X3_percent, if_neg c_1, if_neg c_2]) rfl rfl (Nat.le_of_ble_eq_true rfl) (Nat.le_of_ble_eq_true rfl) dX3_percent_21
    · refine lv_bipush (v := 75) hx hb dX3_percent_14 (by decide) ?_
      refine lv_goto (tgt := 21) hx hb dX3_percent_16 (by decide) ?_
      exact zRi hx hb hr hlocks rfl (by rw [f_X3_percent, if_neg c_1, if_pos c_2]) rfl rfl (Nat.le_of_ble_eq_true rfl) (Nat.le_of_ble_eq_true rfl) dX3_percent_21
  · refine lv_bipush (v := 82) hx hb dX3_percent_4 (by decide) ?_
    refine lv_goto (tgt := 21) hx hb dX3_percent_6 (by decide) ?_
    exact zRi hx hb hr hlocks rfl (by rw [f_X3_percent, if_pos c_1]) rfl rfl (Nat.le_of_ble_eq_true rfl) (Nat.le_of_ble_eq_true rfl) dX3_percent_21

def f_X3_days (ye : Int32) : Int32 := if ye = 0 then 4 else (if ye = 1 then 7 else 12)
set_option maxHeartbeats 4000000 in
set_option maxRecDepth 100000 in
/-- days -/
theorem c_X3_days (l : Launch) (G : zG) (sz : Nat) (h0 : Nat) (m0 : Nat) (m1 : Nat) (m2 : Nat) (m3 : Nat) (m4 : Nat) (m5 : Nat) (m6 : Nat) (m7 : Nat) (m8 : Nat) (m9 : Nat) (m10 : Nat) (m11 : Nat) (nb : Int32) (dy : Int32) (pd : Int32) (ow : Int32) (th : Int32) (ye : Int32) : Met l yX3_days wsX3_days { frames := 0, cells := 0, slots := 0, locals := 0 } (zPc G [.ref h0, .int ye] [(h0, .inr (5, [.ref m0, .ref m1, .ref m2, .ref m3, .ref m4, .ref m5, .ref m6, .ref m7, .ref m8, .ref m9, .ref m10, .ref m11, .int nb, .int dy, .int pd, .int ow, .int th]))] sz) (vp_Si (fun z => z = f_X3_days ye)) 0 0 (fun _ => False) := by
  refine zOfW (Qc := fun _ => vp_Si (fun z => z = f_X3_days ye)) (fr := fun _ _ => False) (cc := cX3_days) (maxL := 2) (ret := (some .int)) (by decide) rfl (Nat.le_of_ble_eq_true rfl) ?_
  intro p e s m below meth c hx hb hml hr hlocks hown hin hts A hP hK hD hE hA hS ls hl
  have hl : lv_has ls 2 [(0, .ref h0), (1, .int ye)] := hl
  have hown : s.vm.findClass RX3 = some m.cls := hown
  have hP : zP G [(h0, .inr (5, [.ref m0, .ref m1, .ref m2, .ref m3, .ref m4, .ref m5, .ref m6, .ref m7, .ref m8, .ref m9, .ref m10, .ref m11, .int nb, .int dy, .int pd, .int ow, .int th]))] s.heap := hP
  have hD : va_D A [(h0, .inr (5, [.ref m0, .ref m1, .ref m2, .ref m3, .ref m4, .ref m5, .ref m6, .ref m7, .ref m8, .ref m9, .ref m10, .ref m11, .int nb, .int dy, .int pd, .int ow, .int th]))] := hD
  refine lv_iload_n hx hb dX3_days_0 rfl (lv_at hl 1 rfl) ?_
  refine lv_if_ne (tgt := 8) hx hb dX3_days_1 (by decide) (fun c_1 => ?_) (fun c_1 => ?_)
  · refine lv_iload_n hx hb dX3_days_8 rfl (lv_at hl 1 rfl) ?_
    refine lv_iconst (v := 1) hx hb dX3_days_9 (by decide) ?_
    refine lv_icmp_ne (tgt := 18) hx hb dX3_days_10 (by decide) (fun c_2 => ?_) (fun c_2 => ?_)
    · refine lv_bipush (v := 12) hx hb dX3_days_18 (by decide) ?_
      exact zRi hx hb hr hlocks rfl (by rw [f_X3_days, if_neg c_1, if_neg c_2]) rfl rfl (Nat.le_of_ble_eq_true rfl) (Nat.le_of_ble_eq_true rfl) dX3_days_20
    · refine lv_bipush (v := 7) hx hb dX3_days_13 (by decide) ?_
      refine lv_goto (tgt := 20) hx hb dX3_days_15 (by decide) ?_
      exact zRi hx hb hr hlocks rfl (by rw [f_X3_days, if_neg c_1, if_pos c_2]) rfl rfl (Nat.le_of_ble_eq_true rfl) (Nat.le_of_ble_eq_true rfl) dX3_days_20
  · refine lv_iconst (v := 4) hx hb dX3_days_4 (by decide) ?_
    refine lv_goto (tgt := 20) hx hb dX3_days_5 (by decide) ?_
    exact zRi hx hb hr hlocks rfl (by rw [f_X3_days, if_pos c_1]) rfl rfl (Nat.le_of_ble_eq_true rfl) (Nat.le_of_ble_eq_true rfl) dX3_days_20

def f_X3_classOf (sg : Int32) : Int32 := if 28 < sg then (if 50 < sg then (if 75 < sg then 3 else 2) else 1) else 0
set_option maxHeartbeats 4000000 in
set_option maxRecDepth 100000 in
/-- classOf -/
theorem c_X3_classOf (l : Launch) (G : zG) (sz : Nat) (h0 : Nat) (m0 : Nat) (m1 : Nat) (m2 : Nat) (m3 : Nat) (m4 : Nat) (m5 : Nat) (m6 : Nat) (m7 : Nat) (m8 : Nat) (m9 : Nat) (m10 : Nat) (m11 : Nat) (nb : Int32) (dy : Int32) (pd : Int32) (ow : Int32) (th : Int32) (sg : Int32) : Met l yX3_classOf wsX3_classOf { frames := 0, cells := 0, slots := 0, locals := 0 } (zPc G [.ref h0, .int sg] [(h0, .inr (5, [.ref m0, .ref m1, .ref m2, .ref m3, .ref m4, .ref m5, .ref m6, .ref m7, .ref m8, .ref m9, .ref m10, .ref m11, .int nb, .int dy, .int pd, .int ow, .int th]))] sz) (vp_Si (fun z => z = f_X3_classOf sg)) 0 0 (fun _ => False) := by
  refine zOfW (Qc := fun _ => vp_Si (fun z => z = f_X3_classOf sg)) (fr := fun _ _ => False) (cc := cX3_classOf) (maxL := 2) (ret := (some .int)) (by decide) rfl (Nat.le_of_ble_eq_true rfl) ?_
  intro p e s m below meth c hx hb hml hr hlocks hown hin hts A hP hK hD hE hA hS ls hl
  have hl : lv_has ls 2 [(0, .ref h0), (1, .int sg)] := hl
  have hown : s.vm.findClass RX3 = some m.cls := hown
  have hP : zP G [(h0, .inr (5, [.ref m0, .ref m1, .ref m2, .ref m3, .ref m4, .ref m5, .ref m6, .ref m7, .ref m8, .ref m9, .ref m10, .ref m11, .int nb, .int dy, .int pd, .int ow, .int th]))] s.heap := hP
  have hD : va_D A [(h0, .inr (5, [.ref m0, .ref m1, .ref m2, .ref m3, .ref m4, .ref m5, .ref m6, .ref m7, .ref m8, .ref m9, .ref m10, .ref m11, .int nb, .int dy, .int pd, .int ow, .int th]))] := hD
  refine lv_iload_n hx hb dX3_classOf_0 rfl (lv_at hl 1 rfl) ?_
  refine lv_bipush (v := 28) hx hb dX3_classOf_1 (by decide) ?_
  refine lv_icmp_gt (tgt := 10) hx hb dX3_classOf_3 (by decide) (fun c_1 => ?_) (fun c_1 => ?_)
  · refine lv_iload_n hx hb dX3_classOf_10 rfl (lv_at hl 1 rfl) ?_
    refine lv_bipush (v := 50) hx hb dX3_classOf_11 (by decide) ?_
    refine lv_icmp_gt (tgt := 20) hx hb dX3_classOf_13 (by decide) (fun c_2 => ?_) (fun c_2 => ?_)
    · refine lv_iload_n hx hb dX3_classOf_20 rfl (lv_at hl 1 rfl) ?_
      refine lv_bipush (v := 75) hx hb dX3_classOf_21 (by decide) ?_
      refine lv_icmp_gt (tgt := 30) hx hb dX3_classOf_23 (by decide) (fun c_3 => ?_) (fun c_3 => ?_)
      · refine lv_iconst (v := 3) hx hb dX3_classOf_30 (by decide) ?_
        exact zRi hx hb hr hlocks rfl (by rw [f_X3_classOf, if_pos c_1, if_pos c_2, if_pos c_3]) rfl rfl (Nat.le_of_ble_eq_true rfl) (Nat.le_of_ble_eq_true rfl) dX3_classOf_31
      · refine lv_iconst (v := 2) hx hb dX3_classOf_26 (by decide) ?_
        refine lv_goto (tgt := 31) hx hb dX3_classOf_27 (by decide) ?_
        exact zRi hx hb hr hlocks rfl (by rw [f_X3_classOf, if_pos c_1, if_pos c_2, if_neg c_3]) rfl rfl (Nat.le_of_ble_eq_true rfl) (Nat.le_of_ble_eq_true rfl) dX3_classOf_31
    · refine lv_iconst (v := 1) hx hb dX3_classOf_16 (by decide) ?_
      refine lv_goto (tgt := 31) hx hb dX3_classOf_17 (by decide) ?_
      exact zRi hx hb hr hlocks rfl (by rw [f_X3_classOf, if_pos c_1, if_neg c_2]) rfl rfl (Nat.le_of_ble_eq_true rfl) (Nat.le_of_ble_eq_true rfl) dX3_classOf_31
  · refine lv_iconst (v := 0) hx hb dX3_classOf_6 (by decide) ?_
    refine lv_goto (tgt := 31) hx hb dX3_classOf_7 (by decide) ?_
    exact zRi hx hb hr hlocks rfl (by rw [f_X3_classOf, if_neg c_1]) rfl rfl (Nat.le_of_ble_eq_true rfl) (Nat.le_of_ble_eq_true rfl) dX3_classOf_31

def f_X3_stamp (ck : Int32) : Int32 := if ck = 0 then 1 else (if ck = 1 then 3 else (if ck = 2 then 6 else 12))
set_option maxHeartbeats 4000000 in
set_option maxRecDepth 100000 in
/-- stamp -/
theorem c_X3_stamp (l : Launch) (G : zG) (sz : Nat) (h0 : Nat) (m0 : Nat) (m1 : Nat) (m2 : Nat) (m3 : Nat) (m4 : Nat) (m5 : Nat) (m6 : Nat) (m7 : Nat) (m8 : Nat) (m9 : Nat) (m10 : Nat) (m11 : Nat) (nb : Int32) (dy : Int32) (pd : Int32) (ow : Int32) (th : Int32) (ck : Int32) : Met l yX3_stamp wsX3_stamp { frames := 0, cells := 0, slots := 0, locals := 0 } (zPc G [.ref h0, .int ck] [(h0, .inr (5, [.ref m0, .ref m1, .ref m2, .ref m3, .ref m4, .ref m5, .ref m6, .ref m7, .ref m8, .ref m9, .ref m10, .ref m11, .int nb, .int dy, .int pd, .int ow, .int th]))] sz) (vp_Si (fun z => z = f_X3_stamp ck)) 0 0 (fun _ => False) := by
  refine zOfW (Qc := fun _ => vp_Si (fun z => z = f_X3_stamp ck)) (fr := fun _ _ => False) (cc := cX3_stamp) (maxL := 2) (ret := (some .int)) (by decide) rfl (Nat.le_of_ble_eq_true rfl) ?_
  intro p e s m below meth c hx hb hml hr hlocks hown hin hts A hP hK hD hE hA hS ls hl
  have hl : lv_has ls 2 [(0, .ref h0), (1, .int ck)] := hl
  have hown : s.vm.findClass RX3 = some m.cls := hown
  have hP : zP G [(h0, .inr (5, [.ref m0, .ref m1, .ref m2, .ref m3, .ref m4, .ref m5, .ref m6, .ref m7, .ref m8, .ref m9, .ref m10, .ref m11, .int nb, .int dy, .int pd, .int ow, .int th]))] s.heap := hP
  have hD : va_D A [(h0, .inr (5, [.ref m0, .ref m1, .ref m2, .ref m3, .ref m4, .ref m5, .ref m6, .ref m7, .ref m8, .ref m9, .ref m10, .ref m11, .int nb, .int dy, .int pd, .int ow, .int th]))] := hD
  refine lv_iload_n hx hb dX3_stamp_0 rfl (lv_at hl 1 rfl) ?_
  refine lv_if_ne (tgt := 8) hx hb dX3_stamp_1 (by decide) (fun c_1 => ?_) (fun c_1 => ?_)
  · refine lv_iload_n hx hb dX3_stamp_8 rfl (lv_at hl 1 rfl) ?_
    refine lv_iconst (v := 1) hx hb dX3_stamp_9 (by decide) ?_
    refine lv_icmp_ne (tgt := 17) hx hb dX3_stamp_10 (by decide) (fun c_2 => ?_) (fun c_2 => ?_)
    · refine lv_iload_n hx hb dX3_stamp_17 rfl (lv_at hl 1 rfl) ?_
      refine lv_iconst (v := 2) hx hb dX3_stamp_18 (by decide) ?_
      refine lv_icmp_ne (tgt := 27) hx hb dX3_stamp_19 (by decide) (fun c_3 => ?_) (fun c_3 => ?_)
      · refine lv_bipush (v := 12) hx hb dX3_stamp_27 (by decide) ?_
        exact zRi hx hb hr hlocks rfl (by rw [f_X3_stamp, if_neg c_1, if_neg c_2, if_neg c_3]) rfl rfl (Nat.le_of_ble_eq_true rfl) (Nat.le_of_ble_eq_true rfl) dX3_stamp_29
      · refine lv_bipush (v := 6) hx hb dX3_stamp_22 (by decide) ?_
        refine lv_goto (tgt := 29) hx hb dX3_stamp_24 (by decide) ?_
        exact zRi hx hb hr hlocks rfl (by rw [f_X3_stamp, if_neg c_1, if_neg c_2, if_pos c_3]) rfl rfl (Nat.le_of_ble_eq_true rfl) (Nat.le_of_ble_eq_true rfl) dX3_stamp_29
    · refine lv_iconst (v := 3) hx hb dX3_stamp_13 (by decide) ?_
      refine lv_goto (tgt := 29) hx hb dX3_stamp_14 (by decide) ?_
      exact zRi hx hb hr hlocks rfl (by rw [f_X3_stamp, if_neg c_1, if_pos c_2]) rfl rfl (Nat.le_of_ble_eq_true rfl) (Nat.le_of_ble_eq_true rfl) dX3_stamp_29
  · refine lv_iconst (v := 1) hx hb dX3_stamp_4 (by decide) ?_
    refine lv_goto (tgt := 29) hx hb dX3_stamp_5 (by decide) ?_
    exact zRi hx hb hr hlocks rfl (by rw [f_X3_stamp, if_pos c_1]) rfl rfl (Nat.le_of_ble_eq_true rfl) (Nat.le_of_ble_eq_true rfl) dX3_stamp_29

def f_X3_letters (pl : Int32) (z0 : Int32) (z1 : Int32) (z2 : Int32) (z3 : Int32) (z4 : Int32) (z5 : Int32) (z6 : Int32) : Int32 := if pl = 0 then z0 else (if pl = 1 then z1 else (if pl = 2 then z2 else (if pl = 3 then z3 else (if pl = 4 then z4 else (if pl = 5 then z5 else z6)))))
set_option maxHeartbeats 4000000 in
set_option maxRecDepth 100000 in
/-- letters -/
theorem c_X3_letters (l : Launch) (G : zG) (sz : Nat) (h0 : Nat) (m0 : Nat) (m1 : Nat) (m2 : Nat) (m3 : Nat) (m4 : Nat) (m5 : Nat) (m6 : Nat) (m7 : Nat) (m8 : Nat) (m9 : Nat) (m10 : Nat) (m11 : Nat) (nb : Int32) (dy : Int32) (pd : Int32) (ow : Int32) (th : Int32) (pl : Int32) (z0 : Int32) (z1 : Int32) (z2 : Int32) (z3 : Int32) (z4 : Int32) (z5 : Int32) (z6 : Int32) (hz0 : narrow .char (.int z0) = .int z0) (hz1 : narrow .char (.int z1) = .int z1) (hz2 : narrow .char (.int z2) = .int z2) (hz3 : narrow .char (.int z3) = .int z3) (hz4 : narrow .char (.int z4) = .int z4) (hz5 : narrow .char (.int z5) = .int z5) (hz6 : narrow .char (.int z6) = .int z6) : Met l yX3_letters wsX3_letters { frames := 0, cells := 0, slots := 0, locals := 0 } (zPc G [.ref h0, .int pl, .int z0, .int z1, .int z2, .int z3, .int z4, .int z5, .int z6] [(h0, .inr (5, [.ref m0, .ref m1, .ref m2, .ref m3, .ref m4, .ref m5, .ref m6, .ref m7, .ref m8, .ref m9, .ref m10, .ref m11, .int nb, .int dy, .int pd, .int ow, .int th]))] sz) (vp_Si (fun z => z = f_X3_letters pl z0 z1 z2 z3 z4 z5 z6)) 0 0 (fun _ => False) := by
  refine zOfW (Qc := fun _ => vp_Si (fun z => z = f_X3_letters pl z0 z1 z2 z3 z4 z5 z6)) (fr := fun _ _ => False) (cc := cX3_letters) (maxL := 9) (ret := (some .char)) (by decide) rfl (Nat.le_of_ble_eq_true rfl) ?_
  intro p e s m below meth c hx hb hml hr hlocks hown hin hts A hP hK hD hE hA hS ls hl
  have hl : lv_has ls 9 [(0, .ref h0), (1, .int pl), (2, .int z0), (3, .int z1), (4, .int z2), (5, .int z3), (6, .int z4), (7, .int z5), (8, .int z6)] := hl
  have hown : s.vm.findClass RX3 = some m.cls := hown
  have hP : zP G [(h0, .inr (5, [.ref m0, .ref m1, .ref m2, .ref m3, .ref m4, .ref m5, .ref m6, .ref m7, .ref m8, .ref m9, .ref m10, .ref m11, .int nb, .int dy, .int pd, .int ow, .int th]))] s.heap := hP
  have hD : va_D A [(h0, .inr (5, [.ref m0, .ref m1, .ref m2, .ref m3, .ref m4, .ref m5, .ref m6, .ref m7, .ref m8, .ref m9, .ref m10, .ref m11, .int nb, .int dy, .int pd, .int ow, .int th]))] := hD
  refine lv_iload_n hx hb dX3_letters_0 rfl (lv_at hl 1 rfl) ?_
  refine lv_if_ne (tgt := 8) hx hb dX3_letters_1 (by decide) (fun c_1 => ?_) (fun c_1 => ?_)
  · refine lv_iload_n hx hb dX3_letters_8 rfl (lv_at hl 1 rfl) ?_
    refine lv_iconst (v := 1) hx hb dX3_letters_9 (by decide) ?_
    refine lv_icmp_ne (tgt := 17) hx hb dX3_letters_10 (by decide) (fun c_2 => ?_) (fun c_2 => ?_)
    · refine lv_iload_n hx hb dX3_letters_17 rfl (lv_at hl 1 rfl) ?_
      refine lv_iconst (v := 2) hx hb dX3_letters_18 (by decide) ?_
      refine lv_icmp_ne (tgt := 27) hx hb dX3_letters_19 (by decide) (fun c_3 => ?_) (fun c_3 => ?_)
      · refine lv_iload_n hx hb dX3_letters_27 rfl (lv_at hl 1 rfl) ?_
        refine lv_iconst (v := 3) hx hb dX3_letters_28 (by decide) ?_
        refine lv_icmp_ne (tgt := 37) hx hb dX3_letters_29 (by decide) (fun c_4 => ?_) (fun c_4 => ?_)
        · refine lv_iload_n hx hb dX3_letters_37 rfl (lv_at hl 1 rfl) ?_
          refine lv_iconst (v := 4) hx hb dX3_letters_38 (by decide) ?_
          refine lv_icmp_ne (tgt := 47) hx hb dX3_letters_39 (by decide) (fun c_5 => ?_) (fun c_5 => ?_)
          · refine lv_iload_n hx hb dX3_letters_47 rfl (lv_at hl 1 rfl) ?_
            refine lv_iconst (v := 5) hx hb dX3_letters_48 (by decide) ?_
            refine lv_icmp_ne (tgt := 57) hx hb dX3_letters_49 (by decide) (fun c_6 => ?_) (fun c_6 => ?_)
            · refine lv_iload hx hb dX3_letters_57 (lv_at hl 8 rfl) ?_
              exact zRi hx hb hr hlocks hz6 (by rw [f_X3_letters, if_neg c_1, if_neg c_2, if_neg c_3, if_neg c_4, if_neg c_5, if_neg c_6]) rfl rfl (Nat.le_of_ble_eq_true rfl) (Nat.le_of_ble_eq_true rfl) dX3_letters_59
            · refine lv_iload hx hb dX3_letters_52 (lv_at hl 7 rfl) ?_
              refine lv_goto (tgt := 59) hx hb dX3_letters_54 (by decide) ?_
              exact zRi hx hb hr hlocks hz5 (by rw [f_X3_letters, if_neg c_1, if_neg c_2, if_neg c_3, if_neg c_4, if_neg c_5, if_pos c_6]) rfl rfl (Nat.le_of_ble_eq_true rfl) (Nat.le_of_ble_eq_true rfl) dX3_letters_59
          · refine lv_iload hx hb dX3_letters_42 (lv_at hl 6 rfl) ?_
            refine lv_goto (tgt := 59) hx hb dX3_letters_44 (by decide) ?_
            exact zRi hx hb hr hlocks hz4 (by rw [f_X3_letters, if_neg c_1, if_neg c_2, if_neg c_3, if_neg c_4, if_pos c_5]) rfl rfl (Nat.le_of_ble_eq_true rfl) (Nat.le_of_ble_eq_true rfl) dX3_letters_59
        · refine lv_iload hx hb dX3_letters_32 (lv_at hl 5 rfl) ?_
          refine lv_goto (tgt := 59) hx hb dX3_letters_34 (by decide) ?_
          exact zRi hx hb hr hlocks hz3 (by rw [f_X3_letters, if_neg c_1, if_neg c_2, if_neg c_3, if_pos c_4]) rfl rfl (Nat.le_of_ble_eq_true rfl) (Nat.le_of_ble_eq_true rfl) dX3_letters_59
      · refine lv_iload hx hb dX3_letters_22 (lv_at hl 4 rfl) ?_
        refine lv_goto (tgt := 59) hx hb dX3_letters_24 (by decide) ?_
        exact zRi hx hb hr hlocks hz2 (by rw [f_X3_letters, if_neg c_1, if_neg c_2, if_pos c_3]) rfl rfl (Nat.le_of_ble_eq_true rfl) (Nat.le_of_ble_eq_true rfl) dX3_letters_59
    · refine lv_iload_n hx hb dX3_letters_13 rfl (lv_at hl 3 rfl) ?_
      refine lv_goto (tgt := 59) hx hb dX3_letters_14 (by decide) ?_
      exact zRi hx hb hr hlocks hz1 (by rw [f_X3_letters, if_neg c_1, if_pos c_2]) rfl rfl (Nat.le_of_ble_eq_true rfl) (Nat.le_of_ble_eq_true rfl) dX3_letters_59
  · refine lv_iload_n hx hb dX3_letters_4 rfl (lv_at hl 2 rfl) ?_
    refine lv_goto (tgt := 59) hx hb dX3_letters_5 (by decide) ?_
    exact zRi hx hb hr hlocks hz0 (by rw [f_X3_letters, if_pos c_1]) rfl rfl (Nat.le_of_ble_eq_true rfl) (Nat.le_of_ble_eq_true rfl) dX3_letters_59

theorem z_inz (va le mo : Int32) : narrow .boolean (.int (f_X3_in va le mo)) = .int (f_X3_in va le mo) := by
  unfold f_X3_in
  split
  · rfl
  · split <;> rfl
theorem z_mcls (sg : Int32) : f_X3_classOf sg = 0 ∨ f_X3_classOf sg = 1 ∨ f_X3_classOf sg = 2 ∨ f_X3_classOf sg = 3 := by
  unfold f_X3_classOf
  split
  · split
    · split
      · exact Or.inr (Or.inr (Or.inr rfl))
      · exact Or.inr (Or.inr (Or.inl rfl))
    · exact Or.inr (Or.inl rfl)
  · exact Or.inl rfl
theorem wsi_X3_isBrew_X3 : ∀ w ∈ wsX30, w ∈ wsX3_isBrew := fun w h => List.mem_cons_of_mem _ (List.mem_append_right _ h)
set_option maxHeartbeats 4000000 in
set_option maxRecDepth 100000 in
/-- isBrew -/
theorem c_X3_isBrew (l : Launch) (G : zG) (sz : Nat) (h0 : Nat) (m0 : Nat) (m1 : Nat) (m2 : Nat) (m3 : Nat) (m4 : Nat) (m5 : Nat) (m6 : Nat) (m7 : Nat) (m8 : Nat) (m9 : Nat) (m10 : Nat) (m11 : Nat) (nb : Int32) (dy : Int32) (pd : Int32) (ow : Int32) (th : Int32) (bb : Int32) : Met l yX3_isBrew wsX3_isBrew { frames := 1, cells := 0, slots := 0, locals := 23 } (zPc G [.ref h0, .int bb] [(h0, .inr (5, [.ref m0, .ref m1, .ref m2, .ref m3, .ref m4, .ref m5, .ref m6, .ref m7, .ref m8, .ref m9, .ref m10, .ref m11, .int nb, .int dy, .int pd, .int ow, .int th]))] sz) (vp_Si (fun z => z = f_X3_in bb 0 (nb - 1))) 0 0 (fun _ => False) := by
  refine zOfW (Qc := fun _ => vp_Si (fun z => z = f_X3_in bb 0 (nb - 1))) (fr := fun _ _ => False) (cc := cX3_isBrew) (maxL := 2) (ret := (some .boolean)) (by decide) rfl (Nat.le_of_ble_eq_true rfl) ?_
  intro p e s m below meth c hx hb hml hr hlocks hown hin hts A hP hK hD hE hA hS ls hl
  have hl : lv_has ls 2 [(0, .ref h0), (1, .int bb)] := hl
  have hown : s.vm.findClass RX3 = some m.cls := hown
  have hP : zP G [(h0, .inr (5, [.ref m0, .ref m1, .ref m2, .ref m3, .ref m4, .ref m5, .ref m6, .ref m7, .ref m8, .ref m9, .ref m10, .ref m11, .int nb, .int dy, .int pd, .int ow, .int th]))] s.heap := hP
  have hD : va_D A [(h0, .inr (5, [.ref m0, .ref m1, .ref m2, .ref m3, .ref m4, .ref m5, .ref m6, .ref m7, .ref m8, .ref m9, .ref m10, .ref m11, .int nb, .int dy, .int pd, .int ow, .int th]))] := hD
  refine lv_aload_n hx hb dX3_isBrew_0 rfl (lv_at hl 0 rfl) ?_
  refine lv_iload_n hx hb dX3_isBrew_1 rfl (lv_at hl 1 rfl) ?_
  refine lv_iconst (v := 0) hx hb dX3_isBrew_2 (by decide) ?_
  refine lv_aload_n hx hb dX3_isBrew_3 rfl (lv_at hl 0 rfl) ?_
  refine va_get (D := G.1) (ci := 5) (v := .int nb) (C := RX3) (T := TX3) (N := 17) hx hb hts wsi_X3_isBrew_X3 hown hK hP 0 rfl rfl 12 (by decide) (hts (.fieldLink "CellarschedulerModel" 54 "CellarschedulerModel" "brews" "I") (List.mem_of_getElem? (i := 1) (by decide +kernel))) (fun _ h9 => h9) rfl dX3_isBrew_4 ?_
  refine lv_iconst (v := 1) hx hb dX3_isBrew_7 (by decide) ?_
  refine lv_isub hx hb dX3_isBrew_8 ?_
  refine zCi (r := f_X3_in bb 0 (nb - 1)) (va_runV (As := [.int bb, .int 0, .int (nb - 1)]) (rest := []) ⟨hx, hb, hml, hown, hts⟩ (c_X3_in l G s.heap.size h0 m0 m1 m2 m3 m4 m5 m6 m7 m8 m9 m10 m11 nb dy pd ow th bb 0 (nb - 1)) (cwV 3 hts gX3_isBrew_X3_in rfl rfl rfl (by decide +kernel) ⟨(Nat.le_of_ble_eq_true rfl), (Nat.le_of_ble_eq_true rfl)⟩) (zPreV hE hS hA hP hD hK (z_pick (n := 1) [0] [] rfl (by decide) rfl rfl) (va_recv hK hP (ci := 5) (q0 := 0) rfl rfl)) rfl rfl hl.1 rfl (lv_room (Nat.le_of_ble_eq_true rfl)) dX3_isBrew_9 ⟨(Nat.le_of_ble_eq_true rfl), (Nat.le_of_ble_eq_true rfl)⟩).run ?_
  exact zRi hx hb hr hlocks (z_inz _ _ _) rfl rfl rfl (Nat.le_of_ble_eq_true rfl) (Nat.le_of_ble_eq_true rfl) dX3_isBrew_12
