theorem wsi_X2_init_X2 : ∀ w ∈ wsX20, w ∈ wsX2_init := fun w h => List.mem_cons_of_mem _ (List.mem_append_left _ (List.mem_append_right _ h))
theorem wsi_X2_init_X1 : ∀ w ∈ wsX10, w ∈ wsX2_init := fun w h => List.mem_cons_of_mem _ (List.mem_append_right _ h)
set_option maxHeartbeats 4000000 in
set_option maxRecDepth 100000 in
/-- Cellarscheduler() -/
theorem c_X2_init (l : Launch) (G : zG) (sz : Nat) (x0 : Nat) : Met l yX2_init wsX2_init { frames := 2, cells := 8, slots := 2607, locals := 40 } (zPc G [.ref x0] [(x0, .inr (4, [.null, .null, .int 0, .int 0, .int 0, .int 0]))] sz) (zQv G (fun (u : Nat × Nat × Nat × Nat × Nat × Nat × Nat × Nat) => True) (fun u => [(x0, .inr (4, [.ref u.1, .ref u.2.1, .int 0, .int 0, .int 0, .int 0])), (u.1, .inl (G.2.1 3, 20, .inr (.inr (.inr (.inr (fun _ => none)))))), (u.2.1, .inr (3, [.ref u.2.2.1, .ref u.2.2.2.1, .ref u.2.2.2.2.1, .ref u.2.2.2.2.2.1, .ref u.2.2.2.2.2.2.1, .int 0, .ref u.2.2.2.2.2.2.2])), (u.2.2.1, .inl (G.2.1 0, 512, .inl (fun _ => 0))), (u.2.2.2.1, .inl (G.2.1 0, 512, .inl (fun _ => 0))), (u.2.2.2.2.1, .inl (G.2.1 0, 512, .inl (fun _ => 0))), (u.2.2.2.2.2.1, .inl (G.2.1 0, 512, .inl (fun _ => 0))), (u.2.2.2.2.2.2.1, .inl (G.2.1 0, 512, .inl (fun _ => 0))), (u.2.2.2.2.2.2.2, .inl (G.2.1 0, 20, .inl (fun _ => 0)))]) (va_A [(x0, .inr (4, [.null, .null, .int 0, .int 0, .int 0, .int 0]))] sz)) 8 2607 (va_A [(x0, .inr (4, [.null, .null, .int 0, .int 0, .int 0, .int 0]))] sz) := by
  refine zOfW (Qc := fun A => zQv G (fun (u : Nat × Nat × Nat × Nat × Nat × Nat × Nat × Nat) => True) (fun u => [(x0, .inr (4, [.ref u.1, .ref u.2.1, .int 0, .int 0, .int 0, .int 0])), (u.1, .inl (G.2.1 3, 20, .inr (.inr (.inr (.inr (fun _ => none)))))), (u.2.1, .inr (3, [.ref u.2.2.1, .ref u.2.2.2.1, .ref u.2.2.2.2.1, .ref u.2.2.2.2.2.1, .ref u.2.2.2.2.2.2.1, .int 0, .ref u.2.2.2.2.2.2.2])), (u.2.2.1, .inl (G.2.1 0, 512, .inl (fun _ => 0))), (u.2.2.2.1, .inl (G.2.1 0, 512, .inl (fun _ => 0))), (u.2.2.2.2.1, .inl (G.2.1 0, 512, .inl (fun _ => 0))), (u.2.2.2.2.2.1, .inl (G.2.1 0, 512, .inl (fun _ => 0))), (u.2.2.2.2.2.2.1, .inl (G.2.1 0, 512, .inl (fun _ => 0))), (u.2.2.2.2.2.2.2, .inl (G.2.1 0, 20, .inl (fun _ => 0)))]) A) (fr := fun A => A) (cc := cX2_init) (maxL := 1) (ret := none) (by decide) rfl (Nat.le_of_ble_eq_true rfl) ?_
  intro p e s m below meth c hx hb hml hr hlocks hown hin hts A hP hK hD hE hA hS ls hl
  have hl : lv_has ls 1 [(0, .ref x0)] := hl
  have hown : s.vm.findClass RX2 = some m.cls := hown
  have hin : meth.name = "<init>" := hin
  have hP : zP G [(x0, .inr (4, [.null, .null, .int 0, .int 0, .int 0, .int 0]))] s.heap := hP
  have hD : va_D A [(x0, .inr (4, [.null, .null, .int 0, .int 0, .int 0, .int 0]))] := hD
  refine lv_aload_n hx hb dX2_init_0 rfl (lv_at hl 0 rfl) ?_
  refine W.objInit hx hb hown (hts (.methodLink "Cellarscheduler" 1 ⟨"java/lang/Object","<init>","()V"⟩) (List.mem_of_getElem? (i := 1) (by decide +kernel))) (hts (.instanceMethod objectInit) (List.mem_of_getElem? (i := 2) (by decide +kernel))) (hts (.code objectInit ⟨#[0xb1]⟩ 1 none) (List.mem_of_getElem? (i := 3) (by decide +kernel))) rfl (by rw [hml]; exact hl.1) rfl dX2_init_1 (Nat.le_of_ble_eq_true rfl) (Nat.le_of_ble_eq_true rfl) ?_
  refine W.eq (g2 := F0 m 4 ls []) rfl ?_
  refine lv_aload_n hx hb dX2_init_4 rfl (lv_at hl 0 rfl) ?_
  refine lv_bipush (v := 20) hx hb dX2_init_5 (by decide) ?_
  refine zNewq (N := 20) hx hb hown (hts (.classLink "Cellarscheduler" 9 "Cellarscheduler$Brew") (List.mem_of_getElem? (i := 4) (by decide +kernel))) hE hK hP hD hS hA (by decide) (by decide) (by decide) (Nat.le_of_ble_eq_true rfl) (Nat.le_of_ble_eq_true rfl) dX2_init_7 (fun q_1 H hP hD hS => ?_)
  have hP : zP G [(x0, .inr (4, [.null, .null, .int 0, .int 0, .int 0, .int 0])), (q_1, .inl (G.2.1 3, 20, .inr (.inr (.inr (.inr (fun _ => none))))))] H := hP
  have hD : va_D A [(x0, .inr (4, [.null, .null, .int 0, .int 0, .int 0, .int 0])), (q_1, .inl (G.2.1 3, 20, .inr (.inr (.inr (.inr (fun _ => none))))))] := hD
  refine va_putF (D := G.1) (ci := 4) (v := .ref q_1) (ty := .array (.object "Cellarscheduler$Brew")) (C := RX2) (T := TX2) (N := 6) hx hb hts wsi_X2_init_X2 tyX2 tyX2_ok nmX2 hown hK hP hD hS 0 rfl rfl 0 (by decide) (hts (.fieldLink "Cellarscheduler" 11 "Cellarscheduler" "brews" "[LCellarscheduler$Brew;") (List.mem_of_getElem? (i := 5) (by decide +kernel))) (fun _ h9 => h9) rfl hin rfl (by decide +kernel) rfl rfl (Nat.le_of_ble_eq_true rfl) dX2_init_10 (fun H locs hP hD hS => ?_)
  have hP : zP G [(x0, .inr (4, [.ref q_1, .null, .int 0, .int 0, .int 0, .int 0])), (q_1, .inl (G.2.1 3, 20, .inr (.inr (.inr (.inr (fun _ => none))))))] H := hP
  have hD : va_D A [(x0, .inr (4, [.ref q_1, .null, .int 0, .int 0, .int 0, .int 0])), (q_1, .inl (G.2.1 3, 20, .inr (.inr (.inr (.inr (fun _ => none))))))] := hD
  refine lv_aload_n hx hb dX2_init_13 rfl (lv_at hl 0 rfl) ?_
  refine va_new (D := G.1) (ci := 3) (fs := [.null, .null, .null, .null, .null, .int 0, .null]) (C := RX1) (T := TX1) (N := 7) hx hb hts wsi_X2_init_X1 tyX1 tyX1_ok hown (hts (.classLink "Cellarscheduler" 15 "Cellarscheduler$Tellings") (List.mem_of_getElem? (i := 6) (by decide +kernel))) (hts (.instantiable RX1 7) (List.mem_of_getElem? (i := 7) (by decide +kernel))) (hts (.initialized RX1) (List.mem_of_getElem? (i := 8) (by decide +kernel))) hK hP hD hS hA rfl (fun j hj => by rcases (show j = 0 ∨ j = 1 ∨ j = 2 ∨ j = 3 ∨ j = 4 ∨ j = 5 ∨ j = 6 by omega) with rfl | rfl | rfl | rfl | rfl | rfl | rfl <;> rfl) (Nat.le_of_ble_eq_true rfl) (Nat.le_of_ble_eq_true rfl) dX2_init_14 (fun q_2 H hP hD hS => ?_)
  have hP : zP G [(x0, .inr (4, [.ref q_1, .null, .int 0, .int 0, .int 0, .int 0])), (q_1, .inl (G.2.1 3, 20, .inr (.inr (.inr (.inr (fun _ => none)))))), (q_2, .inr (3, [.null, .null, .null, .null, .null, .int 0, .null]))] H := hP
  have hD : va_D A [(x0, .inr (4, [.ref q_1, .null, .int 0, .int 0, .int 0, .int 0])), (q_1, .inl (G.2.1 3, 20, .inr (.inr (.inr (.inr (fun _ => none)))))), (q_2, .inr (3, [.null, .null, .null, .null, .null, .int 0, .null]))] := hD
  refine lv_dup hx hb dX2_init_17 rfl ?_
  refine zDv (wr := [(x0, .inr (4, [.ref q_1, .null, .int 0, .int 0, .int 0, .int 0])), (q_1, .inl (G.2.1 3, 20, .inr (.inr (.inr (.inr (fun _ => none))))))]) (va_runIN (As := []) (rest := [.ref q_2, .ref x0]) ⟨hx, hb, hml, hown, hts⟩ (c_X1_init l G H.size q_2) ⟨va_cnB 0 hts gX2_init_X1_init_n17 rfl rfl rfl (hE.w 8 rfl) (hts (.initialized RX1) (List.mem_of_getElem? (i := 8) (by decide +kernel))) (by decide +kernel) ⟨(Nat.le_of_ble_eq_true rfl), (Nat.le_of_ble_eq_true rfl)⟩, rfl, (hts (.instanceMethod yX1_init) (List.mem_of_getElem? (i := 14) (by decide +kernel)))⟩ (zPreS (As := [.ref q_2]) hE hS hA hP hD hK (z_pick (n := 3) [2] [0, 1] rfl (by decide) rfl rfl)) rfl rfl hl.1 rfl (lv_room (Nat.le_of_ble_eq_true rfl)) dX2_init_18 ⟨(Nat.le_of_ble_eq_true rfl), (Nat.le_of_ble_eq_true rfl)⟩) hP hD hS hA (z_pick (n := 3) [2] [0, 1] rfl (by decide) rfl rfl) (fun u_3 H locs hp_4 hP hD hS => ?_)
  obtain ⟨a0_0, a1_1, a2_2, a3_3, a4_4, fo_5⟩ := u_3
  have hP : zP G [(q_2, .inr (3, [.ref a0_0, .ref a1_1, .ref a2_2, .ref a3_3, .ref a4_4, .int 0, .ref fo_5])), (a0_0, .inl (G.2.1 0, 512, .inl (fun _ => 0))), (a1_1, .inl (G.2.1 0, 512, .inl (fun _ => 0))), (a2_2, .inl (G.2.1 0, 512, .inl (fun _ => 0))), (a3_3, .inl (G.2.1 0, 512, .inl (fun _ => 0))), (a4_4, .inl (G.2.1 0, 512, .inl (fun _ => 0))), (fo_5, .inl (G.2.1 0, 20, .inl (fun _ => 0))), (x0, .inr (4, [.ref q_1, .null, .int 0, .int 0, .int 0, .int 0])), (q_1, .inl (G.2.1 3, 20, .inr (.inr (.inr (.inr (fun _ => none))))))] H := hP
  have hD : va_D A [(q_2, .inr (3, [.ref a0_0, .ref a1_1, .ref a2_2, .ref a3_3, .ref a4_4, .int 0, .ref fo_5])), (a0_0, .inl (G.2.1 0, 512, .inl (fun _ => 0))), (a1_1, .inl (G.2.1 0, 512, .inl (fun _ => 0))), (a2_2, .inl (G.2.1 0, 512, .inl (fun _ => 0))), (a3_3, .inl (G.2.1 0, 512, .inl (fun _ => 0))), (a4_4, .inl (G.2.1 0, 512, .inl (fun _ => 0))), (fo_5, .inl (G.2.1 0, 20, .inl (fun _ => 0))), (x0, .inr (4, [.ref q_1, .null, .int 0, .int 0, .int 0, .int 0])), (q_1, .inl (G.2.1 3, 20, .inr (.inr (.inr (.inr (fun _ => none))))))] := hD
  refine va_putF (D := G.1) (ci := 4) (v := .ref q_2) (ty := .object "Cellarscheduler$Tellings") (C := RX2) (T := TX2) (N := 6) hx hb hts wsi_X2_init_X2 tyX2 tyX2_ok nmX2 hown hK hP hD hS 7 rfl rfl 1 (by decide) (hts (.fieldLink "Cellarscheduler" 18 "Cellarscheduler" "tellings" "LCellarscheduler$Tellings;") (List.mem_of_getElem? (i := 9) (by decide +kernel))) (fun _ h9 => h9) rfl hin rfl (by decide +kernel) rfl rfl (Nat.le_of_ble_eq_true rfl) dX2_init_21 (fun H locs hP hD hS => ?_)
  have hP : zP G [(q_2, .inr (3, [.ref a0_0, .ref a1_1, .ref a2_2, .ref a3_3, .ref a4_4, .int 0, .ref fo_5])), (a0_0, .inl (G.2.1 0, 512, .inl (fun _ => 0))), (a1_1, .inl (G.2.1 0, 512, .inl (fun _ => 0))), (a2_2, .inl (G.2.1 0, 512, .inl (fun _ => 0))), (a3_3, .inl (G.2.1 0, 512, .inl (fun _ => 0))), (a4_4, .inl (G.2.1 0, 512, .inl (fun _ => 0))), (fo_5, .inl (G.2.1 0, 20, .inl (fun _ => 0))), (x0, .inr (4, [.ref q_1, .ref q_2, .int 0, .int 0, .int 0, .int 0])), (q_1, .inl (G.2.1 3, 20, .inr (.inr (.inr (.inr (fun _ => none))))))] H := hP
  have hD : va_D A [(q_2, .inr (3, [.ref a0_0, .ref a1_1, .ref a2_2, .ref a3_3, .ref a4_4, .int 0, .ref fo_5])), (a0_0, .inl (G.2.1 0, 512, .inl (fun _ => 0))), (a1_1, .inl (G.2.1 0, 512, .inl (fun _ => 0))), (a2_2, .inl (G.2.1 0, 512, .inl (fun _ => 0))), (a3_3, .inl (G.2.1 0, 512, .inl (fun _ => 0))), (a4_4, .inl (G.2.1 0, 512, .inl (fun _ => 0))), (fo_5, .inl (G.2.1 0, 20, .inl (fun _ => 0))), (x0, .inr (4, [.ref q_1, .ref q_2, .int 0, .int 0, .int 0, .int 0])), (q_1, .inl (G.2.1 3, 20, .inr (.inr (.inr (.inr (fun _ => none))))))] := hD
  refine lv_aload_n hx hb dX2_init_24 rfl (lv_at hl 0 rfl) ?_
  refine lv_iconst (v := 0) hx hb dX2_init_25 (by decide) ?_
  refine va_put (D := G.1) (ci := 4) (v := .int 0) (ty := .int) (C := RX2) (T := TX2) (N := 6) hx hb hts wsi_X2_init_X2 tyX2 tyX2_ok nmX2 hown hK hP hD hS 7 rfl rfl 2 (by decide) (hts (.fieldLink "Cellarscheduler" 22 "Cellarscheduler" "begun" "I") (List.mem_of_getElem? (i := 10) (by decide +kernel))) (fun _ h9 => h9) rfl (by decide +kernel) rfl rfl (Nat.le_of_ble_eq_true rfl) dX2_init_26 (fun H locs hP hD hS => ?_)
  have hP : zP G [(q_2, .inr (3, [.ref a0_0, .ref a1_1, .ref a2_2, .ref a3_3, .ref a4_4, .int 0, .ref fo_5])), (a0_0, .inl (G.2.1 0, 512, .inl (fun _ => 0))), (a1_1, .inl (G.2.1 0, 512, .inl (fun _ => 0))), (a2_2, .inl (G.2.1 0, 512, .inl (fun _ => 0))), (a3_3, .inl (G.2.1 0, 512, .inl (fun _ => 0))), (a4_4, .inl (G.2.1 0, 512, .inl (fun _ => 0))), (fo_5, .inl (G.2.1 0, 20, .inl (fun _ => 0))), (x0, .inr (4, [.ref q_1, .ref q_2, .int 0, .int 0, .int 0, .int 0])), (q_1, .inl (G.2.1 3, 20, .inr (.inr (.inr (.inr (fun _ => none))))))] H := hP
  have hD : va_D A [(q_2, .inr (3, [.ref a0_0, .ref a1_1, .ref a2_2, .ref a3_3, .ref a4_4, .int 0, .ref fo_5])), (a0_0, .inl (G.2.1 0, 512, .inl (fun _ => 0))), (a1_1, .inl (G.2.1 0, 512, .inl (fun _ => 0))), (a2_2, .inl (G.2.1 0, 512, .inl (fun _ => 0))), (a3_3, .inl (G.2.1 0, 512, .inl (fun _ => 0))), (a4_4, .inl (G.2.1 0, 512, .inl (fun _ => 0))), (fo_5, .inl (G.2.1 0, 20, .inl (fun _ => 0))), (x0, .inr (4, [.ref q_1, .ref q_2, .int 0, .int 0, .int 0, .int 0])), (q_1, .inl (G.2.1 3, 20, .inr (.inr (.inr (.inr (fun _ => none))))))] := hD
  refine lv_aload_n hx hb dX2_init_29 rfl (lv_at hl 0 rfl) ?_
  refine lv_iconst (v := 0) hx hb dX2_init_30 (by decide) ?_
  refine va_put (D := G.1) (ci := 4) (v := .int 0) (ty := .int) (C := RX2) (T := TX2) (N := 6) hx hb hts wsi_X2_init_X2 tyX2 tyX2_ok nmX2 hown hK hP hD hS 7 rfl rfl 3 (by decide) (hts (.fieldLink "Cellarscheduler" 26 "Cellarscheduler" "day" "I") (List.mem_of_getElem? (i := 11) (by decide +kernel))) (fun _ h9 => h9) rfl (by decide +kernel) rfl rfl (Nat.le_of_ble_eq_true rfl) dX2_init_31 (fun H locs hP hD hS => ?_)
  have hP : zP G [(q_2, .inr (3, [.ref a0_0, .ref a1_1, .ref a2_2, .ref a3_3, .ref a4_4, .int 0, .ref fo_5])), (a0_0, .inl (G.2.1 0, 512, .inl (fun _ => 0))), (a1_1, .inl (G.2.1 0, 512, .inl (fun _ => 0))), (a2_2, .inl (G.2.1 0, 512, .inl (fun _ => 0))), (a3_3, .inl (G.2.1 0, 512, .inl (fun _ => 0))), (a4_4, .inl (G.2.1 0, 512, .inl (fun _ => 0))), (fo_5, .inl (G.2.1 0, 20, .inl (fun _ => 0))), (x0, .inr (4, [.ref q_1, .ref q_2, .int 0, .int 0, .int 0, .int 0])), (q_1, .inl (G.2.1 3, 20, .inr (.inr (.inr (.inr (fun _ => none))))))] H := hP
  have hD : va_D A [(q_2, .inr (3, [.ref a0_0, .ref a1_1, .ref a2_2, .ref a3_3, .ref a4_4, .int 0, .ref fo_5])), (a0_0, .inl (G.2.1 0, 512, .inl (fun _ => 0))), (a1_1, .inl (G.2.1 0, 512, .inl (fun _ => 0))), (a2_2, .inl (G.2.1 0, 512, .inl (fun _ => 0))), (a3_3, .inl (G.2.1 0, 512, .inl (fun _ => 0))), (a4_4, .inl (G.2.1 0, 512, .inl (fun _ => 0))), (fo_5, .inl (G.2.1 0, 20, .inl (fun _ => 0))), (x0, .inr (4, [.ref q_1, .ref q_2, .int 0, .int 0, .int 0, .int 0])), (q_1, .inl (G.2.1 3, 20, .inr (.inr (.inr (.inr (fun _ => none))))))] := hD
  refine lv_aload_n hx hb dX2_init_34 rfl (lv_at hl 0 rfl) ?_
  refine lv_iconst (v := 0) hx hb dX2_init_35 (by decide) ?_
  refine va_put (D := G.1) (ci := 4) (v := .int 0) (ty := .int) (C := RX2) (T := TX2) (N := 6) hx hb hts wsi_X2_init_X2 tyX2 tyX2_ok nmX2 hown hK hP hD hS 7 rfl rfl 4 (by decide) (hts (.fieldLink "Cellarscheduler" 29 "Cellarscheduler" "pencePaid" "I") (List.mem_of_getElem? (i := 12) (by decide +kernel))) (fun _ h9 => h9) rfl (by decide +kernel) rfl rfl (Nat.le_of_ble_eq_true rfl) dX2_init_36 (fun H locs hP hD hS => ?_)
  have hP : zP G [(q_2, .inr (3, [.ref a0_0, .ref a1_1, .ref a2_2, .ref a3_3, .ref a4_4, .int 0, .ref fo_5])), (a0_0, .inl (G.2.1 0, 512, .inl (fun _ => 0))), (a1_1, .inl (G.2.1 0, 512, .inl (fun _ => 0))), (a2_2, .inl (G.2.1 0, 512, .inl (fun _ => 0))), (a3_3, .inl (G.2.1 0, 512, .inl (fun _ => 0))), (a4_4, .inl (G.2.1 0, 512, .inl (fun _ => 0))), (fo_5, .inl (G.2.1 0, 20, .inl (fun _ => 0))), (x0, .inr (4, [.ref q_1, .ref q_2, .int 0, .int 0, .int 0, .int 0])), (q_1, .inl (G.2.1 3, 20, .inr (.inr (.inr (.inr (fun _ => none))))))] H := hP
  have hD : va_D A [(q_2, .inr (3, [.ref a0_0, .ref a1_1, .ref a2_2, .ref a3_3, .ref a4_4, .int 0, .ref fo_5])), (a0_0, .inl (G.2.1 0, 512, .inl (fun _ => 0))), (a1_1, .inl (G.2.1 0, 512, .inl (fun _ => 0))), (a2_2, .inl (G.2.1 0, 512, .inl (fun _ => 0))), (a3_3, .inl (G.2.1 0, 512, .inl (fun _ => 0))), (a4_4, .inl (G.2.1 0, 512, .inl (fun _ => 0))), (fo_5, .inl (G.2.1 0, 20, .inl (fun _ => 0))), (x0, .inr (4, [.ref q_1, .ref q_2, .int 0, .int 0, .int 0, .int 0])), (q_1, .inl (G.2.1 3, 20, .inr (.inr (.inr (.inr (fun _ => none))))))] := hD
  refine lv_aload_n hx hb dX2_init_39 rfl (lv_at hl 0 rfl) ?_
  refine lv_iconst (v := 0) hx hb dX2_init_40 (by decide) ?_
  refine va_put (D := G.1) (ci := 4) (v := .int 0) (ty := .int) (C := RX2) (T := TX2) (N := 6) hx hb hts wsi_X2_init_X2 tyX2 tyX2_ok nmX2 hown hK hP hD hS 7 rfl rfl 5 (by decide) (hts (.fieldLink "Cellarscheduler" 32 "Cellarscheduler" "penceOwed" "I") (List.mem_of_getElem? (i := 13) (by decide +kernel))) (fun _ h9 => h9) rfl (by decide +kernel) rfl rfl (Nat.le_of_ble_eq_true rfl) dX2_init_41 (fun H locs hP hD hS => ?_)
  have hP : zP G [(q_2, .inr (3, [.ref a0_0, .ref a1_1, .ref a2_2, .ref a3_3, .ref a4_4, .int 0, .ref fo_5])), (a0_0, .inl (G.2.1 0, 512, .inl (fun _ => 0))), (a1_1, .inl (G.2.1 0, 512, .inl (fun _ => 0))), (a2_2, .inl (G.2.1 0, 512, .inl (fun _ => 0))), (a3_3, .inl (G.2.1 0, 512, .inl (fun _ => 0))), (a4_4, .inl (G.2.1 0, 512, .inl (fun _ => 0))), (fo_5, .inl (G.2.1 0, 20, .inl (fun _ => 0))), (x0, .inr (4, [.ref q_1, .ref q_2, .int 0, .int 0, .int 0, .int 0])), (q_1, .inl (G.2.1 3, 20, .inr (.inr (.inr (.inr (fun _ => none))))))] H := hP
  have hD : va_D A [(q_2, .inr (3, [.ref a0_0, .ref a1_1, .ref a2_2, .ref a3_3, .ref a4_4, .int 0, .ref fo_5])), (a0_0, .inl (G.2.1 0, 512, .inl (fun _ => 0))), (a1_1, .inl (G.2.1 0, 512, .inl (fun _ => 0))), (a2_2, .inl (G.2.1 0, 512, .inl (fun _ => 0))), (a3_3, .inl (G.2.1 0, 512, .inl (fun _ => 0))), (a4_4, .inl (G.2.1 0, 512, .inl (fun _ => 0))), (fo_5, .inl (G.2.1 0, 20, .inl (fun _ => 0))), (x0, .inr (4, [.ref q_1, .ref q_2, .int 0, .int 0, .int 0, .int 0])), (q_1, .inl (G.2.1 3, 20, .inr (.inr (.inr (.inr (fun _ => none))))))] := hD
  exact zWv (q_1, q_2, a0_0, a1_1, a2_2, a3_3, a4_4, fo_5) hx hb hr hlocks trivial hP hD hK hS (z_pick (n := 9) [7, 8, 0, 1, 2, 3, 4, 5, 6] [] rfl (by decide) rfl rfl) (Nat.le_of_ble_eq_true rfl) (Nat.le_of_ble_eq_true rfl) dX2_init_44

theorem wsi_X2_isBegun_X2 : ∀ w ∈ wsX20, w ∈ wsX2_isBegun := fun w h => List.mem_cons_of_mem _ (List.mem_append_right _ h)
def f_X2_isBegun (ng : Int32) (bb : Int32) : Int32 := if bb < 0 then 0 else (if ng ≤ bb then 0 else 1)
set_option maxHeartbeats 4000000 in
set_option maxRecDepth 100000 in
/-- isBegun -/
theorem c_X2_isBegun (l : Launch) (G : zG) (sz : Nat) (x0 : Nat) (xb : Nat) (te : Nat) (dy : Int32) (pp : Int32) (po : Int32) (ng : Int32) (bb : Int32) : Met l yX2_isBegun wsX2_isBegun { frames := 0, cells := 0, slots := 0, locals := 0 } (zPc G [.ref x0, .int bb] [(x0, .inr (4, [.ref xb, .ref te, .int ng, .int dy, .int pp, .int po]))] sz) (vp_Si (fun z => z = f_X2_isBegun ng bb)) 0 0 (fun _ => False) := by
  refine zOfW (Qc := fun _ => vp_Si (fun z => z = f_X2_isBegun ng bb)) (fr := fun _ _ => False) (cc := cX2_isBegun) (maxL := 2) (ret := (some .boolean)) (by decide) rfl (Nat.le_of_ble_eq_true rfl) ?_
  intro p e s m below meth c hx hb hml hr hlocks hown hin hts A hP hK hD hE hA hS ls hl
  have hl : lv_has ls 2 [(0, .ref x0), (1, .int bb)] := hl
  have hown : s.vm.findClass RX2 = some m.cls := hown
  have hP : zP G [(x0, .inr (4, [.ref xb, .ref te, .int ng, .int dy, .int pp, .int po]))] s.heap := hP
  have hD : va_D A [(x0, .inr (4, [.ref xb, .ref te, .int ng, .int dy, .int pp, .int po]))] := hD
  refine lv_iload_n hx hb dX2_isBegun_0 rfl (lv_at hl 1 rfl) ?_
  refine lv_if_lt (tgt := 16) hx hb dX2_isBegun_1 (by decide) (fun c_1 => ?_) (fun c_1 => ?_)
  · refine lv_iconst (v := 0) hx hb dX2_isBegun_16 (by decide) ?_
    exact zRi hx hb hr hlocks rfl (by rw [f_X2_isBegun, if_pos c_1]) rfl rfl (Nat.le_of_ble_eq_true rfl) (Nat.le_of_ble_eq_true rfl) dX2_isBegun_17
  · refine lv_iload_n hx hb dX2_isBegun_4 rfl (lv_at hl 1 rfl) ?_
    refine lv_aload_n hx hb dX2_isBegun_5 rfl (lv_at hl 0 rfl) ?_
    refine va_get (D := G.1) (ci := 4) (v := .int ng) (C := RX2) (T := TX2) (N := 6) hx hb hts wsi_X2_isBegun_X2 hown hK hP 0 rfl rfl 2 (by decide) (hts (.fieldLink "Cellarscheduler" 22 "Cellarscheduler" "begun" "I") (List.mem_of_getElem? (i := 1) (by decide +kernel))) (fun _ h9 => h9) rfl dX2_isBegun_6 ?_
    refine lv_icmp_ge (tgt := 16) hx hb dX2_isBegun_9 (by decide) (fun c_2 => ?_) (fun c_2 => ?_)
    · refine lv_iconst (v := 0) hx hb dX2_isBegun_16 (by decide) ?_
      exact zRi hx hb hr hlocks rfl (by rw [f_X2_isBegun, if_neg c_1, if_pos c_2]) rfl rfl (Nat.le_of_ble_eq_true rfl) (Nat.le_of_ble_eq_true rfl) dX2_isBegun_17
    · refine lv_iconst (v := 1) hx hb dX2_isBegun_12 (by decide) ?_
      refine lv_goto (tgt := 17) hx hb dX2_isBegun_13 (by decide) ?_
      exact zRi hx hb hr hlocks rfl (by rw [f_X2_isBegun, if_neg c_1, if_neg c_2]) rfl rfl (Nat.le_of_ble_eq_true rfl) (Nat.le_of_ble_eq_true rfl) dX2_isBegun_17

theorem z_begun {n jj : Nat} (h : jj < n) (hn : n ≤ 20) : ¬ f_X2_isBegun (nI n) (nI jj) = 0 := by
  unfold f_X2_isBegun
  rw [if_neg (nI_pos (by omega)), if_neg (nI_ge h (by omega))]
  decide
theorem z_lt20' {n : Nat} (hn : n ≤ 20) (h : (nI n) < (20 : Int32)) : n < 20 := by
  rcases Nat.lt_or_eq_of_le hn with h1 | h1
  · exact h1
  · subst h1
    exact absurd h (by decide)
theorem z_mid {α : Type} {l t r : List α} : ((l ++ t) ++ r).Perm ((l ++ r) ++ t) := by
  rw [List.append_assoc, List.append_assoc]
  exact List.perm_append_comm.append_left l
theorem z_pickU {α : Type} {l wc wr t : List α} (is js : List Nat) {n : Nat} (hn : l.length = n) (h : (is ++ js).Perm (List.range n)) (hc : is.filterMap (fun i => l[i]?) = wc) (hr : js.filterMap (fun i => l[i]?) = wr) : (l ++ t).Perm ((wc ++ t) ++ wr) :=
  ((z_pick is js hn h hc hr).append_right t).trans z_mid

theorem wsi_X2_findBrew_X2 : ∀ w ∈ wsX20, w ∈ wsX2_findBrew := fun w h => List.mem_cons_of_mem _ (List.mem_append_left _ (List.mem_append_right _ h))
set_option maxHeartbeats 4000000 in
set_option maxRecDepth 100000 in
/-- findBrew: it is begun -/
theorem c_X2_findBrew_ok (l : Launch) (G : zG) (sz : Nat) (x0 : Nat) (xb : Nat) (te : Nat) (dy : Int32) (pp : Int32) (po : Int32) (n : Nat) (hn : n ≤ 20) (bh : Nat → Option Nat) (jj : Nat) (hjn : jj < n) (hb0 : Nat) (hbj : bh jj = some hb0) : Met l yX2_findBrew wsX2_findBrew { frames := 1, cells := 0, slots := 0, locals := 21 } (zPc G [.ref x0, .int (nI jj)] [(x0, .inr (4, [.ref xb, .ref te, .int (nI n), .int dy, .int pp, .int po])), (xb, .inl (G.2.1 3, 20, .inr (.inr (.inr (.inr bh)))))] sz) (va_Sr (fun k => k = hb0) (fun k => .ref k)) 0 0 (fun _ => False) := by
  refine zOfW (Qc := fun _ => va_Sr (fun k => k = hb0) (fun k => .ref k)) (fr := fun _ _ => False) (cc := cX2_findBrew) (maxL := 3) (ret := (some (.object "Cellarscheduler$Brew"))) (by decide) rfl (Nat.le_of_ble_eq_true rfl) ?_
  intro p e s m below meth c hx hb hml hr hlocks hown hin hts A hP hK hD hE hA hS ls hl
  have hl : lv_has ls 3 [(0, .ref x0), (1, .int (nI jj))] := hl
  have hown : s.vm.findClass RX2 = some m.cls := hown
  have hP : zP G [(x0, .inr (4, [.ref xb, .ref te, .int (nI n), .int dy, .int pp, .int po])), (xb, .inl (G.2.1 3, 20, .inr (.inr (.inr (.inr bh)))))] s.heap := hP
  have hD : va_D A [(x0, .inr (4, [.ref xb, .ref te, .int (nI n), .int dy, .int pp, .int po])), (xb, .inl (G.2.1 3, 20, .inr (.inr (.inr (.inr bh)))))] := hD
  refine lv_aload_n hx hb dX2_findBrew_0 rfl (lv_at hl 0 rfl) ?_
  refine lv_iload_n hx hb dX2_findBrew_1 rfl (lv_at hl 1 rfl) ?_
  refine zCi (r := f_X2_isBegun (nI n) (nI jj)) (va_runV (As := [.int (nI jj)]) (rest := []) ⟨hx, hb, hml, hown, hts⟩ (c_X2_isBegun l G s.heap.size x0 xb te dy pp po (nI n) (nI jj)) (cwV 1 hts gX2_findBrew_X2_isBegun rfl rfl rfl (by decide +kernel) ⟨(Nat.le_of_ble_eq_true rfl), (Nat.le_of_ble_eq_true rfl)⟩) (zPreV hE hS hA hP hD hK (z_pick (n := 2) [0] [1] rfl (by decide) rfl rfl) (va_recv hK hP (ci := 4) (q0 := 0) rfl rfl)) rfl rfl hl.1 rfl (lv_room (Nat.le_of_ble_eq_true rfl)) dX2_findBrew_2 ⟨(Nat.le_of_ble_eq_true rfl), (Nat.le_of_ble_eq_true rfl)⟩).run ?_
  refine lv_if_eq (tgt := 26) hx hb dX2_findBrew_5 (by decide) (fun c_1 => absurd c_1 (z_begun hjn hn)) (fun c_1 => ?_)
  refine lv_iload_n hx hb dX2_findBrew_8 rfl (lv_at hl 1 rfl) ?_
  refine lv_aload_n hx hb dX2_findBrew_9 rfl (lv_at hl 0 rfl) ?_
  refine va_get (D := G.1) (ci := 4) (v := .ref xb) (C := RX2) (T := TX2) (N := 6) hx hb hts wsi_X2_findBrew_X2 hown hK hP 0 rfl rfl 0 (by decide) (hts (.fieldLink "Cellarscheduler" 11 "Cellarscheduler" "brews" "[LCellarscheduler$Brew;") (List.mem_of_getElem? (i := 3) (by decide +kernel))) (fun _ h9 => h9) rfl dX2_findBrew_10 ?_
  refine va_alen (v := 20) hx hb hK hP 1 3 rfl rfl rfl dX2_findBrew_13 ?_
  refine lv_icmp_ge (tgt := 26) hx hb dX2_findBrew_14 (by decide) (fun c_2 => absurd c_2 (show ¬ (20 : Int32) ≤ nI jj from nI_ge (by omega : jj < 20) (by decide))) (fun c_2 => ?_)
  refine lv_aload_n hx hb dX2_findBrew_17 rfl (lv_at hl 0 rfl) ?_
  refine va_get (D := G.1) (ci := 4) (v := .ref xb) (C := RX2) (T := TX2) (N := 6) hx hb hts wsi_X2_findBrew_X2 hown hK hP 0 rfl rfl 0 (by decide) (hts (.fieldLink "Cellarscheduler" 11 "Cellarscheduler" "brews" "[LCellarscheduler$Brew;") (List.mem_of_getElem? (i := 3) (by decide +kernel))) (fun _ h9 => h9) rfl dX2_findBrew_18 ?_
  refine lv_iload_n hx hb dX2_findBrew_21 rfl (lv_at hl 1 rfl) ?_
  refine zQald hx hb hK hP 1 rfl jj rfl (by omega) (by decide) hbj dX2_findBrew_22 ?_
  refine lv_goto (tgt := 27) hx hb dX2_findBrew_23 (by decide) ?_
  refine lv_astore_n (lv' := [(2, .ref hb0), (0, .ref x0), (1, .int (nI jj))]) hx hb dX2_findBrew_27 rfl hl (by decide) rfl (fun ls hl => ?_)
  refine lv_aload_n hx hb dX2_findBrew_28 rfl (lv_at hl 0 rfl) ?_
  refine lv_ifnonnull (tgt := 42) hx hb dX2_findBrew_29 (by decide) ?_
  refine lv_aload_n hx hb dX2_findBrew_42 rfl (lv_at hl 0 rfl) ?_
  exact zRr hx hb hr hlocks (Or.inl ⟨_, rfl⟩) rfl rfl rfl (Nat.le_of_ble_eq_true rfl) (Nat.le_of_ble_eq_true rfl) dX2_findBrew_43

set_option maxHeartbeats 4000000 in
set_option maxRecDepth 100000 in
/-- findBrew: no such brew -/
theorem c_X2_findBrew_no (l : Launch) (G : zG) (sz : Nat) (hl9 : l.stackTraces = false) (x0 : Nat) (xb : Nat) (te : Nat) (dy : Int32) (pp : Int32) (po : Int32) (ng : Int32) (bb : Int32) (hno : f_X2_isBegun ng bb = 0) : vx_Met l yX2_findBrew wsX2_findBrew { frames := 6, cells := 1, slots := 6, locals := 90 } (zPc G [.ref x0, .int bb] [(x0, .inr (4, [.ref xb, .ref te, .int ng, .int dy, .int pp, .int po]))] sz) ((fun _ _ _ _ => False)) (zX (fun E => E = "java/lang/IndexOutOfBoundsException")) 1 6 (va_A [(x0, .inr (4, [.ref xb, .ref te, .int ng, .int dy, .int pp, .int po]))] sz) := by
  refine zOfX (Qc := fun _ => (fun _ _ _ _ => False)) (fr := fun A => A) (cc := cX2_findBrew) (maxL := 3) (ret := (some (.object "Cellarscheduler$Brew"))) (by decide) rfl (Nat.le_of_ble_eq_true rfl) ?_
  intro p e s m below meth c hx hb hml hr hlocks hown hin hts A hP hK hD hE hA hS hxt ls hl
  have hl : lv_has ls 3 [(0, .ref x0), (1, .int bb)] := hl
  have hown : s.vm.findClass RX2 = some m.cls := hown
  have hP : zP G [(x0, .inr (4, [.ref xb, .ref te, .int ng, .int dy, .int pp, .int po]))] s.heap := hP
  have hD : va_D A [(x0, .inr (4, [.ref xb, .ref te, .int ng, .int dy, .int pp, .int po]))] := hD
  refine lv_aload_n hx hb dX2_findBrew_0 rfl (lv_at hl 0 rfl) ?_
  refine lv_iload_n hx hb dX2_findBrew_1 rfl (lv_at hl 1 rfl) ?_
  refine zCi (r := f_X2_isBegun ng bb) (va_runV (As := [.int bb]) (rest := []) ⟨hx, hb, hml, hown, hts⟩ (c_X2_isBegun l G s.heap.size x0 xb te dy pp po ng bb) (cwV 1 hts gX2_findBrew_X2_isBegun rfl rfl rfl (by decide +kernel) ⟨(Nat.le_of_ble_eq_true rfl), (Nat.le_of_ble_eq_true rfl)⟩) (zPreV hE hS hA hP hD hK (z_pick (n := 1) [0] [] rfl (by decide) rfl rfl) (va_recv hK hP (ci := 4) (q0 := 0) rfl rfl)) rfl rfl hl.1 rfl (lv_room (Nat.le_of_ble_eq_true rfl)) dX2_findBrew_2 ⟨(Nat.le_of_ble_eq_true rfl), (Nat.le_of_ble_eq_true rfl)⟩).run ?_
  refine lv_if_eq (tgt := 26) hx hb dX2_findBrew_5 (by decide) (fun c_1 => ?_) (fun c_1 => absurd hno c_1)
  refine lv_null hx hb dX2_findBrew_26 ?_
  refine lv_astore_nN (lv' := [(2, .null), (0, .ref x0), (1, .int bb)]) hx hb dX2_findBrew_27 rfl hl (by decide) rfl (fun ls hl => ?_)
  refine lv_aload_nN hx hb dX2_findBrew_28 rfl (lv_at hl 0 rfl) ?_
  refine lv_ifnonnullN hx hb dX2_findBrew_29 ?_
  exact zThrow (cls := "java/lang/IndexOutOfBoundsException") (L9 := vx_atS RX2 47 "java/lang/IndexOutOfBoundsException" ["java/lang/RuntimeException", "java/lang/Exception"]) 4 hx hb hl9 hown hxt hlocks (by rw [hml]; exact hl.1.symm) hE hS (by decide +kernel) (hts (.classLink "Cellarscheduler" 43 "java/lang/IndexOutOfBoundsException") (List.mem_of_getElem? (i := 1) (by decide +kernel))) (hts (.initialized "java/lang/IndexOutOfBoundsException") (List.mem_of_getElem? (i := 2) (by decide +kernel))) rfl rfl (fun w h => hts w (List.mem_cons_of_mem _ (List.mem_append_right _ h))) (by decide +kernel) (by decide +kernel) dX2_findBrew_32 dX2_findBrew_35 dX2_findBrew_36 dX2_findBrew_38 dX2_findBrew_41 (Nat.le_of_ble_eq_true rfl) (Nat.le_of_ble_eq_true rfl) (Nat.le_of_ble_eq_true rfl) (Nat.le_of_ble_eq_true rfl) rfl (Nat.le_refl _) (fun _ _ => rfl) (Nat.le_of_ble_eq_true rfl) (Nat.le_of_ble_eq_true rfl)

/-- what a Brew holds, and where it lies -/
abbrev ZB : Type := Nat × Int32 × Int32 × Int32 × Int32 × Int32 × Int32 × Int32 × Int32 × Nat × Nat
abbrev ZB.h (b : ZB) : Nat := b.1
abbrev ZB.tk (b : ZB) : Int32 := b.2.1
abbrev ZB.rp (b : ZB) : Int32 := b.2.2.1
abbrev ZB.li (b : ZB) : Int32 := b.2.2.2.1
abbrev ZB.st (b : ZB) : Int32 := b.2.2.2.2.1
abbrev ZB.me (b : ZB) : Int32 := b.2.2.2.2.2.1
abbrev ZB.la (b : ZB) : Int32 := b.2.2.2.2.2.2.1
abbrev ZB.lc (b : ZB) : Int32 := b.2.2.2.2.2.2.2.1
abbrev ZB.vo (b : ZB) : Int32 := b.2.2.2.2.2.2.2.2.1
abbrev ZB.tx (b : ZB) : Nat := b.2.2.2.2.2.2.2.2.2.1
abbrev ZB.bo (b : ZB) : Nat := b.2.2.2.2.2.2.2.2.2.2
/-- the cells of the first n Brews -/
def zOb (be : Nat → ZB) (n : Nat) : va_W := (List.range n).map (fun i => ((be i).h, .inr (2, [.int (be i).tk, .int (be i).rp, .int (be i).li, .int (be i).st, .int (be i).me, .int (be i).la, .int (be i).lc, .int (be i).vo, .ref (be i).tx, .ref (be i).bo])))
theorem z_ob (be : Nat → ZB) {n k : Nat} (h : k < n) : ∃ r, (zOb be n).Perm ([((be k).h, .inr (2, [.int (be k).tk, .int (be k).rp, .int (be k).li, .int (be k).st, .int (be k).me, .int (be k).la, .int (be k).lc, .int (be k).vo, .ref (be k).tx, .ref (be k).bo]))] ++ r) :=
  z_one (List.mem_map.mpr ⟨k, List.mem_range.mpr h, rfl⟩)
/-- the first Brew from k on, of the next d, that lies in the tank and isn't gone -/
def gIn (be : Nat → ZB) (tt : Int32) : Nat → Nat → Int32
  | 0, _ => -1
  | d + 1, k => if (be k).tk = tt then (if f_X0_isGone (be k).li = 0 then nI k else gIn be tt d (k + 1)) else gIn be tt d (k + 1)

theorem wsi_X2_brewIn_X2 : ∀ w ∈ wsX20, w ∈ wsX2_brewIn := fun w h => List.mem_cons_of_mem _ (List.mem_append_left _ (List.mem_append_right _ h))
theorem wsi_X2_brewIn_X0 : ∀ w ∈ wsX00, w ∈ wsX2_brewIn := fun w h => List.mem_cons_of_mem _ (List.mem_append_right _ h)
set_option maxHeartbeats 4000000 in
set_option maxRecDepth 100000 in
/-- brewIn: as many turns as there are brews -/
theorem c_X2_brewIn (l : Launch) (G : zG) (sz : Nat) (x0 : Nat) (xb : Nat) (te : Nat) (dy : Int32) (pp : Int32) (po : Int32) (n : Nat) (hn : n ≤ 20) (bh : Nat → Option Nat) (be : Nat → ZB) (hbe : ∀ i, i < n → bh i = some (be i).h) (tt : Int32) : Met l yX2_brewIn wsX2_brewIn { frames := 1, cells := 0, slots := 0, locals := 20 } (zPc G [.ref x0, .int tt] ([(x0, .inr (4, [.ref xb, .ref te, .int (nI n), .int dy, .int pp, .int po])), (xb, .inl (G.2.1 3, 20, .inr (.inr (.inr (.inr bh)))))] ++ zOb be n) sz) (vp_Si (fun z => z = gIn be tt n 0)) 0 0 (fun _ => False) := by
  refine zOfW (Qc := fun _ => vp_Si (fun z => z = gIn be tt n 0)) (fr := fun _ _ => False) (cc := cX2_brewIn) (maxL := 4) (ret := (some .int)) (by decide) rfl (Nat.le_of_ble_eq_true rfl) ?_
  intro p e s m below meth c hx hb hml hr hlocks hown hin hts A hP hK hD hE hA hS ls hl
  have hl : lv_has ls 4 [(0, .ref x0), (1, .int tt)] := hl
  have hown : s.vm.findClass RX2 = some m.cls := hown
  have hP : zP G ([(x0, .inr (4, [.ref xb, .ref te, .int (nI n), .int dy, .int pp, .int po])), (xb, .inl (G.2.1 3, 20, .inr (.inr (.inr (.inr bh)))))] ++ zOb be n) s.heap := hP
  have hD : va_D A ([(x0, .inr (4, [.ref xb, .ref te, .int (nI n), .int dy, .int pp, .int po])), (xb, .inl (G.2.1 3, 20, .inr (.inr (.inr (.inr bh)))))] ++ zOb be n) := hD
  refine lv_iconst (v := 0) hx hb dX2_brewIn_0 (by decide) ?_
  refine lv_istore_n (lv' := [(2, .int 0), (0, .ref x0), (1, .int tt)]) hx hb dX2_brewIn_1 rfl hl (by decide) rfl (fun ls hl => ?_)
  refine zLoop (fun kk H locs ls => H = s.heap ∧ locs = [] ∧ lv_has ls 4 [(0, .ref x0), (1, .int tt), (2, .int (nI kk))] ∧ gIn be tt n 0 = gIn be tt (n - kk) kk) 0 n (Nat.zero_le _) ?_ ?_ _ _ _ ⟨rfl, rfl, lv_sub hl [1, 2, 0] rfl, rfl⟩
  · intro kk _ hkk ih H locs ls hI
    obtain ⟨rfl, rfl, hl, hg⟩ := hI
    have hg' : gIn be tt n 0 = (if (be kk).tk = tt then (if f_X0_isGone (be kk).li = 0 then nI kk else gIn be tt (n - (kk + 1)) (kk + 1)) else gIn be tt (n - (kk + 1)) (kk + 1)) := by
      rw [hg, show n - kk = (n - (kk + 1)) + 1 by omega]
      rfl
    obtain ⟨wr, hwr⟩ := z_ob be hkk
    have hP : zP G [(x0, .inr (4, [.ref xb, .ref te, .int (nI n), .int dy, .int pp, .int po])), (xb, .inl (G.2.1 3, 20, .inr (.inr (.inr (.inr bh))))), ((be kk).h, .inr (2, [.int ((be kk).tk), .int ((be kk).rp), .int ((be kk).li), .int ((be kk).st), .int ((be kk).me), .int ((be kk).la), .int ((be kk).lc), .int ((be kk).vo), .ref ((be kk).tx), .ref ((be kk).bo)]))] s.heap := z_left (w2 := wr) (zP.perm (hwr.append_left _) hP)
    have hD : va_D A [(x0, .inr (4, [.ref xb, .ref te, .int (nI n), .int dy, .int pp, .int po])), (xb, .inl (G.2.1 3, 20, .inr (.inr (.inr (.inr bh))))), ((be kk).h, .inr (2, [.int ((be kk).tk), .int ((be kk).rp), .int ((be kk).li), .int ((be kk).st), .int ((be kk).me), .int ((be kk).la), .int ((be kk).lc), .int ((be kk).vo), .ref ((be kk).tx), .ref ((be kk).bo)]))] := z_leftD (w2 := wr) (zD.perm (hwr.append_left _) hD)
    refine lv_iload_n hx hb dX2_brewIn_2 rfl (lv_at hl 2 rfl) ?_
    refine lv_aload_n hx hb dX2_brewIn_3 rfl (lv_at hl 0 rfl) ?_
    refine va_get (D := G.1) (ci := 4) (v := .int (nI n)) (C := RX2) (T := TX2) (N := 6) hx hb hts wsi_X2_brewIn_X2 hown hK hP 0 rfl rfl 2 (by decide) (hts (.fieldLink "Cellarscheduler" 22 "Cellarscheduler" "begun" "I") (List.mem_of_getElem? (i := 1) (by decide +kernel))) (fun _ h9 => h9) rfl dX2_brewIn_4 ?_
    refine lv_icmp_ge (tgt := 53) hx hb dX2_brewIn_7 (by decide) (fun c_1 => absurd c_1 (nI_ge hkk (by omega))) (fun c_1 => ?_)
    refine lv_iload_n hx hb dX2_brewIn_10 rfl (lv_at hl 2 rfl) ?_
    refine lv_aload_n hx hb dX2_brewIn_11 rfl (lv_at hl 0 rfl) ?_
    refine va_get (D := G.1) (ci := 4) (v := .ref xb) (C := RX2) (T := TX2) (N := 6) hx hb hts wsi_X2_brewIn_X2 hown hK hP 0 rfl rfl 0 (by decide) (hts (.fieldLink "Cellarscheduler" 11 "Cellarscheduler" "brews" "[LCellarscheduler$Brew;") (List.mem_of_getElem? (i := 2) (by decide +kernel))) (fun _ h9 => h9) rfl dX2_brewIn_12 ?_
    refine va_alen (v := 20) hx hb hK hP 1 3 rfl rfl rfl dX2_brewIn_15 ?_
    refine lv_icmp_ge (tgt := 53) hx hb dX2_brewIn_16 (by decide) (fun c_2 => absurd c_2 (show ¬ (20 : Int32) ≤ nI kk from nI_ge (by omega : kk < 20) (by decide))) (fun c_2 => ?_)
    refine lv_aload_n hx hb dX2_brewIn_19 rfl (lv_at hl 0 rfl) ?_
    refine va_get (D := G.1) (ci := 4) (v := .ref xb) (C := RX2) (T := TX2) (N := 6) hx hb hts wsi_X2_brewIn_X2 hown hK hP 0 rfl rfl 0 (by decide) (hts (.fieldLink "Cellarscheduler" 11 "Cellarscheduler" "brews" "[LCellarscheduler$Brew;") (List.mem_of_getElem? (i := 2) (by decide +kernel))) (fun _ h9 => h9) rfl dX2_brewIn_20 ?_
    refine lv_iload_n hx hb dX2_brewIn_23 rfl (lv_at hl 2 rfl) ?_
    refine zQald hx hb hK hP 1 rfl kk rfl (by omega) (by decide) (hbe kk hkk) dX2_brewIn_24 ?_
    refine lv_astore_n (lv' := [(3, .ref ((be kk).h)), (0, .ref x0), (1, .int tt), (2, .int (nI kk))]) hx hb dX2_brewIn_25 rfl hl (by decide) rfl (fun ls hl => ?_)
    refine lv_aload_n hx hb dX2_brewIn_26 rfl (lv_at hl 0 rfl) ?_
    refine lv_ifnull hx hb dX2_brewIn_27 ?_
    refine lv_aload_n hx hb dX2_brewIn_30 rfl (lv_at hl 0 rfl) ?_
    refine va_getN (D := G.1) (ci := 2) (v := .int ((be kk).tk)) (C := RX0) (T := TX0) (N := 10) hx hb hts wsi_X2_brewIn_X0 hown hK hP 2 rfl rfl 0 (by decide) (hE.b 5 rfl _) (fun _ h9 => h9) rfl dX2_brewIn_31 ?_
    refine lv_iload_n hx hb dX2_brewIn_34 rfl (lv_at hl 2 rfl) ?_
    refine lv_icmp_ne (tgt := 47) hx hb dX2_brewIn_35 (by decide) (fun c_3 => ?_) (fun c_3 => ?_)
    · refine lv_iinc (v := nI (kk + 1)) (lv' := [(2, .int (nI (kk + 1))), (3, .ref ((be kk).h)), (0, .ref x0), (1, .int tt)]) hx hb dX2_brewIn_47 hl (k := 3) rfl (nI_1 kk) (by decide) rfl (fun ls hl => ?_)
      refine lv_goto (tgt := 2) hx hb dX2_brewIn_50 (by decide) ?_
      exact ih _ _ _ ⟨rfl, rfl, lv_sub hl [2, 3, 0] rfl, (by rw [hg', if_neg c_3])⟩
    · refine lv_aload_n hx hb dX2_brewIn_38 rfl (lv_at hl 0 rfl) ?_
      refine zCi (r := f_X0_isGone ((be kk).li)) (va_runVN (As := []) (rest := []) ⟨hx, hb, hml, hown, hts⟩ (c_X0_isGone l G s.heap.size ((be kk).h) ((be kk).tk) ((be kk).rp) ((be kk).li) ((be kk).st) ((be kk).me) ((be kk).la) ((be kk).lc) ((be kk).vo) ((be kk).tx) ((be kk).bo)) ⟨va_cnB 0 hts gX2_brewIn_X0_isGone_n87 rfl rfl rfl (hE.w 11 rfl) (hts (.initialized RX0) (List.mem_of_getElem? (i := 4) (by decide +kernel))) (by decide +kernel) ⟨(Nat.le_of_ble_eq_true rfl), (Nat.le_of_ble_eq_true rfl)⟩, (hts (.instanceMethod yX0_isGone) (List.mem_of_getElem? (i := 3) (by decide +kernel))), (hts (.selects RX0 yX0_isGone yX0_isGone) (List.mem_of_getElem? (i := 5) (by decide +kernel)))⟩ (zPreV hE hS hA hP hD hK (z_pick (n := 3) [2] [0, 1] rfl (by decide) rfl rfl) (va_recv hK hP (ci := 2) (q0 := 2) rfl rfl)) rfl rfl hl.1 rfl (lv_room (Nat.le_of_ble_eq_true rfl)) dX2_brewIn_39 ⟨(Nat.le_of_ble_eq_true rfl), (Nat.le_of_ble_eq_true rfl)⟩).run ?_
      refine lv_if_ne (tgt := 47) hx hb dX2_brewIn_42 (by decide) (fun c_4 => ?_) (fun c_4 => ?_)
      · refine lv_iinc (v := nI (kk + 1)) (lv' := [(2, .int (nI (kk + 1))), (3, .ref ((be kk).h)), (0, .ref x0), (1, .int tt)]) hx hb dX2_brewIn_47 hl (k := 3) rfl (nI_1 kk) (by decide) rfl (fun ls hl => ?_)
        refine lv_goto (tgt := 2) hx hb dX2_brewIn_50 (by decide) ?_
        exact ih _ _ _ ⟨rfl, rfl, lv_sub hl [2, 3, 0] rfl, (by rw [hg', if_pos c_3, if_neg c_4])⟩
      · refine lv_iload_n hx hb dX2_brewIn_45 rfl (lv_at hl 3 rfl) ?_
        exact zRi hx hb hr hlocks rfl (by rw [hg', if_pos c_3, if_pos c_4]) rfl rfl (Nat.le_of_ble_eq_true rfl) (Nat.le_of_ble_eq_true rfl) dX2_brewIn_46
  · intro H locs ls hI
    obtain ⟨rfl, rfl, hl, hg⟩ := hI
    refine lv_iload_n hx hb dX2_brewIn_2 rfl (lv_at hl 2 rfl) ?_
    refine lv_aload_n hx hb dX2_brewIn_3 rfl (lv_at hl 0 rfl) ?_
    refine va_get (D := G.1) (ci := 4) (v := .int (nI n)) (C := RX2) (T := TX2) (N := 6) hx hb hts wsi_X2_brewIn_X2 hown hK hP 0 rfl rfl 2 (by decide) (hts (.fieldLink "Cellarscheduler" 22 "Cellarscheduler" "begun" "I") (List.mem_of_getElem? (i := 1) (by decide +kernel))) (fun _ h9 => h9) rfl dX2_brewIn_4 ?_
    refine lv_icmp_ge (tgt := 53) hx hb dX2_brewIn_7 (by decide) (fun c_5 => ?_) (fun c_5 => absurd (nI_le (Nat.le_refl _) (by omega)) c_5)
    refine lv_iconst (v := (-1)) hx hb dX2_brewIn_53 (by decide) ?_
    exact zRi hx hb hr hlocks rfl (by rw [hg, Nat.sub_self]; rfl) rfl rfl (Nat.le_of_ble_eq_true rfl) (Nat.le_of_ble_eq_true rfl) dX2_brewIn_54
