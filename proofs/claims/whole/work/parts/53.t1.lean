theorem wsi_J0_coder_7d493_J0 : ∀ w ∈ wsJ00, w ∈ wsJ0_coder_7d493 := fun w h => List.mem_cons_of_mem _ (List.mem_append_right _ h)
set_option maxHeartbeats 4000000 in
set_option maxRecDepth 100000 in
/-- String.coder() -/
theorem c_J0_coder_W (l : Launch) (G : zG) (sz : Nat) (so : Nat) (sv : Nat) : Met l yJ0_coder_7d493 wsJ0_coder_7d493 { frames := 0, cells := 0, slots := 0, locals := 0 } (zPc G [.ref so] [(so, .inr (0, [.ref sv, .int 0, .int 0, .int 0]))] sz) (vp_Si (fun z => z = 0)) 0 0 (fun _ => False) := by
  refine zOfW (Qc := fun _ => vp_Si (fun z => z = 0)) (fr := fun _ _ => False) (cc := cJ0_coder_7d493) (maxL := 1) (ret := (some .byte)) (by decide) rfl (Nat.le_of_ble_eq_true rfl) ?_
  intro p e s m below meth c hx hb hml hr hlocks hown hin hts A hP hK hD hE hA hS ls hl
  have hl : lv_has ls 1 [(0, .ref so)] := hl
  have hown : s.vm.findClass RJ0 = some m.cls := hown
  have hP : zP G [(so, .inr (0, [.ref sv, .int 0, .int 0, .int 0]))] s.heap := hP
  have hD : va_D A [(so, .inr (0, [.ref sv, .int 0, .int 0, .int 0]))] := hD
  refine va_gets (v := .int 1) hx hb hE.2.2.2.2.2.2.2.2.1 hS hown (hts (.fieldLink "java/lang/String" 38 "java/lang/String" "COMPACT_STRINGS" "Z") (List.mem_of_getElem? (i := 1) (by decide +kernel))) (fun _ h9 => h9) dJ0_coder_7d493_0 ?_
  refine lv_if_eq (tgt := 13) hx hb dJ0_coder_7d493_3 (by decide) (fun c_1 => absurd c_1 (by decide)) (fun c_1 => ?_)
  refine lv_aload_n hx hb dJ0_coder_7d493_6 rfl (lv_at hl 0 rfl) ?_
  refine va_get (D := G.1) (ci := 0) (v := .int 0) (C := RJ0) (T := TJ0) (N := 4) hx hb hts wsi_J0_coder_7d493_J0 hown hK hP 0 rfl rfl 1 (by decide) (hts (.fieldLink "java/lang/String" 15 "java/lang/String" "coder" "B") (List.mem_of_getElem? (i := 2) (by decide +kernel))) (fun _ h9 => h9) rfl dJ0_coder_7d493_7 ?_
  refine lv_goto (tgt := 14) hx hb dJ0_coder_7d493_10 (by decide) ?_
  exact zRi hx hb hr hlocks rfl rfl rfl rfl (Nat.le_of_ble_eq_true rfl) (Nat.le_of_ble_eq_true rfl) dJ0_coder_7d493_14

theorem wsi_J0_length_8abf5_J0 : ∀ w ∈ wsJ00, w ∈ wsJ0_length_8abf5 := fun w h => List.mem_cons_of_mem _ (List.mem_append_right _ h)
set_option maxHeartbeats 4000000 in
set_option maxRecDepth 100000 in
/-- String.length() -/
theorem c_J0_length_W (l : Launch) (G : zG) (sz : Nat) (so : Nat) (sv : Nat) (sn : Nat) (sf : Nat → Int32) : Met l yJ0_length_8abf5 wsJ0_length_8abf5 { frames := 1, cells := 0, slots := 0, locals := 20 } (zPc G [.ref so] [(so, .inr (0, [.ref sv, .int 0, .int 0, .int 0])), (sv, .inl (G.2.1 1, sn, .inl sf))] sz) (vp_Si (fun z => z = nI sn)) 0 0 (fun _ => False) := by
  refine zOfW (Qc := fun _ => vp_Si (fun z => z = nI sn)) (fr := fun _ _ => False) (cc := cJ0_length_8abf5) (maxL := 1) (ret := (some .int)) (by decide) rfl (Nat.le_of_ble_eq_true rfl) ?_
  intro p e s m below meth c hx hb hml hr hlocks hown hin hts A hP hK hD hE hA hS ls hl
  have hl : lv_has ls 1 [(0, .ref so)] := hl
  have hown : s.vm.findClass RJ0 = some m.cls := hown
  have hP : zP G [(so, .inr (0, [.ref sv, .int 0, .int 0, .int 0])), (sv, .inl (G.2.1 1, sn, .inl sf))] s.heap := hP
  have hD : va_D A [(so, .inr (0, [.ref sv, .int 0, .int 0, .int 0])), (sv, .inl (G.2.1 1, sn, .inl sf))] := hD
  refine lv_aload_n hx hb dJ0_length_8abf5_0 rfl (lv_at hl 0 rfl) ?_
  refine va_get (D := G.1) (ci := 0) (v := .ref sv) (C := RJ0) (T := TJ0) (N := 4) hx hb hts wsi_J0_length_8abf5_J0 hown hK hP 0 rfl rfl 0 (by decide) (hts (.fieldLink "java/lang/String" 9 "java/lang/String" "value" "[B") (List.mem_of_getElem? (i := 1) (by decide +kernel))) (fun _ h9 => h9) rfl dJ0_length_8abf5_1 ?_
  refine va_alen (v := nI sn) hx hb hK hP 1 1 rfl rfl rfl dJ0_length_8abf5_4 ?_
  refine lv_aload_n hx hb dJ0_length_8abf5_5 rfl (lv_at hl 0 rfl) ?_
  refine zCi (r := 0) (va_runV (As := []) (rest := [.int (nI sn)]) ⟨hx, hb, hml, hown, hts⟩ (c_J0_coder_W l G s.heap.size so sv) (cwV 0 hts gJ0_length_8abf5_J0_coder_7d493 rfl rfl rfl (by decide +kernel) ⟨(Nat.le_of_ble_eq_true rfl), (Nat.le_of_ble_eq_true rfl)⟩) (zPreV hE hS hA hP hD hK (z_pick (n := 2) [0] [1] rfl (by decide) rfl rfl) (va_recv hK hP (ci := 0) (q0 := 0) rfl rfl)) rfl rfl hl.1 rfl (lv_room (Nat.le_of_ble_eq_true rfl)) dJ0_length_8abf5_6 ⟨(Nat.le_of_ble_eq_true rfl), (Nat.le_of_ble_eq_true rfl)⟩).run ?_
  refine lv_ishr hx hb dJ0_length_8abf5_9 ?_
  refine zTop (v := nI sn) (z_shr0 _) ?_
  exact zRi hx hb hr hlocks rfl rfl rfl rfl (Nat.le_of_ble_eq_true rfl) (Nat.le_of_ble_eq_true rfl) dJ0_length_8abf5_10

theorem wsi_J0_isLatin1_aae02_J0 : ∀ w ∈ wsJ00, w ∈ wsJ0_isLatin1_aae02 := fun w h => List.mem_cons_of_mem _ (List.mem_append_right _ h)
set_option maxHeartbeats 4000000 in
set_option maxRecDepth 100000 in
/-- String.isLatin1() -/
theorem c_J0_isLatin1_W (l : Launch) (G : zG) (sz : Nat) (so : Nat) (sv : Nat) : Met l yJ0_isLatin1_aae02 wsJ0_isLatin1_aae02 { frames := 0, cells := 0, slots := 0, locals := 0 } (zPc G [.ref so] [(so, .inr (0, [.ref sv, .int 0, .int 0, .int 0]))] sz) (vp_Si (fun z => z = 1)) 0 0 (fun _ => False) := by
  refine zOfW (Qc := fun _ => vp_Si (fun z => z = 1)) (fr := fun _ _ => False) (cc := cJ0_isLatin1_aae02) (maxL := 1) (ret := (some .boolean)) (by decide) rfl (Nat.le_of_ble_eq_true rfl) ?_
  intro p e s m below meth c hx hb hml hr hlocks hown hin hts A hP hK hD hE hA hS ls hl
  have hl : lv_has ls 1 [(0, .ref so)] := hl
  have hown : s.vm.findClass RJ0 = some m.cls := hown
  have hP : zP G [(so, .inr (0, [.ref sv, .int 0, .int 0, .int 0]))] s.heap := hP
  have hD : va_D A [(so, .inr (0, [.ref sv, .int 0, .int 0, .int 0]))] := hD
  refine va_gets (v := .int 1) hx hb hE.2.2.2.2.2.2.2.2.1 hS hown (hts (.fieldLink "java/lang/String" 38 "java/lang/String" "COMPACT_STRINGS" "Z") (List.mem_of_getElem? (i := 1) (by decide +kernel))) (fun _ h9 => h9) dJ0_isLatin1_aae02_0 ?_
  refine lv_if_eq (tgt := 17) hx hb dJ0_isLatin1_aae02_3 (by decide) (fun c_1 => absurd c_1 (by decide)) (fun c_1 => ?_)
  refine lv_aload_n hx hb dJ0_isLatin1_aae02_6 rfl (lv_at hl 0 rfl) ?_
  refine va_get (D := G.1) (ci := 0) (v := .int 0) (C := RJ0) (T := TJ0) (N := 4) hx hb hts wsi_J0_isLatin1_aae02_J0 hown hK hP 0 rfl rfl 1 (by decide) (hts (.fieldLink "java/lang/String" 15 "java/lang/String" "coder" "B") (List.mem_of_getElem? (i := 2) (by decide +kernel))) (fun _ h9 => h9) rfl dJ0_isLatin1_aae02_7 ?_
  refine lv_if_ne (tgt := 17) hx hb dJ0_isLatin1_aae02_10 (by decide) (fun c_2 => absurd (by decide) c_2) (fun c_2 => ?_)
  refine lv_iconst (v := 1) hx hb dJ0_isLatin1_aae02_13 (by decide) ?_
  refine lv_goto (tgt := 18) hx hb dJ0_isLatin1_aae02_14 (by decide) ?_
  exact zRi hx hb hr hlocks rfl rfl rfl rfl (Nat.le_of_ble_eq_true rfl) (Nat.le_of_ble_eq_true rfl) dJ0_isLatin1_aae02_18

set_option maxHeartbeats 4000000 in
set_option maxRecDepth 100000 in
/-- checkIndex -/
theorem c_J3_check_n (l : Launch) (G : zG) (sz : Nat) (ix : Int32) (hx0 : ¬ ix < 0) (ln : Int32) (hx1 : ix < ln) : Met l yJ3_checkIndex_8e157 wsJ3_checkIndex_8e157 { frames := 0, cells := 0, slots := 0, locals := 0 } (zPc G [.int ix, .int ln, .null] [] sz) (vp_Si (fun z => z = ix)) 0 0 (fun _ => False) := by
  refine zOfW (Qc := fun _ => vp_Si (fun z => z = ix)) (fr := fun _ _ => False) (cc := cJ3_checkIndex_8e157) (maxL := 3) (ret := (some .int)) (by decide) rfl (Nat.le_of_ble_eq_true rfl) ?_
  intro p e s m below meth c hx hb hml hr hlocks hown hin hts A hP hK hD hE hA hS ls hl
  have hl : lv_has ls 3 [(0, .int ix), (1, .int ln), (2, .null)] := hl
  have hown : s.vm.findClass RJ3 = some m.cls := hown
  refine lv_iload_n hx hb dJ3_checkIndex_8e157_0 rfl (lv_at hl 0 rfl) ?_
  refine lv_if_lt (tgt := 9) hx hb dJ3_checkIndex_8e157_1 (by decide) (fun c_1 => absurd c_1 hx0) (fun c_1 => ?_)
  refine lv_iload_n hx hb dJ3_checkIndex_8e157_4 rfl (lv_at hl 0 rfl) ?_
  refine lv_iload_n hx hb dJ3_checkIndex_8e157_5 rfl (lv_at hl 1 rfl) ?_
  refine lv_icmp_lt (tgt := 16) hx hb dJ3_checkIndex_8e157_6 (by decide) (fun c_2 => ?_) (fun c_2 => absurd hx1 c_2)
  refine lv_iload_n hx hb dJ3_checkIndex_8e157_16 rfl (lv_at hl 0 rfl) ?_
  exact zRi hx hb hr hlocks rfl rfl rfl rfl (Nat.le_of_ble_eq_true rfl) (Nat.le_of_ble_eq_true rfl) dJ3_checkIndex_8e157_17

set_option maxHeartbeats 4000000 in
set_option maxRecDepth 100000 in
/-- checkIndex -/
theorem c_J3_check_r (l : Launch) (G : zG) (sz : Nat) (ix : Int32) (hx0 : ¬ ix < 0) (ln : Int32) (hx1 : ix < ln) (fq : Nat) : Met l yJ3_checkIndex_8e157 wsJ3_checkIndex_8e157 { frames := 0, cells := 0, slots := 0, locals := 0 } (zPc G [.int ix, .int ln, .ref fq] [] sz) (vp_Si (fun z => z = ix)) 0 0 (fun _ => False) := by
  refine zOfW (Qc := fun _ => vp_Si (fun z => z = ix)) (fr := fun _ _ => False) (cc := cJ3_checkIndex_8e157) (maxL := 3) (ret := (some .int)) (by decide) rfl (Nat.le_of_ble_eq_true rfl) ?_
  intro p e s m below meth c hx hb hml hr hlocks hown hin hts A hP hK hD hE hA hS ls hl
  have hl : lv_has ls 3 [(0, .int ix), (1, .int ln), (2, .ref fq)] := hl
  have hown : s.vm.findClass RJ3 = some m.cls := hown
  refine lv_iload_n hx hb dJ3_checkIndex_8e157_0 rfl (lv_at hl 0 rfl) ?_
  refine lv_if_lt (tgt := 9) hx hb dJ3_checkIndex_8e157_1 (by decide) (fun c_1 => absurd c_1 hx0) (fun c_1 => ?_)
  refine lv_iload_n hx hb dJ3_checkIndex_8e157_4 rfl (lv_at hl 0 rfl) ?_
  refine lv_iload_n hx hb dJ3_checkIndex_8e157_5 rfl (lv_at hl 1 rfl) ?_
  refine lv_icmp_lt (tgt := 16) hx hb dJ3_checkIndex_8e157_6 (by decide) (fun c_2 => ?_) (fun c_2 => absurd hx1 c_2)
  refine lv_iload_n hx hb dJ3_checkIndex_8e157_16 rfl (lv_at hl 0 rfl) ?_
  exact zRi hx hb hr hlocks rfl rfl rfl rfl (Nat.le_of_ble_eq_true rfl) (Nat.le_of_ble_eq_true rfl) dJ3_checkIndex_8e157_17

set_option maxHeartbeats 4000000 in
set_option maxRecDepth 100000 in
/-- String.checkIndex -/
theorem c_J0_check (l : Launch) (G : zG) (sz : Nat) (ix : Int32) (hx0 : ¬ ix < 0) (ln : Int32) (hx1 : ix < ln) : Met l yJ0_checkIndex_df160 wsJ0_checkIndex_df160 { frames := 1, cells := 0, slots := 0, locals := 22 } (zPc G [.int ix, .int ln] [] sz) (va_Sv (fun _ => True)) 0 0 (fun _ => False) := by
  refine zOfW (Qc := fun _ => va_Sv (fun _ => True)) (fr := fun _ _ => False) (cc := cJ0_checkIndex_df160) (maxL := 2) (ret := none) (by decide) rfl (Nat.le_of_ble_eq_true rfl) ?_
  intro p e s m below meth c hx hb hml hr hlocks hown hin hts A hP hK hD hE hA hS ls hl
  have hl : lv_has ls 2 [(0, .int ix), (1, .int ln)] := hl
  have hown : s.vm.findClass RJ0 = some m.cls := hown
  refine lv_iload_n hx hb dJ0_checkIndex_df160_0 rfl (lv_at hl 0 rfl) ?_
  refine lv_iload_n hx hb dJ0_checkIndex_df160_1 rfl (lv_at hl 1 rfl) ?_
  rcases hE.2.2.2.2.2.2.2.2.2.1 with hfq_1 | ⟨fq_1, hfq_1⟩
  · refine va_gets (v := .null) hx hb hfq_1 hS hown (hts (.fieldLink "java/lang/String" 1053 "jdk/internal/util/Preconditions" "SIOOBE_FORMATTER" "Ljava/util/function/BiFunction;") (List.mem_of_getElem? (i := 1) (by decide +kernel))) (fun _ h9 => h9) dJ0_checkIndex_df160_2 ?_
    refine zCi (r := ix) (va_runS (As := [.int ix, .int ln, .null]) (rest := []) ⟨hx, hb, hml, hown, hts⟩ (c_J3_check_n l G s.heap.size ix (by assumption) ln (by assumption)) (va_cwS 3 hts gJ0_checkIndex_df160_J3_checkIndex_8e157 rfl rfl rfl (by decide +kernel) ⟨(Nat.le_of_ble_eq_true rfl), (Nat.le_of_ble_eq_true rfl)⟩) (zPreS hE hS hA hP hD hK (z_pick (n := 0) [] [] rfl (by decide) rfl rfl)) rfl rfl hl.1 rfl (lv_room (Nat.le_of_ble_eq_true rfl)) dJ0_checkIndex_df160_5 ⟨(Nat.le_of_ble_eq_true rfl), (Nat.le_of_ble_eq_true rfl)⟩).run ?_
    refine lv_pop hx hb dJ0_checkIndex_df160_8 rfl ?_
    exact zRv hx hb hr hlocks rfl rfl (Nat.le_of_ble_eq_true rfl) (Nat.le_of_ble_eq_true rfl) dJ0_checkIndex_df160_9
  · refine va_gets (v := .ref fq_1) hx hb hfq_1 hS hown (hts (.fieldLink "java/lang/String" 1053 "jdk/internal/util/Preconditions" "SIOOBE_FORMATTER" "Ljava/util/function/BiFunction;") (List.mem_of_getElem? (i := 1) (by decide +kernel))) (fun _ h9 => h9) dJ0_checkIndex_df160_2 ?_
    refine zCi (r := ix) (va_runS (As := [.int ix, .int ln, .ref fq_1]) (rest := []) ⟨hx, hb, hml, hown, hts⟩ (c_J3_check_r l G s.heap.size ix (by assumption) ln (by assumption) fq_1) (va_cwS 3 hts gJ0_checkIndex_df160_J3_checkIndex_8e157 rfl rfl rfl (by decide +kernel) ⟨(Nat.le_of_ble_eq_true rfl), (Nat.le_of_ble_eq_true rfl)⟩) (zPreS hE hS hA hP hD hK (z_pick (n := 0) [] [] rfl (by decide) rfl rfl)) rfl rfl hl.1 rfl (lv_room (Nat.le_of_ble_eq_true rfl)) dJ0_checkIndex_df160_5 ⟨(Nat.le_of_ble_eq_true rfl), (Nat.le_of_ble_eq_true rfl)⟩).run ?_
    refine lv_pop hx hb dJ0_checkIndex_df160_8 rfl ?_
    exact zRv hx hb hr hlocks rfl rfl (Nat.le_of_ble_eq_true rfl) (Nat.le_of_ble_eq_true rfl) dJ0_checkIndex_df160_9

def f_J1_charAt (ix : Int32) (sf : Nat → Int32) : Int32 := (((sf ix.toNatClampNeg) &&& 255).toUInt32 % 65536).toInt32
set_option maxHeartbeats 4000000 in
set_option maxRecDepth 100000 in
/-- StringLatin1.charAt -/
theorem c_J1_charAt (l : Launch) (G : zG) (sz : Nat) (ix : Int32) (hx0 : ¬ ix < 0) (sv : Nat) (sn : Nat) (sf : Nat → Int32) (hx1 : ix < nI sn) (hsn : sn < 2 ^ 31) : Met l yJ1_charAt_3b067 wsJ1_charAt_3b067 { frames := 2, cells := 0, slots := 0, locals := 43 } (zPc G [.ref sv, .int ix] [(sv, .inl (G.2.1 1, sn, .inl sf))] sz) (vp_Si (fun z => z = f_J1_charAt ix sf)) 0 0 (fun _ => False) := by
  refine zOfW (Qc := fun _ => vp_Si (fun z => z = f_J1_charAt ix sf)) (fr := fun _ _ => False) (cc := cJ1_charAt_3b067) (maxL := 2) (ret := (some .char)) (by decide) rfl (Nat.le_of_ble_eq_true rfl) ?_
  intro p e s m below meth c hx hb hml hr hlocks hown hin hts A hP hK hD hE hA hS ls hl
  have hl : lv_has ls 2 [(0, .ref sv), (1, .int ix)] := hl
  have hown : s.vm.findClass RJ1 = some m.cls := hown
  have hP : zP G [(sv, .inl (G.2.1 1, sn, .inl sf))] s.heap := hP
  have hD : va_D A [(sv, .inl (G.2.1 1, sn, .inl sf))] := hD
  refine lv_iload_n hx hb dJ1_charAt_3b067_0 rfl (lv_at hl 1 rfl) ?_
  refine lv_aload_n hx hb dJ1_charAt_3b067_1 rfl (lv_at hl 0 rfl) ?_
  refine va_alen (v := nI sn) hx hb hK hP 0 1 rfl rfl rfl dJ1_charAt_3b067_2 ?_
  refine zCv (va_runS (As := [.int ix, .int (nI sn)]) (rest := []) ⟨hx, hb, hml, hown, hts⟩ (c_J0_check l G s.heap.size ix (by assumption) (nI sn) (by assumption)) (va_cwS 2 hts gJ1_charAt_3b067_J0_checkIndex_df160 rfl rfl rfl (by decide +kernel) ⟨(Nat.le_of_ble_eq_true rfl), (Nat.le_of_ble_eq_true rfl)⟩) (zPreS hE hS hA hP hD hK (z_pick (n := 1) [] [0] rfl (by decide) rfl rfl)) rfl rfl hl.1 rfl (lv_room (Nat.le_of_ble_eq_true rfl)) dJ1_charAt_3b067_3 ⟨(Nat.le_of_ble_eq_true rfl), (Nat.le_of_ble_eq_true rfl)⟩).run ?_
  refine lv_aload_n hx hb dJ1_charAt_3b067_6 rfl (lv_at hl 0 rfl) ?_
  refine lv_iload_n hx hb dJ1_charAt_3b067_7 rfl (lv_at hl 1 rfl) ?_
  refine va_bald hx hb hK hP 0 1 rfl rfl (z_in hsn rfl hx0 hx1) dJ1_charAt_3b067_8 ?_
  refine lv_sipush (v := 255) hx hb dJ1_charAt_3b067_9 (by decide) ?_
  refine lv_iand hx hb dJ1_charAt_3b067_12 ?_
  refine lv_i2c (v := (((sf ix.toNatClampNeg) &&& 255).toUInt32 % 65536).toInt32) hx hb dJ1_charAt_3b067_13 rfl ?_
  exact zRi hx hb hr hlocks (pk_nc _) (by rw [f_J1_charAt]) rfl rfl (Nat.le_of_ble_eq_true rfl) (Nat.le_of_ble_eq_true rfl) dJ1_charAt_3b067_14

theorem wsi_J0_charAt_5068e_J0 : ∀ w ∈ wsJ00, w ∈ wsJ0_charAt_5068e := fun w h => List.mem_cons_of_mem _ (List.mem_append_right _ h)
set_option maxHeartbeats 4000000 in
set_option maxRecDepth 100000 in
/-- String.charAt -/
theorem c_J0_charAt (l : Launch) (G : zG) (sz : Nat) (ix : Int32) (hx0 : ¬ ix < 0) (so : Nat) (sv : Nat) (sn : Nat) (sf : Nat → Int32) (hx1 : ix < nI sn) (hsn : sn < 2 ^ 31) : Met l yJ0_charAt_5068e wsJ0_charAt_5068e { frames := 3, cells := 0, slots := 0, locals := 64 } (zPc G [.ref so, .int ix] [(so, .inr (0, [.ref sv, .int 0, .int 0, .int 0])), (sv, .inl (G.2.1 1, sn, .inl sf))] sz) (vp_Si (fun z => z = f_J1_charAt ix sf)) 0 0 (fun _ => False) := by
  refine zOfW (Qc := fun _ => vp_Si (fun z => z = f_J1_charAt ix sf)) (fr := fun _ _ => False) (cc := cJ0_charAt_5068e) (maxL := 2) (ret := (some .char)) (by decide) rfl (Nat.le_of_ble_eq_true rfl) ?_
  intro p e s m below meth c hx hb hml hr hlocks hown hin hts A hP hK hD hE hA hS ls hl
  have hl : lv_has ls 2 [(0, .ref so), (1, .int ix)] := hl
  have hown : s.vm.findClass RJ0 = some m.cls := hown
  have hP : zP G [(so, .inr (0, [.ref sv, .int 0, .int 0, .int 0])), (sv, .inl (G.2.1 1, sn, .inl sf))] s.heap := hP
  have hD : va_D A [(so, .inr (0, [.ref sv, .int 0, .int 0, .int 0])), (sv, .inl (G.2.1 1, sn, .inl sf))] := hD
  refine lv_aload_n hx hb dJ0_charAt_5068e_0 rfl (lv_at hl 0 rfl) ?_
  refine zCi (r := 1) (va_runV (As := []) (rest := []) ⟨hx, hb, hml, hown, hts⟩ (c_J0_isLatin1_W l G s.heap.size so sv) (cwV 0 hts gJ0_charAt_5068e_J0_isLatin1_aae02 rfl rfl rfl (by decide +kernel) ⟨(Nat.le_of_ble_eq_true rfl), (Nat.le_of_ble_eq_true rfl)⟩) (zPreV hE hS hA hP hD hK (z_pick (n := 2) [0] [1] rfl (by decide) rfl rfl) (va_recv hK hP (ci := 0) (q0 := 0) rfl rfl)) rfl rfl hl.1 rfl (lv_room (Nat.le_of_ble_eq_true rfl)) dJ0_charAt_5068e_1 ⟨(Nat.le_of_ble_eq_true rfl), (Nat.le_of_ble_eq_true rfl)⟩).run ?_
  refine lv_if_eq (tgt := 16) hx hb dJ0_charAt_5068e_4 (by decide) (fun c_1 => absurd c_1 (by decide)) (fun c_1 => ?_)
  refine lv_aload_n hx hb dJ0_charAt_5068e_7 rfl (lv_at hl 0 rfl) ?_
  refine va_get (D := G.1) (ci := 0) (v := .ref sv) (C := RJ0) (T := TJ0) (N := 4) hx hb hts wsi_J0_charAt_5068e_J0 hown hK hP 0 rfl rfl 0 (by decide) (hts (.fieldLink "java/lang/String" 9 "java/lang/String" "value" "[B") (List.mem_of_getElem? (i := 1) (by decide +kernel))) (fun _ h9 => h9) rfl dJ0_charAt_5068e_8 ?_
  refine lv_iload_n hx hb dJ0_charAt_5068e_11 rfl (lv_at hl 1 rfl) ?_
  refine zCi (r := f_J1_charAt ix sf) (va_runS (As := [.ref sv, .int ix]) (rest := []) ⟨hx, hb, hml, hown, hts⟩ (c_J1_charAt l G s.heap.size ix (by assumption) sv sn sf (by assumption) (by assumption)) (va_cwS 2 hts gJ0_charAt_5068e_J1_charAt_3b067 rfl rfl rfl (by decide +kernel) ⟨(Nat.le_of_ble_eq_true rfl), (Nat.le_of_ble_eq_true rfl)⟩) (zPreS hE hS hA hP hD hK (z_pick (n := 2) [1] [0] rfl (by decide) rfl rfl)) rfl rfl hl.1 rfl (lv_room (Nat.le_of_ble_eq_true rfl)) dJ0_charAt_5068e_12 ⟨(Nat.le_of_ble_eq_true rfl), (Nat.le_of_ble_eq_true rfl)⟩).run ?_
  exact zRi hx hb hr hlocks (pk_nc _) rfl rfl rfl (Nat.le_of_ble_eq_true rfl) (Nat.le_of_ble_eq_true rfl) dJ0_charAt_5068e_15

theorem zA_cls {sg : Nat} (h : sg ≤ 50) : f_X2_classOf (nI sg) < 2 := by
  have key : ∀ sg, sg ≤ 50 → f_X2_classOf (nI sg) < 2 := by decide
  exact key sg h
theorem zB_cls {sg : Nat} (h : 50 < sg) (h2 : sg ≤ 250) : ¬ f_X2_classOf (nI sg) < 2 := by
  have key : ∀ sg, sg ≤ 250 → 50 < sg → ¬ f_X2_classOf (nI sg) < 2 := by decide +kernel
  exact key sg h2 h

theorem wsi_X2_textOfLabel_J4 : ∀ w ∈ wsJ40, w ∈ wsX2_textOfLabel := fun w h => List.mem_cons_of_mem _ (List.mem_append_left _ (List.mem_append_right _ h))
def f_X2_textOfLabel_A_sf (sg : Nat) (vv : Nat) : Nat → Int32 := va_cpy (upd (va_cpy (zL 3) (va_cpy (upd (upd (upd (va_cpy (zL 2) (fun _ => 0) 0 0 4) 4 (zd1 (sg / 10))) 5 46) 6 (zd1 (sg % 10))) (fun _ => 0) 0 0 16) 0 7 10) 17 (zd1 vv)) (fun _ => 0) 0 0 18
set_option maxHeartbeats 4000000 in
set_option maxRecDepth 100000 in
/-- textOfLabel: A -/
theorem c_X2_textOfLabel_A (l : Launch) (G : zG) (sz : Nat) (sg : Nat) (vv : Nat) (hvv : vv < 8) (hs : sg ≤ 50) : Met l yX2_textOfLabel wsX2_textOfLabel { frames := 20, cells := 5, slots := 100, locals := 400 } (zPc G [.int (nI sg), .int (nI vv)] [] sz) (zQr G (fun (u : Nat × Nat × (Nat → Int32)) => u.2.2 = f_X2_textOfLabel_A_sf sg vv) (fun u => [(u.1, .inr (0, [.ref u.2.1, .int 0, .int 0, .int 0])), (u.2.1, .inl (G.2.1 1, 18, .inl u.2.2))]) (fun u => u.1) (va_A [] sz)) 5 100 (va_A [] sz) := by
  refine zOfW (Qc := fun A => zQr G (fun (u : Nat × Nat × (Nat → Int32)) => u.2.2 = f_X2_textOfLabel_A_sf sg vv) (fun u => [(u.1, .inr (0, [.ref u.2.1, .int 0, .int 0, .int 0])), (u.2.1, .inl (G.2.1 1, 18, .inl u.2.2))]) (fun u => u.1) A) (fr := fun A => A) (cc := cX2_textOfLabel) (maxL := 3) (ret := (some (.object "java/lang/String"))) (by decide) rfl (Nat.le_of_ble_eq_true rfl) ?_
  intro p e s m below meth c hx hb hml hr hlocks hown hin hts A hP hK hD hE hA hS ls hl
  have hl : lv_has ls 3 [(0, .int (nI sg)), (1, .int (nI vv))] := hl
  have hown : s.vm.findClass RX2 = some m.cls := hown
  refine va_new (D := G.1) (ci := 1) (fs := [.null, .int 0, .int 0, .int 0]) (C := RJ4) (T := TJ4) (N := 4) hx hb hts wsi_X2_textOfLabel_J4 tyJ4 tyJ4_ok hown (hts (.classLink "Cellarscheduler" 201 "java/lang/StringBuilder") (List.mem_of_getElem? (i := 1) (by decide +kernel))) (hts (.instantiable RJ4 4) (List.mem_of_getElem? (i := 2) (by decide +kernel))) (hts (.initialized RJ4) (List.mem_of_getElem? (i := 3) (by decide +kernel))) hK hP hD hS hA rfl (fun j hj => by rcases (show j = 0 ∨ j = 1 ∨ j = 2 ∨ j = 3 by omega) with rfl | rfl | rfl | rfl <;> rfl) (Nat.le_of_ble_eq_true rfl) (Nat.le_of_ble_eq_true rfl) dX2_textOfLabel_0 (fun q_1 H hP hD hS => ?_)
  have hP : zP G [(q_1, .inr (1, [.null, .int 0, .int 0, .int 0]))] H := hP
  have hD : va_D A [(q_1, .inr (1, [.null, .int 0, .int 0, .int 0]))] := hD
  refine lv_dup hx hb dX2_textOfLabel_3 rfl ?_
  refine zDv (wr := []) (va_runI (As := []) (rest := [.ref q_1]) ⟨hx, hb, hml, hown, hts⟩ (c_J4_init l G H.size q_1) (cwI 0 hts gX2_textOfLabel_J4_init_da8c8 rfl rfl rfl (hts (.initialized RJ4) (List.mem_of_getElem? (i := 3) (by decide +kernel))) (hts (.methodLink "Cellarscheduler" 203 ⟨"java/lang/StringBuilder","<init>","()V"⟩) (List.mem_of_getElem? (i := 4) (by decide +kernel))) (hts (.instanceMethod yJ4_init_da8c8) (List.mem_of_getElem? (i := 5) (by decide +kernel))) rfl (by decide +kernel) ⟨(Nat.le_of_ble_eq_true rfl), (Nat.le_of_ble_eq_true rfl)⟩) (zPreS (As := [.ref q_1]) hE hS hA hP hD hK (z_pick (n := 1) [0] [] rfl (by decide) rfl rfl)) rfl rfl hl.1 rfl (lv_room (Nat.le_of_ble_eq_true rfl)) dX2_textOfLabel_4 ⟨(Nat.le_of_ble_eq_true rfl), (Nat.le_of_ble_eq_true rfl)⟩) hP hD hS hA (z_pick (n := 1) [0] [] rfl (by decide) rfl rfl) (fun u_2 H locs hp_3 hP hD hS => ?_)
  obtain ⟨va_0, rfl⟩ : ∃ z, z = u_2 := ⟨_, rfl⟩
  have hP : zP G [(q_1, .inr (1, [.ref va_0, .int 0, .int 0, .int 0])), (va_0, .inl (G.2.1 1, 16, .inl (fun _ => 0)))] H := hP
  have hD : va_D A [(q_1, .inr (1, [.ref va_0, .int 0, .int 0, .int 0])), (va_0, .inl (G.2.1 1, 16, .inl (fun _ => 0)))] := hD
  refine lv_astore_n (lv' := [(2, .ref q_1), (0, .int (nI sg)), (1, .int (nI vv))]) hx hb dX2_textOfLabel_7 rfl hl (by decide) rfl (fun ls hl => ?_)
  refine lv_aload_n hx hb dX2_textOfLabel_8 rfl (lv_at hl 0 rfl) ?_
  refine lv_iload_n hx hb dX2_textOfLabel_9 rfl (lv_at hl 1 rfl) ?_
  refine zCi (r := f_X2_classOf (nI sg)) (va_runS (As := [.int (nI sg)]) (rest := [.ref q_1]) ⟨hx, hb, hml, hown, hts⟩ (c_X2_classOf l G H.size (nI sg)) (va_cwS 1 hts gX2_textOfLabel_X2_classOf rfl rfl rfl (by decide +kernel) ⟨(Nat.le_of_ble_eq_true rfl), (Nat.le_of_ble_eq_true rfl)⟩) (zPreS hE hS hA hP hD hK (z_pick (n := 2) [] [0, 1] rfl (by decide) rfl rfl)) rfl rfl hl.1 rfl (lv_room (Nat.le_of_ble_eq_true rfl)) dX2_textOfLabel_10 ⟨(Nat.le_of_ble_eq_true rfl), (Nat.le_of_ble_eq_true rfl)⟩).run ?_
  refine lv_iconst (v := 2) hx hb dX2_textOfLabel_13 (by decide) ?_
  refine lv_icmp_lt (tgt := 22) hx hb dX2_textOfLabel_14 (by decide) (fun c_4 => ?_) (fun c_4 => absurd (zA_cls hs) c_4)
  refine va_ldcS hx hb hown hE.2.2.2.2.2.2.2.2.2.2.2.2.2.1.2.2.1 dX2_textOfLabel_22 ?_
  refine zDr (wr := []) (va_runV (As := [.ref (G.2.2 12)]) (rest := []) ⟨hx, hb, hml, hown, hts⟩ (c_J4_append_n l G H.size q_1 va_0 0 16 (fun _ => 0) 2 (by decide) 4 rfl (by decide) (by decide)) (cwV 1 hts gX2_textOfLabel_J4_append_15ec4 rfl rfl rfl (by decide +kernel) ⟨(Nat.le_of_ble_eq_true rfl), (Nat.le_of_ble_eq_true rfl)⟩) (zPreV hE hS hA hP hD hK (z_pick (n := 2) [0, 1] [] rfl (by decide) rfl rfl) (va_recv hK hP (ci := 1) (q0 := 0) rfl rfl)) rfl rfl hl.1 rfl (lv_room (Nat.le_of_ble_eq_true rfl)) dX2_textOfLabel_24 ⟨(Nat.le_of_ble_eq_true rfl), (Nat.le_of_ble_eq_true rfl)⟩) hP hD hS hA (z_pick (n := 2) [0, 1] [] rfl (by decide) rfl rfl) (fun u_5 H locs hp_6 hP hD hS => ?_)
  have hP : zP G [(q_1, .inr (1, [.ref va_0, .int 0, .int 0, .int (nI 4)])), (va_0, .inl (G.2.1 1, 16, .inl (va_cpy (zL 2) (fun _ => 0) 0 0 4)))] H := hP
  have hD : va_D A [(q_1, .inr (1, [.ref va_0, .int 0, .int 0, .int (nI 4)])), (va_0, .inl (G.2.1 1, 16, .inl (va_cpy (zL 2) (fun _ => 0) 0 0 4)))] := hD
  refine lv_pop hx hb dX2_textOfLabel_27 rfl ?_
  refine lv_aload_n hx hb dX2_textOfLabel_28 rfl (lv_at hl 0 rfl) ?_
  refine lv_iload_n hx hb dX2_textOfLabel_29 rfl (lv_at hl 1 rfl) ?_
  refine lv_bipush (v := 10) hx hb dX2_textOfLabel_30 (by decide) ?_
  refine lv_idiv hx hb dX2_textOfLabel_32 (by decide) ?_
  refine zTop (v := nI (sg / 10)) (pk_div (d := 10) (by omega) (by decide) (by decide)) ?_
  refine zDr (wr := []) (va_runV (As := [.int (nI (sg / 10))]) (rest := []) ⟨hx, hb, hml, hown, hts⟩ (c_J4_int_1 l G H.size q_1 va_0 4 16 (va_cpy (zL 2) (fun _ => 0) 0 0 4) (sg / 10) (by omega) (by decide) (by decide)) (cwV 1 hts gX2_textOfLabel_J4_append_bf812 rfl rfl rfl (by decide +kernel) ⟨(Nat.le_of_ble_eq_true rfl), (Nat.le_of_ble_eq_true rfl)⟩) (zPreV hE hS hA hP hD hK (z_pick (n := 2) [0, 1] [] rfl (by decide) rfl rfl) (va_recv hK hP (ci := 1) (q0 := 0) rfl rfl)) rfl rfl hl.1 rfl (lv_room (Nat.le_of_ble_eq_true rfl)) dX2_textOfLabel_33 ⟨(Nat.le_of_ble_eq_true rfl), (Nat.le_of_ble_eq_true rfl)⟩) hP hD hS hA (z_pick (n := 2) [0, 1] [] rfl (by decide) rfl rfl) (fun u_7 H locs hp_8 hP hD hS => ?_)
  have hP : zP G [(q_1, .inr (1, [.ref va_0, .int 0, .int 0, .int (nI 5)])), (va_0, .inl (G.2.1 1, 16, .inl (upd (va_cpy (zL 2) (fun _ => 0) 0 0 4) 4 (zd1 (sg / 10)))))] H := hP
  have hD : va_D A [(q_1, .inr (1, [.ref va_0, .int 0, .int 0, .int (nI 5)])), (va_0, .inl (G.2.1 1, 16, .inl (upd (va_cpy (zL 2) (fun _ => 0) 0 0 4) 4 (zd1 (sg / 10)))))] := hD
  refine lv_bipush (v := 46) hx hb dX2_textOfLabel_36 (by decide) ?_
  refine zDr (wr := []) (va_runV (As := [.int 46]) (rest := []) ⟨hx, hb, hml, hown, hts⟩ (c_J4_dot l G H.size q_1 va_0 5 16 (upd (va_cpy (zL 2) (fun _ => 0) 0 0 4) 4 (zd1 (sg / 10))) (by decide) (by decide)) (cwV 1 hts gX2_textOfLabel_J4_append_cf468 rfl rfl rfl (by decide +kernel) ⟨(Nat.le_of_ble_eq_true rfl), (Nat.le_of_ble_eq_true rfl)⟩) (zPreV hE hS hA hP hD hK (z_pick (n := 2) [0, 1] [] rfl (by decide) rfl rfl) (va_recv hK hP (ci := 1) (q0 := 0) rfl rfl)) rfl rfl hl.1 rfl (lv_room (Nat.le_of_ble_eq_true rfl)) dX2_textOfLabel_38 ⟨(Nat.le_of_ble_eq_true rfl), (Nat.le_of_ble_eq_true rfl)⟩) hP hD hS hA (z_pick (n := 2) [0, 1] [] rfl (by decide) rfl rfl) (fun u_9 H locs hp_10 hP hD hS => ?_)
  have hP : zP G [(q_1, .inr (1, [.ref va_0, .int 0, .int 0, .int (nI 6)])), (va_0, .inl (G.2.1 1, 16, .inl (upd (upd (va_cpy (zL 2) (fun _ => 0) 0 0 4) 4 (zd1 (sg / 10))) 5 46)))] H := hP
  have hD : va_D A [(q_1, .inr (1, [.ref va_0, .int 0, .int 0, .int (nI 6)])), (va_0, .inl (G.2.1 1, 16, .inl (upd (upd (va_cpy (zL 2) (fun _ => 0) 0 0 4) 4 (zd1 (sg / 10))) 5 46)))] := hD
  refine lv_iload_n hx hb dX2_textOfLabel_41 rfl (lv_at hl 1 rfl) ?_
  refine lv_bipush (v := 10) hx hb dX2_textOfLabel_42 (by decide) ?_
  refine lv_irem hx hb dX2_textOfLabel_44 (by decide) ?_
  refine zTop (v := nI (sg % 10)) (pk_rem (d := 10) (by omega) (by decide) (by decide)) ?_
  refine zDr (wr := []) (va_runV (As := [.int (nI (sg % 10))]) (rest := []) ⟨hx, hb, hml, hown, hts⟩ (c_J4_int_1 l G H.size q_1 va_0 6 16 (upd (upd (va_cpy (zL 2) (fun _ => 0) 0 0 4) 4 (zd1 (sg / 10))) 5 46) (sg % 10) (by omega) (by decide) (by decide)) (cwV 1 hts gX2_textOfLabel_J4_append_bf812 rfl rfl rfl (by decide +kernel) ⟨(Nat.le_of_ble_eq_true rfl), (Nat.le_of_ble_eq_true rfl)⟩) (zPreV hE hS hA hP hD hK (z_pick (n := 2) [0, 1] [] rfl (by decide) rfl rfl) (va_recv hK hP (ci := 1) (q0 := 0) rfl rfl)) rfl rfl hl.1 rfl (lv_room (Nat.le_of_ble_eq_true rfl)) dX2_textOfLabel_45 ⟨(Nat.le_of_ble_eq_true rfl), (Nat.le_of_ble_eq_true rfl)⟩) hP hD hS hA (z_pick (n := 2) [0, 1] [] rfl (by decide) rfl rfl) (fun u_11 H locs hp_12 hP hD hS => ?_)
  have hP : zP G [(q_1, .inr (1, [.ref va_0, .int 0, .int 0, .int (nI 7)])), (va_0, .inl (G.2.1 1, 16, .inl (upd (upd (upd (va_cpy (zL 2) (fun _ => 0) 0 0 4) 4 (zd1 (sg / 10))) 5 46) 6 (zd1 (sg % 10)))))] H := hP
  have hD : va_D A [(q_1, .inr (1, [.ref va_0, .int 0, .int 0, .int (nI 7)])), (va_0, .inl (G.2.1 1, 16, .inl (upd (upd (upd (va_cpy (zL 2) (fun _ => 0) 0 0 4) 4 (zd1 (sg / 10))) 5 46) 6 (zd1 (sg % 10)))))] := hD
  refine lv_pop hx hb dX2_textOfLabel_48 rfl ?_
  refine lv_aload_n hx hb dX2_textOfLabel_49 rfl (lv_at hl 0 rfl) ?_
  refine va_ldcS hx hb hown hE.2.2.2.2.2.2.2.2.2.2.2.2.2.1.2.2.2 dX2_textOfLabel_50 ?_
  refine zDr (wr := []) (va_runV (As := [.ref (G.2.2 13)]) (rest := []) ⟨hx, hb, hml, hown, hts⟩ (c_J4_append_g l G H.size q_1 va_0 7 (upd (upd (upd (va_cpy (zL 2) (fun _ => 0) 0 0 4) 4 (zd1 (sg / 10))) 5 46) 6 (zd1 (sg % 10))) (zFit.put (zFit.put (zFit.put (zFit.cpy (zL_fit 2) zFit.zero) (zd1_fit (by omega))) (rfl : fits .byte (.int 46) = true)) (zd1_fit (by omega))) 3 (by decide) 10 rfl (by decide) (by decide)) (cwV 1 hts gX2_textOfLabel_J4_append_15ec4 rfl rfl rfl (by decide +kernel) ⟨(Nat.le_of_ble_eq_true rfl), (Nat.le_of_ble_eq_true rfl)⟩) (zPreV hE hS hA hP hD hK (z_pick (n := 2) [0, 1] [] rfl (by decide) rfl rfl) (va_recv hK hP (ci := 1) (q0 := 0) rfl rfl)) rfl rfl hl.1 rfl (lv_room (Nat.le_of_ble_eq_true rfl)) dX2_textOfLabel_52 ⟨(Nat.le_of_ble_eq_true rfl), (Nat.le_of_ble_eq_true rfl)⟩) hP hD hS hA (z_pick (n := 2) [0, 1] [] rfl (by decide) rfl rfl) (fun u_13 H locs hp_14 hP hD hS => ?_)
  obtain ⟨nv_1, rfl⟩ : ∃ z, z = u_13 := ⟨_, rfl⟩
  have hP : zP G [(q_1, .inr (1, [.ref nv_1, .int 0, .int 0, .int (nI 17)])), (nv_1, .inl (G.2.1 1, 34, .inl (va_cpy (zL 3) (va_cpy (upd (upd (upd (va_cpy (zL 2) (fun _ => 0) 0 0 4) 4 (zd1 (sg / 10))) 5 46) 6 (zd1 (sg % 10))) (fun _ => 0) 0 0 16) 0 7 10)))] H := hP
  have hD : va_D A [(q_1, .inr (1, [.ref nv_1, .int 0, .int 0, .int (nI 17)])), (nv_1, .inl (G.2.1 1, 34, .inl (va_cpy (zL 3) (va_cpy (upd (upd (upd (va_cpy (zL 2) (fun _ => 0) 0 0 4) 4 (zd1 (sg / 10))) 5 46) 6 (zd1 (sg % 10))) (fun _ => 0) 0 0 16) 0 7 10)))] := hD
  refine lv_iload_n hx hb dX2_textOfLabel_55 rfl (lv_at hl 2 rfl) ?_
  refine zDr (wr := []) (va_runV (As := [.int (nI vv)]) (rest := []) ⟨hx, hb, hml, hown, hts⟩ (c_J4_int_1 l G H.size q_1 nv_1 17 34 (va_cpy (zL 3) (va_cpy (upd (upd (upd (va_cpy (zL 2) (fun _ => 0) 0 0 4) 4 (zd1 (sg / 10))) 5 46) 6 (zd1 (sg % 10))) (fun _ => 0) 0 0 16) 0 7 10) vv (by omega) (by decide) (by decide)) (cwV 1 hts gX2_textOfLabel_J4_append_bf812 rfl rfl rfl (by decide +kernel) ⟨(Nat.le_of_ble_eq_true rfl), (Nat.le_of_ble_eq_true rfl)⟩) (zPreV hE hS hA hP hD hK (z_pick (n := 2) [0, 1] [] rfl (by decide) rfl rfl) (va_recv hK hP (ci := 1) (q0 := 0) rfl rfl)) rfl rfl hl.1 rfl (lv_room (Nat.le_of_ble_eq_true rfl)) dX2_textOfLabel_56 ⟨(Nat.le_of_ble_eq_true rfl), (Nat.le_of_ble_eq_true rfl)⟩) hP hD hS hA (z_pick (n := 2) [0, 1] [] rfl (by decide) rfl rfl) (fun u_15 H locs hp_16 hP hD hS => ?_)
  have hP : zP G [(q_1, .inr (1, [.ref nv_1, .int 0, .int 0, .int (nI 18)])), (nv_1, .inl (G.2.1 1, 34, .inl (upd (va_cpy (zL 3) (va_cpy (upd (upd (upd (va_cpy (zL 2) (fun _ => 0) 0 0 4) 4 (zd1 (sg / 10))) 5 46) 6 (zd1 (sg % 10))) (fun _ => 0) 0 0 16) 0 7 10) 17 (zd1 vv))))] H := hP
  have hD : va_D A [(q_1, .inr (1, [.ref nv_1, .int 0, .int 0, .int (nI 18)])), (nv_1, .inl (G.2.1 1, 34, .inl (upd (va_cpy (zL 3) (va_cpy (upd (upd (upd (va_cpy (zL 2) (fun _ => 0) 0 0 4) 4 (zd1 (sg / 10))) 5 46) 6 (zd1 (sg % 10))) (fun _ => 0) 0 0 16) 0 7 10) 17 (zd1 vv))))] := hD
  refine lv_pop hx hb dX2_textOfLabel_59 rfl ?_
  refine lv_aload_n hx hb dX2_textOfLabel_60 rfl (lv_at hl 0 rfl) ?_
  refine zDr (wr := []) (va_runV (As := []) (rest := []) ⟨hx, hb, hml, hown, hts⟩ (c_J4_toString_18 l G H.size q_1 nv_1 (upd (va_cpy (zL 3) (va_cpy (upd (upd (upd (va_cpy (zL 2) (fun _ => 0) 0 0 4) 4 (zd1 (sg / 10))) 5 46) 6 (zd1 (sg % 10))) (fun _ => 0) 0 0 16) 0 7 10) 17 (zd1 vv)) (zFit.put (zFit.cpy (zL_fit 3) (zFit.cpy (zFit.put (zFit.put (zFit.put (zFit.cpy (zL_fit 2) zFit.zero) (zd1_fit (by omega))) (rfl : fits .byte (.int 46) = true)) (zd1_fit (by omega))) zFit.zero)) (zd1_fit (by omega)))) (cwV 0 hts gX2_textOfLabel_J4_toString_0e30d rfl rfl rfl (by decide +kernel) ⟨(Nat.le_of_ble_eq_true rfl), (Nat.le_of_ble_eq_true rfl)⟩) (zPreV hE hS hA hP hD hK (z_pick (n := 2) [0, 1] [] rfl (by decide) rfl rfl) (va_recv hK hP (ci := 1) (q0 := 0) rfl rfl)) rfl rfl hl.1 rfl (lv_room (Nat.le_of_ble_eq_true rfl)) dX2_textOfLabel_61 ⟨(Nat.le_of_ble_eq_true rfl), (Nat.le_of_ble_eq_true rfl)⟩) hP hD hS hA (z_pick (n := 2) [0, 1] [] rfl (by decide) rfl rfl) (fun u_17 H locs hp_18 hP hD hS => ?_)
  obtain ⟨so_2, nv_3⟩ := u_17
  have hP : zP G [(so_2, .inr (0, [.ref nv_3, .int 0, .int 0, .int 0])), (nv_3, .inl (G.2.1 1, 18, .inl (va_cpy (upd (va_cpy (zL 3) (va_cpy (upd (upd (upd (va_cpy (zL 2) (fun _ => 0) 0 0 4) 4 (zd1 (sg / 10))) 5 46) 6 (zd1 (sg % 10))) (fun _ => 0) 0 0 16) 0 7 10) 17 (zd1 vv)) (fun _ => 0) 0 0 18)))] H := hP
  have hD : va_D A [(so_2, .inr (0, [.ref nv_3, .int 0, .int 0, .int 0])), (nv_3, .inl (G.2.1 1, 18, .inl (va_cpy (upd (va_cpy (zL 3) (va_cpy (upd (upd (upd (va_cpy (zL 2) (fun _ => 0) 0 0 4) 4 (zd1 (sg / 10))) 5 46) 6 (zd1 (sg % 10))) (fun _ => 0) 0 0 16) 0 7 10) 17 (zd1 vv)) (fun _ => 0) 0 0 18)))] := hD
  exact zWr (so_2, nv_3, va_cpy (upd (va_cpy (zL 3) (va_cpy (upd (upd (upd (va_cpy (zL 2) (fun _ => 0) 0 0 4) 4 (zd1 (sg / 10))) 5 46) 6 (zd1 (sg % 10))) (fun _ => 0) 0 0 16) 0 7 10) 17 (zd1 vv)) (fun _ => 0) 0 0 18) hx hb hr hlocks (Or.inl ⟨_, rfl⟩) (by rw [f_X2_textOfLabel_A_sf]) hP hD hK hS (z_pick (n := 2) [0, 1] [] rfl (by decide) rfl rfl) (Nat.le_of_ble_eq_true rfl) (Nat.le_of_ble_eq_true rfl) dX2_textOfLabel_64

def f_X2_textOfLabel_B_sf (sg : Nat) (vv : Nat) : Nat → Int32 := va_cpy (upd (va_cpy (zL 3) (va_cpy (upd (upd (upd (va_cpy (zL 1) (fun _ => 0) 0 0 11) 11 (zd1 (sg / 10))) 12 46) 13 (zd1 (sg % 10))) (fun _ => 0) 0 0 16) 0 14 10) 24 (zd1 vv)) (fun _ => 0) 0 0 25
set_option maxHeartbeats 4000000 in
set_option maxRecDepth 100000 in
/-- textOfLabel: B -/
theorem c_X2_textOfLabel_B (l : Launch) (G : zG) (sz : Nat) (sg : Nat) (vv : Nat) (hvv : vv < 8) (hs1 : 50 < sg) (hs2 : sg < 100) : Met l yX2_textOfLabel wsX2_textOfLabel { frames := 20, cells := 5, slots := 100, locals := 400 } (zPc G [.int (nI sg), .int (nI vv)] [] sz) (zQr G (fun (u : Nat × Nat × (Nat → Int32)) => u.2.2 = f_X2_textOfLabel_B_sf sg vv) (fun u => [(u.1, .inr (0, [.ref u.2.1, .int 0, .int 0, .int 0])), (u.2.1, .inl (G.2.1 1, 25, .inl u.2.2))]) (fun u => u.1) (va_A [] sz)) 5 100 (va_A [] sz) := by
  refine zOfW (Qc := fun A => zQr G (fun (u : Nat × Nat × (Nat → Int32)) => u.2.2 = f_X2_textOfLabel_B_sf sg vv) (fun u => [(u.1, .inr (0, [.ref u.2.1, .int 0, .int 0, .int 0])), (u.2.1, .inl (G.2.1 1, 25, .inl u.2.2))]) (fun u => u.1) A) (fr := fun A => A) (cc := cX2_textOfLabel) (maxL := 3) (ret := (some (.object "java/lang/String"))) (by decide) rfl (Nat.le_of_ble_eq_true rfl) ?_
  intro p e s m below meth c hx hb hml hr hlocks hown hin hts A hP hK hD hE hA hS ls hl
  have hl : lv_has ls 3 [(0, .int (nI sg)), (1, .int (nI vv))] := hl
  have hown : s.vm.findClass RX2 = some m.cls := hown
  refine va_new (D := G.1) (ci := 1) (fs := [.null, .int 0, .int 0, .int 0]) (C := RJ4) (T := TJ4) (N := 4) hx hb hts wsi_X2_textOfLabel_J4 tyJ4 tyJ4_ok hown (hts (.classLink "Cellarscheduler" 201 "java/lang/StringBuilder") (List.mem_of_getElem? (i := 1) (by decide +kernel))) (hts (.instantiable RJ4 4) (List.mem_of_getElem? (i := 2) (by decide +kernel))) (hts (.initialized RJ4) (List.mem_of_getElem? (i := 3) (by decide +kernel))) hK hP hD hS hA rfl (fun j hj => by rcases (show j = 0 ∨ j = 1 ∨ j = 2 ∨ j = 3 by omega) with rfl | rfl | rfl | rfl <;> rfl) (Nat.le_of_ble_eq_true rfl) (Nat.le_of_ble_eq_true rfl) dX2_textOfLabel_0 (fun q_1 H hP hD hS => ?_)
  have hP : zP G [(q_1, .inr (1, [.null, .int 0, .int 0, .int 0]))] H := hP
  have hD : va_D A [(q_1, .inr (1, [.null, .int 0, .int 0, .int 0]))] := hD
  refine lv_dup hx hb dX2_textOfLabel_3 rfl ?_
  refine zDv (wr := []) (va_runI (As := []) (rest := [.ref q_1]) ⟨hx, hb, hml, hown, hts⟩ (c_J4_init l G H.size q_1) (cwI 0 hts gX2_textOfLabel_J4_init_da8c8 rfl rfl rfl (hts (.initialized RJ4) (List.mem_of_getElem? (i := 3) (by decide +kernel))) (hts (.methodLink "Cellarscheduler" 203 ⟨"java/lang/StringBuilder","<init>","()V"⟩) (List.mem_of_getElem? (i := 4) (by decide +kernel))) (hts (.instanceMethod yJ4_init_da8c8) (List.mem_of_getElem? (i := 5) (by decide +kernel))) rfl (by decide +kernel) ⟨(Nat.le_of_ble_eq_true rfl), (Nat.le_of_ble_eq_true rfl)⟩) (zPreS (As := [.ref q_1]) hE hS hA hP hD hK (z_pick (n := 1) [0] [] rfl (by decide) rfl rfl)) rfl rfl hl.1 rfl (lv_room (Nat.le_of_ble_eq_true rfl)) dX2_textOfLabel_4 ⟨(Nat.le_of_ble_eq_true rfl), (Nat.le_of_ble_eq_true rfl)⟩) hP hD hS hA (z_pick (n := 1) [0] [] rfl (by decide) rfl rfl) (fun u_2 H locs hp_3 hP hD hS => ?_)
  obtain ⟨va_0, rfl⟩ : ∃ z, z = u_2 := ⟨_, rfl⟩
  have hP : zP G [(q_1, .inr (1, [.ref va_0, .int 0, .int 0, .int 0])), (va_0, .inl (G.2.1 1, 16, .inl (fun _ => 0)))] H := hP
  have hD : va_D A [(q_1, .inr (1, [.ref va_0, .int 0, .int 0, .int 0])), (va_0, .inl (G.2.1 1, 16, .inl (fun _ => 0)))] := hD
  refine lv_astore_n (lv' := [(2, .ref q_1), (0, .int (nI sg)), (1, .int (nI vv))]) hx hb dX2_textOfLabel_7 rfl hl (by decide) rfl (fun ls hl => ?_)
  refine lv_aload_n hx hb dX2_textOfLabel_8 rfl (lv_at hl 0 rfl) ?_
  refine lv_iload_n hx hb dX2_textOfLabel_9 rfl (lv_at hl 1 rfl) ?_
  refine zCi (r := f_X2_classOf (nI sg)) (va_runS (As := [.int (nI sg)]) (rest := [.ref q_1]) ⟨hx, hb, hml, hown, hts⟩ (c_X2_classOf l G H.size (nI sg)) (va_cwS 1 hts gX2_textOfLabel_X2_classOf rfl rfl rfl (by decide +kernel) ⟨(Nat.le_of_ble_eq_true rfl), (Nat.le_of_ble_eq_true rfl)⟩) (zPreS hE hS hA hP hD hK (z_pick (n := 2) [] [0, 1] rfl (by decide) rfl rfl)) rfl rfl hl.1 rfl (lv_room (Nat.le_of_ble_eq_true rfl)) dX2_textOfLabel_10 ⟨(Nat.le_of_ble_eq_true rfl), (Nat.le_of_ble_eq_true rfl)⟩).run ?_
  refine lv_iconst (v := 2) hx hb dX2_textOfLabel_13 (by decide) ?_
  refine lv_icmp_lt (tgt := 22) hx hb dX2_textOfLabel_14 (by decide) (fun c_4 => absurd c_4 (zB_cls (by omega) (by omega))) (fun c_4 => ?_)
  refine va_ldcS hx hb hown hE.2.2.2.2.2.2.2.2.2.2.2.2.2.1.2.1 dX2_textOfLabel_17 ?_
  refine lv_goto (tgt := 24) hx hb dX2_textOfLabel_19 (by decide) ?_
  refine zDr (wr := []) (va_runV (As := [.ref (G.2.2 11)]) (rest := []) ⟨hx, hb, hml, hown, hts⟩ (c_J4_append_n l G H.size q_1 va_0 0 16 (fun _ => 0) 1 (by decide) 11 rfl (by decide) (by decide)) (cwV 1 hts gX2_textOfLabel_J4_append_15ec4 rfl rfl rfl (by decide +kernel) ⟨(Nat.le_of_ble_eq_true rfl), (Nat.le_of_ble_eq_true rfl)⟩) (zPreV hE hS hA hP hD hK (z_pick (n := 2) [0, 1] [] rfl (by decide) rfl rfl) (va_recv hK hP (ci := 1) (q0 := 0) rfl rfl)) rfl rfl hl.1 rfl (lv_room (Nat.le_of_ble_eq_true rfl)) dX2_textOfLabel_24 ⟨(Nat.le_of_ble_eq_true rfl), (Nat.le_of_ble_eq_true rfl)⟩) hP hD hS hA (z_pick (n := 2) [0, 1] [] rfl (by decide) rfl rfl) (fun u_5 H locs hp_6 hP hD hS => ?_)
  have hP : zP G [(q_1, .inr (1, [.ref va_0, .int 0, .int 0, .int (nI 11)])), (va_0, .inl (G.2.1 1, 16, .inl (va_cpy (zL 1) (fun _ => 0) 0 0 11)))] H := hP
  have hD : va_D A [(q_1, .inr (1, [.ref va_0, .int 0, .int 0, .int (nI 11)])), (va_0, .inl (G.2.1 1, 16, .inl (va_cpy (zL 1) (fun _ => 0) 0 0 11)))] := hD
  refine lv_pop hx hb dX2_textOfLabel_27 rfl ?_
  refine lv_aload_n hx hb dX2_textOfLabel_28 rfl (lv_at hl 0 rfl) ?_
  refine lv_iload_n hx hb dX2_textOfLabel_29 rfl (lv_at hl 1 rfl) ?_
  refine lv_bipush (v := 10) hx hb dX2_textOfLabel_30 (by decide) ?_
  refine lv_idiv hx hb dX2_textOfLabel_32 (by decide) ?_
  refine zTop (v := nI (sg / 10)) (pk_div (d := 10) (by omega) (by decide) (by decide)) ?_
  refine zDr (wr := []) (va_runV (As := [.int (nI (sg / 10))]) (rest := []) ⟨hx, hb, hml, hown, hts⟩ (c_J4_int_1 l G H.size q_1 va_0 11 16 (va_cpy (zL 1) (fun _ => 0) 0 0 11) (sg / 10) (by omega) (by decide) (by decide)) (cwV 1 hts gX2_textOfLabel_J4_append_bf812 rfl rfl rfl (by decide +kernel) ⟨(Nat.le_of_ble_eq_true rfl), (Nat.le_of_ble_eq_true rfl)⟩) (zPreV hE hS hA hP hD hK (z_pick (n := 2) [0, 1] [] rfl (by decide) rfl rfl) (va_recv hK hP (ci := 1) (q0 := 0) rfl rfl)) rfl rfl hl.1 rfl (lv_room (Nat.le_of_ble_eq_true rfl)) dX2_textOfLabel_33 ⟨(Nat.le_of_ble_eq_true rfl), (Nat.le_of_ble_eq_true rfl)⟩) hP hD hS hA (z_pick (n := 2) [0, 1] [] rfl (by decide) rfl rfl) (fun u_7 H locs hp_8 hP hD hS => ?_)
  have hP : zP G [(q_1, .inr (1, [.ref va_0, .int 0, .int 0, .int (nI 12)])), (va_0, .inl (G.2.1 1, 16, .inl (upd (va_cpy (zL 1) (fun _ => 0) 0 0 11) 11 (zd1 (sg / 10)))))] H := hP
  have hD : va_D A [(q_1, .inr (1, [.ref va_0, .int 0, .int 0, .int (nI 12)])), (va_0, .inl (G.2.1 1, 16, .inl (upd (va_cpy (zL 1) (fun _ => 0) 0 0 11) 11 (zd1 (sg / 10)))))] := hD
  refine lv_bipush (v := 46) hx hb dX2_textOfLabel_36 (by decide) ?_
  refine zDr (wr := []) (va_runV (As := [.int 46]) (rest := []) ⟨hx, hb, hml, hown, hts⟩ (c_J4_dot l G H.size q_1 va_0 12 16 (upd (va_cpy (zL 1) (fun _ => 0) 0 0 11) 11 (zd1 (sg / 10))) (by decide) (by decide)) (cwV 1 hts gX2_textOfLabel_J4_append_cf468 rfl rfl rfl (by decide +kernel) ⟨(Nat.le_of_ble_eq_true rfl), (Nat.le_of_ble_eq_true rfl)⟩) (zPreV hE hS hA hP hD hK (z_pick (n := 2) [0, 1] [] rfl (by decide) rfl rfl) (va_recv hK hP (ci := 1) (q0 := 0) rfl rfl)) rfl rfl hl.1 rfl (lv_room (Nat.le_of_ble_eq_true rfl)) dX2_textOfLabel_38 ⟨(Nat.le_of_ble_eq_true rfl), (Nat.le_of_ble_eq_true rfl)⟩) hP hD hS hA (z_pick (n := 2) [0, 1] [] rfl (by decide) rfl rfl) (fun u_9 H locs hp_10 hP hD hS => ?_)
  have hP : zP G [(q_1, .inr (1, [.ref va_0, .int 0, .int 0, .int (nI 13)])), (va_0, .inl (G.2.1 1, 16, .inl (upd (upd (va_cpy (zL 1) (fun _ => 0) 0 0 11) 11 (zd1 (sg / 10))) 12 46)))] H := hP
  have hD : va_D A [(q_1, .inr (1, [.ref va_0, .int 0, .int 0, .int (nI 13)])), (va_0, .inl (G.2.1 1, 16, .inl (upd (upd (va_cpy (zL 1) (fun _ => 0) 0 0 11) 11 (zd1 (sg / 10))) 12 46)))] := hD
  refine lv_iload_n hx hb dX2_textOfLabel_41 rfl (lv_at hl 1 rfl) ?_
  refine lv_bipush (v := 10) hx hb dX2_textOfLabel_42 (by decide) ?_
  refine lv_irem hx hb dX2_textOfLabel_44 (by decide) ?_
  refine zTop (v := nI (sg % 10)) (pk_rem (d := 10) (by omega) (by decide) (by decide)) ?_
  refine zDr (wr := []) (va_runV (As := [.int (nI (sg % 10))]) (rest := []) ⟨hx, hb, hml, hown, hts⟩ (c_J4_int_1 l G H.size q_1 va_0 13 16 (upd (upd (va_cpy (zL 1) (fun _ => 0) 0 0 11) 11 (zd1 (sg / 10))) 12 46) (sg % 10) (by omega) (by decide) (by decide)) (cwV 1 hts gX2_textOfLabel_J4_append_bf812 rfl rfl rfl (by decide +kernel) ⟨(Nat.le_of_ble_eq_true rfl), (Nat.le_of_ble_eq_true rfl)⟩) (zPreV hE hS hA hP hD hK (z_pick (n := 2) [0, 1] [] rfl (by decide) rfl rfl) (va_recv hK hP (ci := 1) (q0 := 0) rfl rfl)) rfl rfl hl.1 rfl (lv_room (Nat.le_of_ble_eq_true rfl)) dX2_textOfLabel_45 ⟨(Nat.le_of_ble_eq_true rfl), (Nat.le_of_ble_eq_true rfl)⟩) hP hD hS hA (z_pick (n := 2) [0, 1] [] rfl (by decide) rfl rfl) (fun u_11 H locs hp_12 hP hD hS => ?_)
  have hP : zP G [(q_1, .inr (1, [.ref va_0, .int 0, .int 0, .int (nI 14)])), (va_0, .inl (G.2.1 1, 16, .inl (upd (upd (upd (va_cpy (zL 1) (fun _ => 0) 0 0 11) 11 (zd1 (sg / 10))) 12 46) 13 (zd1 (sg % 10)))))] H := hP
  have hD : va_D A [(q_1, .inr (1, [.ref va_0, .int 0, .int 0, .int (nI 14)])), (va_0, .inl (G.2.1 1, 16, .inl (upd (upd (upd (va_cpy (zL 1) (fun _ => 0) 0 0 11) 11 (zd1 (sg / 10))) 12 46) 13 (zd1 (sg % 10)))))] := hD
  refine lv_pop hx hb dX2_textOfLabel_48 rfl ?_
  refine lv_aload_n hx hb dX2_textOfLabel_49 rfl (lv_at hl 0 rfl) ?_
  refine va_ldcS hx hb hown hE.2.2.2.2.2.2.2.2.2.2.2.2.2.1.2.2.2 dX2_textOfLabel_50 ?_
  refine zDr (wr := []) (va_runV (As := [.ref (G.2.2 13)]) (rest := []) ⟨hx, hb, hml, hown, hts⟩ (c_J4_append_g l G H.size q_1 va_0 14 (upd (upd (upd (va_cpy (zL 1) (fun _ => 0) 0 0 11) 11 (zd1 (sg / 10))) 12 46) 13 (zd1 (sg % 10))) (zFit.put (zFit.put (zFit.put (zFit.cpy (zL_fit 1) zFit.zero) (zd1_fit (by omega))) (rfl : fits .byte (.int 46) = true)) (zd1_fit (by omega))) 3 (by decide) 10 rfl (by decide) (by decide)) (cwV 1 hts gX2_textOfLabel_J4_append_15ec4 rfl rfl rfl (by decide +kernel) ⟨(Nat.le_of_ble_eq_true rfl), (Nat.le_of_ble_eq_true rfl)⟩) (zPreV hE hS hA hP hD hK (z_pick (n := 2) [0, 1] [] rfl (by decide) rfl rfl) (va_recv hK hP (ci := 1) (q0 := 0) rfl rfl)) rfl rfl hl.1 rfl (lv_room (Nat.le_of_ble_eq_true rfl)) dX2_textOfLabel_52 ⟨(Nat.le_of_ble_eq_true rfl), (Nat.le_of_ble_eq_true rfl)⟩) hP hD hS hA (z_pick (n := 2) [0, 1] [] rfl (by decide) rfl rfl) (fun u_13 H locs hp_14 hP hD hS => ?_)
  obtain ⟨nv_1, rfl⟩ : ∃ z, z = u_13 := ⟨_, rfl⟩
  have hP : zP G [(q_1, .inr (1, [.ref nv_1, .int 0, .int 0, .int (nI 24)])), (nv_1, .inl (G.2.1 1, 34, .inl (va_cpy (zL 3) (va_cpy (upd (upd (upd (va_cpy (zL 1) (fun _ => 0) 0 0 11) 11 (zd1 (sg / 10))) 12 46) 13 (zd1 (sg % 10))) (fun _ => 0) 0 0 16) 0 14 10)))] H := hP
  have hD : va_D A [(q_1, .inr (1, [.ref nv_1, .int 0, .int 0, .int (nI 24)])), (nv_1, .inl (G.2.1 1, 34, .inl (va_cpy (zL 3) (va_cpy (upd (upd (upd (va_cpy (zL 1) (fun _ => 0) 0 0 11) 11 (zd1 (sg / 10))) 12 46) 13 (zd1 (sg % 10))) (fun _ => 0) 0 0 16) 0 14 10)))] := hD
  refine lv_iload_n hx hb dX2_textOfLabel_55 rfl (lv_at hl 2 rfl) ?_
  refine zDr (wr := []) (va_runV (As := [.int (nI vv)]) (rest := []) ⟨hx, hb, hml, hown, hts⟩ (c_J4_int_1 l G H.size q_1 nv_1 24 34 (va_cpy (zL 3) (va_cpy (upd (upd (upd (va_cpy (zL 1) (fun _ => 0) 0 0 11) 11 (zd1 (sg / 10))) 12 46) 13 (zd1 (sg % 10))) (fun _ => 0) 0 0 16) 0 14 10) vv (by omega) (by decide) (by decide)) (cwV 1 hts gX2_textOfLabel_J4_append_bf812 rfl rfl rfl (by decide +kernel) ⟨(Nat.le_of_ble_eq_true rfl), (Nat.le_of_ble_eq_true rfl)⟩) (zPreV hE hS hA hP hD hK (z_pick (n := 2) [0, 1] [] rfl (by decide) rfl rfl) (va_recv hK hP (ci := 1) (q0 := 0) rfl rfl)) rfl rfl hl.1 rfl (lv_room (Nat.le_of_ble_eq_true rfl)) dX2_textOfLabel_56 ⟨(Nat.le_of_ble_eq_true rfl), (Nat.le_of_ble_eq_true rfl)⟩) hP hD hS hA (z_pick (n := 2) [0, 1] [] rfl (by decide) rfl rfl) (fun u_15 H locs hp_16 hP hD hS => ?_)
  have hP : zP G [(q_1, .inr (1, [.ref nv_1, .int 0, .int 0, .int (nI 25)])), (nv_1, .inl (G.2.1 1, 34, .inl (upd (va_cpy (zL 3) (va_cpy (upd (upd (upd (va_cpy (zL 1) (fun _ => 0) 0 0 11) 11 (zd1 (sg / 10))) 12 46) 13 (zd1 (sg % 10))) (fun _ => 0) 0 0 16) 0 14 10) 24 (zd1 vv))))] H := hP
  have hD : va_D A [(q_1, .inr (1, [.ref nv_1, .int 0, .int 0, .int (nI 25)])), (nv_1, .inl (G.2.1 1, 34, .inl (upd (va_cpy (zL 3) (va_cpy (upd (upd (upd (va_cpy (zL 1) (fun _ => 0) 0 0 11) 11 (zd1 (sg / 10))) 12 46) 13 (zd1 (sg % 10))) (fun _ => 0) 0 0 16) 0 14 10) 24 (zd1 vv))))] := hD
  refine lv_pop hx hb dX2_textOfLabel_59 rfl ?_
  refine lv_aload_n hx hb dX2_textOfLabel_60 rfl (lv_at hl 0 rfl) ?_
  refine zDr (wr := []) (va_runV (As := []) (rest := []) ⟨hx, hb, hml, hown, hts⟩ (c_J4_toString_25 l G H.size q_1 nv_1 (upd (va_cpy (zL 3) (va_cpy (upd (upd (upd (va_cpy (zL 1) (fun _ => 0) 0 0 11) 11 (zd1 (sg / 10))) 12 46) 13 (zd1 (sg % 10))) (fun _ => 0) 0 0 16) 0 14 10) 24 (zd1 vv)) (zFit.put (zFit.cpy (zL_fit 3) (zFit.cpy (zFit.put (zFit.put (zFit.put (zFit.cpy (zL_fit 1) zFit.zero) (zd1_fit (by omega))) (rfl : fits .byte (.int 46) = true)) (zd1_fit (by omega))) zFit.zero)) (zd1_fit (by omega)))) (cwV 0 hts gX2_textOfLabel_J4_toString_0e30d rfl rfl rfl (by decide +kernel) ⟨(Nat.le_of_ble_eq_true rfl), (Nat.le_of_ble_eq_true rfl)⟩) (zPreV hE hS hA hP hD hK (z_pick (n := 2) [0, 1] [] rfl (by decide) rfl rfl) (va_recv hK hP (ci := 1) (q0 := 0) rfl rfl)) rfl rfl hl.1 rfl (lv_room (Nat.le_of_ble_eq_true rfl)) dX2_textOfLabel_61 ⟨(Nat.le_of_ble_eq_true rfl), (Nat.le_of_ble_eq_true rfl)⟩) hP hD hS hA (z_pick (n := 2) [0, 1] [] rfl (by decide) rfl rfl) (fun u_17 H locs hp_18 hP hD hS => ?_)
  obtain ⟨so_2, nv_3⟩ := u_17
  have hP : zP G [(so_2, .inr (0, [.ref nv_3, .int 0, .int 0, .int 0])), (nv_3, .inl (G.2.1 1, 25, .inl (va_cpy (upd (va_cpy (zL 3) (va_cpy (upd (upd (upd (va_cpy (zL 1) (fun _ => 0) 0 0 11) 11 (zd1 (sg / 10))) 12 46) 13 (zd1 (sg % 10))) (fun _ => 0) 0 0 16) 0 14 10) 24 (zd1 vv)) (fun _ => 0) 0 0 25)))] H := hP
  have hD : va_D A [(so_2, .inr (0, [.ref nv_3, .int 0, .int 0, .int 0])), (nv_3, .inl (G.2.1 1, 25, .inl (va_cpy (upd (va_cpy (zL 3) (va_cpy (upd (upd (upd (va_cpy (zL 1) (fun _ => 0) 0 0 11) 11 (zd1 (sg / 10))) 12 46) 13 (zd1 (sg % 10))) (fun _ => 0) 0 0 16) 0 14 10) 24 (zd1 vv)) (fun _ => 0) 0 0 25)))] := hD
  exact zWr (so_2, nv_3, va_cpy (upd (va_cpy (zL 3) (va_cpy (upd (upd (upd (va_cpy (zL 1) (fun _ => 0) 0 0 11) 11 (zd1 (sg / 10))) 12 46) 13 (zd1 (sg % 10))) (fun _ => 0) 0 0 16) 0 14 10) 24 (zd1 vv)) (fun _ => 0) 0 0 25) hx hb hr hlocks (Or.inl ⟨_, rfl⟩) (by rw [f_X2_textOfLabel_B_sf]) hP hD hK hS (z_pick (n := 2) [0, 1] [] rfl (by decide) rfl rfl) (Nat.le_of_ble_eq_true rfl) (Nat.le_of_ble_eq_true rfl) dX2_textOfLabel_64

def f_X2_textOfLabel_C_sf (sg : Nat) (vv : Nat) : Nat → Int32 := va_cpy (upd (va_cpy (zL 3) (va_cpy (upd (upd (upd (upd (va_cpy (zL 1) (fun _ => 0) 0 0 11) 12 (zd1 (sg / 10))) 11 (zd2 (sg / 10))) 13 46) 14 (zd1 (sg % 10))) (fun _ => 0) 0 0 16) 0 15 10) 25 (zd1 vv)) (fun _ => 0) 0 0 26
set_option maxHeartbeats 4000000 in
set_option maxRecDepth 100000 in
/-- textOfLabel: C -/
theorem c_X2_textOfLabel_C (l : Launch) (G : zG) (sz : Nat) (sg : Nat) (vv : Nat) (hvv : vv < 8) (hs1 : 100 ≤ sg) (hs2 : sg ≤ 250) : Met l yX2_textOfLabel wsX2_textOfLabel { frames := 20, cells := 5, slots := 100, locals := 400 } (zPc G [.int (nI sg), .int (nI vv)] [] sz) (zQr G (fun (u : Nat × Nat × (Nat → Int32)) => u.2.2 = f_X2_textOfLabel_C_sf sg vv) (fun u => [(u.1, .inr (0, [.ref u.2.1, .int 0, .int 0, .int 0])), (u.2.1, .inl (G.2.1 1, 26, .inl u.2.2))]) (fun u => u.1) (va_A [] sz)) 5 100 (va_A [] sz) := by
  refine zOfW (Qc := fun A => zQr G (fun (u : Nat × Nat × (Nat → Int32)) => u.2.2 = f_X2_textOfLabel_C_sf sg vv) (fun u => [(u.1, .inr (0, [.ref u.2.1, .int 0, .int 0, .int 0])), (u.2.1, .inl (G.2.1 1, 26, .inl u.2.2))]) (fun u => u.1) A) (fr := fun A => A) (cc := cX2_textOfLabel) (maxL := 3) (ret := (some (.object "java/lang/String"))) (by decide) rfl (Nat.le_of_ble_eq_true rfl) ?_
  intro p e s m below meth c hx hb hml hr hlocks hown hin hts A hP hK hD hE hA hS ls hl
  have hl : lv_has ls 3 [(0, .int (nI sg)), (1, .int (nI vv))] := hl
  have hown : s.vm.findClass RX2 = some m.cls := hown
  refine va_new (D := G.1) (ci := 1) (fs := [.null, .int 0, .int 0, .int 0]) (C := RJ4) (T := TJ4) (N := 4) hx hb hts wsi_X2_textOfLabel_J4 tyJ4 tyJ4_ok hown (hts (.classLink "Cellarscheduler" 201 "java/lang/StringBuilder") (List.mem_of_getElem? (i := 1) (by decide +kernel))) (hts (.instantiable RJ4 4) (List.mem_of_getElem? (i := 2) (by decide +kernel))) (hts (.initialized RJ4) (List.mem_of_getElem? (i := 3) (by decide +kernel))) hK hP hD hS hA rfl (fun j hj => by rcases (show j = 0 ∨ j = 1 ∨ j = 2 ∨ j = 3 by omega) with rfl | rfl | rfl | rfl <;> rfl) (Nat.le_of_ble_eq_true rfl) (Nat.le_of_ble_eq_true rfl) dX2_textOfLabel_0 (fun q_1 H hP hD hS => ?_)
  have hP : zP G [(q_1, .inr (1, [.null, .int 0, .int 0, .int 0]))] H := hP
  have hD : va_D A [(q_1, .inr (1, [.null, .int 0, .int 0, .int 0]))] := hD
  refine lv_dup hx hb dX2_textOfLabel_3 rfl ?_
  refine zDv (wr := []) (va_runI (As := []) (rest := [.ref q_1]) ⟨hx, hb, hml, hown, hts⟩ (c_J4_init l G H.size q_1) (cwI 0 hts gX2_textOfLabel_J4_init_da8c8 rfl rfl rfl (hts (.initialized RJ4) (List.mem_of_getElem? (i := 3) (by decide +kernel))) (hts (.methodLink "Cellarscheduler" 203 ⟨"java/lang/StringBuilder","<init>","()V"⟩) (List.mem_of_getElem? (i := 4) (by decide +kernel))) (hts (.instanceMethod yJ4_init_da8c8) (List.mem_of_getElem? (i := 5) (by decide +kernel))) rfl (by decide +kernel) ⟨(Nat.le_of_ble_eq_true rfl), (Nat.le_of_ble_eq_true rfl)⟩) (zPreS (As := [.ref q_1]) hE hS hA hP hD hK (z_pick (n := 1) [0] [] rfl (by decide) rfl rfl)) rfl rfl hl.1 rfl (lv_room (Nat.le_of_ble_eq_true rfl)) dX2_textOfLabel_4 ⟨(Nat.le_of_ble_eq_true rfl), (Nat.le_of_ble_eq_true rfl)⟩) hP hD hS hA (z_pick (n := 1) [0] [] rfl (by decide) rfl rfl) (fun u_2 H locs hp_3 hP hD hS => ?_)
  obtain ⟨va_0, rfl⟩ : ∃ z, z = u_2 := ⟨_, rfl⟩
  have hP : zP G [(q_1, .inr (1, [.ref va_0, .int 0, .int 0, .int 0])), (va_0, .inl (G.2.1 1, 16, .inl (fun _ => 0)))] H := hP
  have hD : va_D A [(q_1, .inr (1, [.ref va_0, .int 0, .int 0, .int 0])), (va_0, .inl (G.2.1 1, 16, .inl (fun _ => 0)))] := hD
  refine lv_astore_n (lv' := [(2, .ref q_1), (0, .int (nI sg)), (1, .int (nI vv))]) hx hb dX2_textOfLabel_7 rfl hl (by decide) rfl (fun ls hl => ?_)
  refine lv_aload_n hx hb dX2_textOfLabel_8 rfl (lv_at hl 0 rfl) ?_
  refine lv_iload_n hx hb dX2_textOfLabel_9 rfl (lv_at hl 1 rfl) ?_
  refine zCi (r := f_X2_classOf (nI sg)) (va_runS (As := [.int (nI sg)]) (rest := [.ref q_1]) ⟨hx, hb, hml, hown, hts⟩ (c_X2_classOf l G H.size (nI sg)) (va_cwS 1 hts gX2_textOfLabel_X2_classOf rfl rfl rfl (by decide +kernel) ⟨(Nat.le_of_ble_eq_true rfl), (Nat.le_of_ble_eq_true rfl)⟩) (zPreS hE hS hA hP hD hK (z_pick (n := 2) [] [0, 1] rfl (by decide) rfl rfl)) rfl rfl hl.1 rfl (lv_room (Nat.le_of_ble_eq_true rfl)) dX2_textOfLabel_10 ⟨(Nat.le_of_ble_eq_true rfl), (Nat.le_of_ble_eq_true rfl)⟩).run ?_
  refine lv_iconst (v := 2) hx hb dX2_textOfLabel_13 (by decide) ?_
  refine lv_icmp_lt (tgt := 22) hx hb dX2_textOfLabel_14 (by decide) (fun c_4 => absurd c_4 (zB_cls (by omega) (by omega))) (fun c_4 => ?_)
  refine va_ldcS hx hb hown hE.2.2.2.2.2.2.2.2.2.2.2.2.2.1.2.1 dX2_textOfLabel_17 ?_
  refine lv_goto (tgt := 24) hx hb dX2_textOfLabel_19 (by decide) ?_
  refine zDr (wr := []) (va_runV (As := [.ref (G.2.2 11)]) (rest := []) ⟨hx, hb, hml, hown, hts⟩ (c_J4_append_n l G H.size q_1 va_0 0 16 (fun _ => 0) 1 (by decide) 11 rfl (by decide) (by decide)) (cwV 1 hts gX2_textOfLabel_J4_append_15ec4 rfl rfl rfl (by decide +kernel) ⟨(Nat.le_of_ble_eq_true rfl), (Nat.le_of_ble_eq_true rfl)⟩) (zPreV hE hS hA hP hD hK (z_pick (n := 2) [0, 1] [] rfl (by decide) rfl rfl) (va_recv hK hP (ci := 1) (q0 := 0) rfl rfl)) rfl rfl hl.1 rfl (lv_room (Nat.le_of_ble_eq_true rfl)) dX2_textOfLabel_24 ⟨(Nat.le_of_ble_eq_true rfl), (Nat.le_of_ble_eq_true rfl)⟩) hP hD hS hA (z_pick (n := 2) [0, 1] [] rfl (by decide) rfl rfl) (fun u_5 H locs hp_6 hP hD hS => ?_)
  have hP : zP G [(q_1, .inr (1, [.ref va_0, .int 0, .int 0, .int (nI 11)])), (va_0, .inl (G.2.1 1, 16, .inl (va_cpy (zL 1) (fun _ => 0) 0 0 11)))] H := hP
  have hD : va_D A [(q_1, .inr (1, [.ref va_0, .int 0, .int 0, .int (nI 11)])), (va_0, .inl (G.2.1 1, 16, .inl (va_cpy (zL 1) (fun _ => 0) 0 0 11)))] := hD
  refine lv_pop hx hb dX2_textOfLabel_27 rfl ?_
  refine lv_aload_n hx hb dX2_textOfLabel_28 rfl (lv_at hl 0 rfl) ?_
  refine lv_iload_n hx hb dX2_textOfLabel_29 rfl (lv_at hl 1 rfl) ?_
  refine lv_bipush (v := 10) hx hb dX2_textOfLabel_30 (by decide) ?_
  refine lv_idiv hx hb dX2_textOfLabel_32 (by decide) ?_
  refine zTop (v := nI (sg / 10)) (pk_div (d := 10) (by omega) (by decide) (by decide)) ?_
  refine zDr (wr := []) (va_runV (As := [.int (nI (sg / 10))]) (rest := []) ⟨hx, hb, hml, hown, hts⟩ (c_J4_int_2 l G H.size q_1 va_0 11 16 (va_cpy (zL 1) (fun _ => 0) 0 0 11) (sg / 10) (by omega) (by omega) (by decide) (by decide)) (cwV 1 hts gX2_textOfLabel_J4_append_bf812 rfl rfl rfl (by decide +kernel) ⟨(Nat.le_of_ble_eq_true rfl), (Nat.le_of_ble_eq_true rfl)⟩) (zPreV hE hS hA hP hD hK (z_pick (n := 2) [0, 1] [] rfl (by decide) rfl rfl) (va_recv hK hP (ci := 1) (q0 := 0) rfl rfl)) rfl rfl hl.1 rfl (lv_room (Nat.le_of_ble_eq_true rfl)) dX2_textOfLabel_33 ⟨(Nat.le_of_ble_eq_true rfl), (Nat.le_of_ble_eq_true rfl)⟩) hP hD hS hA (z_pick (n := 2) [0, 1] [] rfl (by decide) rfl rfl) (fun u_7 H locs hp_8 hP hD hS => ?_)
  have hP : zP G [(q_1, .inr (1, [.ref va_0, .int 0, .int 0, .int (nI 13)])), (va_0, .inl (G.2.1 1, 16, .inl (upd (upd (va_cpy (zL 1) (fun _ => 0) 0 0 11) 12 (zd1 (sg / 10))) 11 (zd2 (sg / 10)))))] H := hP
  have hD : va_D A [(q_1, .inr (1, [.ref va_0, .int 0, .int 0, .int (nI 13)])), (va_0, .inl (G.2.1 1, 16, .inl (upd (upd (va_cpy (zL 1) (fun _ => 0) 0 0 11) 12 (zd1 (sg / 10))) 11 (zd2 (sg / 10)))))] := hD
  refine lv_bipush (v := 46) hx hb dX2_textOfLabel_36 (by decide) ?_
  refine zDr (wr := []) (va_runV (As := [.int 46]) (rest := []) ⟨hx, hb, hml, hown, hts⟩ (c_J4_dot l G H.size q_1 va_0 13 16 (upd (upd (va_cpy (zL 1) (fun _ => 0) 0 0 11) 12 (zd1 (sg / 10))) 11 (zd2 (sg / 10))) (by decide) (by decide)) (cwV 1 hts gX2_textOfLabel_J4_append_cf468 rfl rfl rfl (by decide +kernel) ⟨(Nat.le_of_ble_eq_true rfl), (Nat.le_of_ble_eq_true rfl)⟩) (zPreV hE hS hA hP hD hK (z_pick (n := 2) [0, 1] [] rfl (by decide) rfl rfl) (va_recv hK hP (ci := 1) (q0 := 0) rfl rfl)) rfl rfl hl.1 rfl (lv_room (Nat.le_of_ble_eq_true rfl)) dX2_textOfLabel_38 ⟨(Nat.le_of_ble_eq_true rfl), (Nat.le_of_ble_eq_true rfl)⟩) hP hD hS hA (z_pick (n := 2) [0, 1] [] rfl (by decide) rfl rfl) (fun u_9 H locs hp_10 hP hD hS => ?_)
  have hP : zP G [(q_1, .inr (1, [.ref va_0, .int 0, .int 0, .int (nI 14)])), (va_0, .inl (G.2.1 1, 16, .inl (upd (upd (upd (va_cpy (zL 1) (fun _ => 0) 0 0 11) 12 (zd1 (sg / 10))) 11 (zd2 (sg / 10))) 13 46)))] H := hP
  have hD : va_D A [(q_1, .inr (1, [.ref va_0, .int 0, .int 0, .int (nI 14)])), (va_0, .inl (G.2.1 1, 16, .inl (upd (upd (upd (va_cpy (zL 1) (fun _ => 0) 0 0 11) 12 (zd1 (sg / 10))) 11 (zd2 (sg / 10))) 13 46)))] := hD
  refine lv_iload_n hx hb dX2_textOfLabel_41 rfl (lv_at hl 1 rfl) ?_
  refine lv_bipush (v := 10) hx hb dX2_textOfLabel_42 (by decide) ?_
  refine lv_irem hx hb dX2_textOfLabel_44 (by decide) ?_
  refine zTop (v := nI (sg % 10)) (pk_rem (d := 10) (by omega) (by decide) (by decide)) ?_
  refine zDr (wr := []) (va_runV (As := [.int (nI (sg % 10))]) (rest := []) ⟨hx, hb, hml, hown, hts⟩ (c_J4_int_1 l G H.size q_1 va_0 14 16 (upd (upd (upd (va_cpy (zL 1) (fun _ => 0) 0 0 11) 12 (zd1 (sg / 10))) 11 (zd2 (sg / 10))) 13 46) (sg % 10) (by omega) (by decide) (by decide)) (cwV 1 hts gX2_textOfLabel_J4_append_bf812 rfl rfl rfl (by decide +kernel) ⟨(Nat.le_of_ble_eq_true rfl), (Nat.le_of_ble_eq_true rfl)⟩) (zPreV hE hS hA hP hD hK (z_pick (n := 2) [0, 1] [] rfl (by decide) rfl rfl) (va_recv hK hP (ci := 1) (q0 := 0) rfl rfl)) rfl rfl hl.1 rfl (lv_room (Nat.le_of_ble_eq_true rfl)) dX2_textOfLabel_45 ⟨(Nat.le_of_ble_eq_true rfl), (Nat.le_of_ble_eq_true rfl)⟩) hP hD hS hA (z_pick (n := 2) [0, 1] [] rfl (by decide) rfl rfl) (fun u_11 H locs hp_12 hP hD hS => ?_)
  have hP : zP G [(q_1, .inr (1, [.ref va_0, .int 0, .int 0, .int (nI 15)])), (va_0, .inl (G.2.1 1, 16, .inl (upd (upd (upd (upd (va_cpy (zL 1) (fun _ => 0) 0 0 11) 12 (zd1 (sg / 10))) 11 (zd2 (sg / 10))) 13 46) 14 (zd1 (sg % 10)))))] H := hP
  have hD : va_D A [(q_1, .inr (1, [.ref va_0, .int 0, .int 0, .int (nI 15)])), (va_0, .inl (G.2.1 1, 16, .inl (upd (upd (upd (upd (va_cpy (zL 1) (fun _ => 0) 0 0 11) 12 (zd1 (sg / 10))) 11 (zd2 (sg / 10))) 13 46) 14 (zd1 (sg % 10)))))] := hD
  refine lv_pop hx hb dX2_textOfLabel_48 rfl ?_
  refine lv_aload_n hx hb dX2_textOfLabel_49 rfl (lv_at hl 0 rfl) ?_
  refine va_ldcS hx hb hown hE.2.2.2.2.2.2.2.2.2.2.2.2.2.1.2.2.2 dX2_textOfLabel_50 ?_
  refine zDr (wr := []) (va_runV (As := [.ref (G.2.2 13)]) (rest := []) ⟨hx, hb, hml, hown, hts⟩ (c_J4_append_g l G H.size q_1 va_0 15 (upd (upd (upd (upd (va_cpy (zL 1) (fun _ => 0) 0 0 11) 12 (zd1 (sg / 10))) 11 (zd2 (sg / 10))) 13 46) 14 (zd1 (sg % 10))) (zFit.put (zFit.put (zFit.put (zFit.put (zFit.cpy (zL_fit 1) zFit.zero) (zd1_fit (by omega))) (zd2_fit (by omega))) (rfl : fits .byte (.int 46) = true)) (zd1_fit (by omega))) 3 (by decide) 10 rfl (by decide) (by decide)) (cwV 1 hts gX2_textOfLabel_J4_append_15ec4 rfl rfl rfl (by decide +kernel) ⟨(Nat.le_of_ble_eq_true rfl), (Nat.le_of_ble_eq_true rfl)⟩) (zPreV hE hS hA hP hD hK (z_pick (n := 2) [0, 1] [] rfl (by decide) rfl rfl) (va_recv hK hP (ci := 1) (q0 := 0) rfl rfl)) rfl rfl hl.1 rfl (lv_room (Nat.le_of_ble_eq_true rfl)) dX2_textOfLabel_52 ⟨(Nat.le_of_ble_eq_true rfl), (Nat.le_of_ble_eq_true rfl)⟩) hP hD hS hA (z_pick (n := 2) [0, 1] [] rfl (by decide) rfl rfl) (fun u_13 H locs hp_14 hP hD hS => ?_)
  obtain ⟨nv_1, rfl⟩ : ∃ z, z = u_13 := ⟨_, rfl⟩
  have hP : zP G [(q_1, .inr (1, [.ref nv_1, .int 0, .int 0, .int (nI 25)])), (nv_1, .inl (G.2.1 1, 34, .inl (va_cpy (zL 3) (va_cpy (upd (upd (upd (upd (va_cpy (zL 1) (fun _ => 0) 0 0 11) 12 (zd1 (sg / 10))) 11 (zd2 (sg / 10))) 13 46) 14 (zd1 (sg % 10))) (fun _ => 0) 0 0 16) 0 15 10)))] H := hP
  have hD : va_D A [(q_1, .inr (1, [.ref nv_1, .int 0, .int 0, .int (nI 25)])), (nv_1, .inl (G.2.1 1, 34, .inl (va_cpy (zL 3) (va_cpy (upd (upd (upd (upd (va_cpy (zL 1) (fun _ => 0) 0 0 11) 12 (zd1 (sg / 10))) 11 (zd2 (sg / 10))) 13 46) 14 (zd1 (sg % 10))) (fun _ => 0) 0 0 16) 0 15 10)))] := hD
  refine lv_iload_n hx hb dX2_textOfLabel_55 rfl (lv_at hl 2 rfl) ?_
  refine zDr (wr := []) (va_runV (As := [.int (nI vv)]) (rest := []) ⟨hx, hb, hml, hown, hts⟩ (c_J4_int_1 l G H.size q_1 nv_1 25 34 (va_cpy (zL 3) (va_cpy (upd (upd (upd (upd (va_cpy (zL 1) (fun _ => 0) 0 0 11) 12 (zd1 (sg / 10))) 11 (zd2 (sg / 10))) 13 46) 14 (zd1 (sg % 10))) (fun _ => 0) 0 0 16) 0 15 10) vv (by omega) (by decide) (by decide)) (cwV 1 hts gX2_textOfLabel_J4_append_bf812 rfl rfl rfl (by decide +kernel) ⟨(Nat.le_of_ble_eq_true rfl), (Nat.le_of_ble_eq_true rfl)⟩) (zPreV hE hS hA hP hD hK (z_pick (n := 2) [0, 1] [] rfl (by decide) rfl rfl) (va_recv hK hP (ci := 1) (q0 := 0) rfl rfl)) rfl rfl hl.1 rfl (lv_room (Nat.le_of_ble_eq_true rfl)) dX2_textOfLabel_56 ⟨(Nat.le_of_ble_eq_true rfl), (Nat.le_of_ble_eq_true rfl)⟩) hP hD hS hA (z_pick (n := 2) [0, 1] [] rfl (by decide) rfl rfl) (fun u_15 H locs hp_16 hP hD hS => ?_)
  have hP : zP G [(q_1, .inr (1, [.ref nv_1, .int 0, .int 0, .int (nI 26)])), (nv_1, .inl (G.2.1 1, 34, .inl (upd (va_cpy (zL 3) (va_cpy (upd (upd (upd (upd (va_cpy (zL 1) (fun _ => 0) 0 0 11) 12 (zd1 (sg / 10))) 11 (zd2 (sg / 10))) 13 46) 14 (zd1 (sg % 10))) (fun _ => 0) 0 0 16) 0 15 10) 25 (zd1 vv))))] H := hP
  have hD : va_D A [(q_1, .inr (1, [.ref nv_1, .int 0, .int 0, .int (nI 26)])), (nv_1, .inl (G.2.1 1, 34, .inl (upd (va_cpy (zL 3) (va_cpy (upd (upd (upd (upd (va_cpy (zL 1) (fun _ => 0) 0 0 11) 12 (zd1 (sg / 10))) 11 (zd2 (sg / 10))) 13 46) 14 (zd1 (sg % 10))) (fun _ => 0) 0 0 16) 0 15 10) 25 (zd1 vv))))] := hD
  refine lv_pop hx hb dX2_textOfLabel_59 rfl ?_
  refine lv_aload_n hx hb dX2_textOfLabel_60 rfl (lv_at hl 0 rfl) ?_
  refine zDr (wr := []) (va_runV (As := []) (rest := []) ⟨hx, hb, hml, hown, hts⟩ (c_J4_toString_26 l G H.size q_1 nv_1 (upd (va_cpy (zL 3) (va_cpy (upd (upd (upd (upd (va_cpy (zL 1) (fun _ => 0) 0 0 11) 12 (zd1 (sg / 10))) 11 (zd2 (sg / 10))) 13 46) 14 (zd1 (sg % 10))) (fun _ => 0) 0 0 16) 0 15 10) 25 (zd1 vv)) (zFit.put (zFit.cpy (zL_fit 3) (zFit.cpy (zFit.put (zFit.put (zFit.put (zFit.put (zFit.cpy (zL_fit 1) zFit.zero) (zd1_fit (by omega))) (zd2_fit (by omega))) (rfl : fits .byte (.int 46) = true)) (zd1_fit (by omega))) zFit.zero)) (zd1_fit (by omega)))) (cwV 0 hts gX2_textOfLabel_J4_toString_0e30d rfl rfl rfl (by decide +kernel) ⟨(Nat.le_of_ble_eq_true rfl), (Nat.le_of_ble_eq_true rfl)⟩) (zPreV hE hS hA hP hD hK (z_pick (n := 2) [0, 1] [] rfl (by decide) rfl rfl) (va_recv hK hP (ci := 1) (q0 := 0) rfl rfl)) rfl rfl hl.1 rfl (lv_room (Nat.le_of_ble_eq_true rfl)) dX2_textOfLabel_61 ⟨(Nat.le_of_ble_eq_true rfl), (Nat.le_of_ble_eq_true rfl)⟩) hP hD hS hA (z_pick (n := 2) [0, 1] [] rfl (by decide) rfl rfl) (fun u_17 H locs hp_18 hP hD hS => ?_)
  obtain ⟨so_2, nv_3⟩ := u_17
  have hP : zP G [(so_2, .inr (0, [.ref nv_3, .int 0, .int 0, .int 0])), (nv_3, .inl (G.2.1 1, 26, .inl (va_cpy (upd (va_cpy (zL 3) (va_cpy (upd (upd (upd (upd (va_cpy (zL 1) (fun _ => 0) 0 0 11) 12 (zd1 (sg / 10))) 11 (zd2 (sg / 10))) 13 46) 14 (zd1 (sg % 10))) (fun _ => 0) 0 0 16) 0 15 10) 25 (zd1 vv)) (fun _ => 0) 0 0 26)))] H := hP
  have hD : va_D A [(so_2, .inr (0, [.ref nv_3, .int 0, .int 0, .int 0])), (nv_3, .inl (G.2.1 1, 26, .inl (va_cpy (upd (va_cpy (zL 3) (va_cpy (upd (upd (upd (upd (va_cpy (zL 1) (fun _ => 0) 0 0 11) 12 (zd1 (sg / 10))) 11 (zd2 (sg / 10))) 13 46) 14 (zd1 (sg % 10))) (fun _ => 0) 0 0 16) 0 15 10) 25 (zd1 vv)) (fun _ => 0) 0 0 26)))] := hD
  exact zWr (so_2, nv_3, va_cpy (upd (va_cpy (zL 3) (va_cpy (upd (upd (upd (upd (va_cpy (zL 1) (fun _ => 0) 0 0 11) 12 (zd1 (sg / 10))) 11 (zd2 (sg / 10))) 13 46) 14 (zd1 (sg % 10))) (fun _ => 0) 0 0 16) 0 15 10) 25 (zd1 vv)) (fun _ => 0) 0 0 26) hx hb hr hlocks (Or.inl ⟨_, rfl⟩) (by rw [f_X2_textOfLabel_C_sf]) hP hD hK hS (z_pick (n := 2) [0, 1] [] rfl (by decide) rfl rfl) (Nat.le_of_ble_eq_true rfl) (Nat.le_of_ble_eq_true rfl) dX2_textOfLabel_64
