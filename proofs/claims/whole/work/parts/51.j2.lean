theorem z_subnp {a b : Nat} (h : a ≤ b) (hb : b < 2 ^ 30) : nI a - nI b ≤ 0 := by
  rw [Int32.le_iff_toInt_le, pk_sub_toInt (by omega) hb, Int32.toInt_zero]
  omega
theorem z_subp {a b : Nat} (h : b < a) (ha : a < 2 ^ 30) : ¬ nI a - nI b ≤ 0 := by
  rw [Int32.le_iff_toInt_le, pk_sub_toInt ha (by omega), Int32.toInt_zero]
  omega
theorem z_max18 {a : Nat} (h1 : 16 < a) (h2 : a ≤ 34) : (if nI a - 16 < 18 then (18 : Int32) else nI a - 16) = 18 := by
  have key : ∀ a, a ≤ 34 → 16 < a → (if nI a - 16 < 18 then (18 : Int32) else nI a - 16) = 18 := by decide
  exact key a h2 h1

theorem wsi_J5_ensureCapacityInternal_d00df_J4 : ∀ w ∈ wsJ40, w ∈ wsJ5_ensureCapacityInternal_d00df := fun w h => List.mem_cons_of_mem _ (List.mem_append_right _ h)
set_option maxHeartbeats 4000000 in
set_option maxRecDepth 100000 in
/-- ensureCapacityInternal: there is room -/
theorem c_J5_ensure_n (l : Launch) (G : zG) (sz : Nat) (sb : Nat) (va : Nat) (cn : Nat) (vn : Nat) (vf : Nat → Int32) (mn : Nat) (hmn : mn ≤ vn) (hvn : vn < 2 ^ 30) : Met l yJ5_ensureCapacityInternal_d00df wsJ5_ensureCapacityInternal_d00df { frames := 0, cells := 0, slots := 0, locals := 0 } (zPc G [.ref sb, .int (nI mn)] [(sb, .inr (1, [.ref va, .int 0, .int 0, .int (nI cn)])), (va, .inl (G.2.1 1, vn, .inl vf))] sz) (va_Sv (fun _ => True)) 0 0 (fun _ => False) := by
  refine zOfW (Qc := fun _ => va_Sv (fun _ => True)) (fr := fun _ _ => False) (cc := cJ5_ensureCapacityInternal_d00df) (maxL := 3) (ret := none) (by decide) rfl (Nat.le_of_ble_eq_true rfl) ?_
  intro p e s m below meth c hx hb hml hr hlocks hown hin hts A hP hK hD hE hA hS ls hl
  have hl : lv_has ls 3 [(0, .ref sb), (1, .int (nI mn))] := hl
  have hown : s.vm.findClass RJ5 = some m.cls := hown
  have hP : zP G [(sb, .inr (1, [.ref va, .int 0, .int 0, .int (nI cn)])), (va, .inl (G.2.1 1, vn, .inl vf))] s.heap := hP
  have hD : va_D A [(sb, .inr (1, [.ref va, .int 0, .int 0, .int (nI cn)])), (va, .inl (G.2.1 1, vn, .inl vf))] := hD
  refine lv_aload_n hx hb dJ5_ensureCapacityInternal_d00df_0 rfl (lv_at hl 0 rfl) ?_
  refine va_get (D := G.1) (ci := 1) (v := .ref va) (C := RJ4) (T := TJ4) (N := 4) hx hb hts wsi_J5_ensureCapacityInternal_d00df_J4 hown hK hP 0 rfl rfl 0 (by decide) (hts (.fieldLink "java/lang/AbstractStringBuilder" 15 "java/lang/AbstractStringBuilder" "value" "[B") (List.mem_of_getElem? (i := 1) (by decide +kernel))) (fun _ h9 => h9) rfl dJ5_ensureCapacityInternal_d00df_1 ?_
  refine va_alen (v := nI vn) hx hb hK hP 1 1 rfl rfl rfl dJ5_ensureCapacityInternal_d00df_4 ?_
  refine lv_aload_n hx hb dJ5_ensureCapacityInternal_d00df_5 rfl (lv_at hl 0 rfl) ?_
  refine va_get (D := G.1) (ci := 1) (v := .int 0) (C := RJ4) (T := TJ4) (N := 4) hx hb hts wsi_J5_ensureCapacityInternal_d00df_J4 hown hK hP 0 rfl rfl 1 (by decide) (hts (.fieldLink "java/lang/AbstractStringBuilder" 22 "java/lang/AbstractStringBuilder" "coder" "B") (List.mem_of_getElem? (i := 2) (by decide +kernel))) (fun _ h9 => h9) rfl dJ5_ensureCapacityInternal_d00df_6 ?_
  refine lv_ishr hx hb dJ5_ensureCapacityInternal_d00df_9 ?_
  refine zTop (v := nI vn) (z_shr0 _) ?_
  refine lv_istore_n (lv' := [(2, .int (nI vn)), (0, .ref sb), (1, .int (nI mn))]) hx hb dJ5_ensureCapacityInternal_d00df_10 rfl hl (by decide) rfl (fun ls hl => ?_)
  refine lv_iload_n hx hb dJ5_ensureCapacityInternal_d00df_11 rfl (lv_at hl 2 rfl) ?_
  refine lv_iload_n hx hb dJ5_ensureCapacityInternal_d00df_12 rfl (lv_at hl 0 rfl) ?_
  refine lv_isub hx hb dJ5_ensureCapacityInternal_d00df_13 ?_
  refine lv_if_le (tgt := 38) hx hb dJ5_ensureCapacityInternal_d00df_14 (by decide) (fun c_1 => ?_) (fun c_1 => absurd (z_subnp hmn hvn) c_1)
  exact zRv hx hb hr hlocks rfl rfl (Nat.le_of_ble_eq_true rfl) (Nat.le_of_ble_eq_true rfl) dJ5_ensureCapacityInternal_d00df_38

set_option maxHeartbeats 4000000 in
set_option maxRecDepth 100000 in
/-- newLength -/
theorem c_J8_newLength (l : Launch) (G : zG) (sz : Nat) (gr : Int32) (hgr : (if gr < 18 then (18 : Int32) else gr) = 18) : Met l yJ8_newLength_cabcc wsJ8_newLength_cabcc { frames := 1, cells := 0, slots := 0, locals := 21 } (zPc G [.int 16, .int gr, .int 18] [] sz) (vp_Si (fun z => z = 34)) 0 0 (fun _ => False) := by
  refine zOfW (Qc := fun _ => vp_Si (fun z => z = 34)) (fr := fun _ _ => False) (cc := cJ8_newLength_cabcc) (maxL := 4) (ret := (some .int)) (by decide) rfl (Nat.le_of_ble_eq_true rfl) ?_
  intro p e s m below meth c hx hb hml hr hlocks hown hin hts A hP hK hD hE hA hS ls hl
  have hl : lv_has ls 4 [(0, .int 16), (1, .int gr), (2, .int 18)] := hl
  have hown : s.vm.findClass RJ8 = some m.cls := hown
  refine lv_iload_n hx hb dJ8_newLength_cabcc_0 rfl (lv_at hl 0 rfl) ?_
  refine lv_iload_n hx hb dJ8_newLength_cabcc_1 rfl (lv_at hl 1 rfl) ?_
  refine lv_iload_n hx hb dJ8_newLength_cabcc_2 rfl (lv_at hl 2 rfl) ?_
  refine va_mmax hx hb (by rw [hml]; exact hl.1.symm) hown (hts (.methodLink "jdk/internal/util/ArraysSupport" 194 ⟨"java/lang/Math","max","(II)I"⟩) (List.mem_of_getElem? (i := 1) (by decide +kernel))) (hts (.static Lib.Math.max.name) (List.mem_of_getElem? (i := 2) (by decide +kernel))) (hts (.initialized "java/lang/Math") (List.mem_of_getElem? (i := 3) (by decide +kernel))) (hts (.code Lib.Math.max.name Lib.Math.max.code 2 (some .int)) (List.mem_of_getElem? (i := 4) (by decide +kernel))) (Nat.le_of_ble_eq_true rfl) (Nat.le_of_ble_eq_true rfl) (Nat.le_of_ble_eq_true rfl) (Nat.le_of_ble_eq_true rfl) dJ8_newLength_cabcc_3 ?_
  refine zTop (v := 18) hgr ?_
  refine lv_iadd hx hb dJ8_newLength_cabcc_6 ?_
  refine zTop (v := 34) (by decide) ?_
  refine lv_istore_n (lv' := [(3, .int 34), (0, .int 16), (1, .int gr), (2, .int 18)]) hx hb dJ8_newLength_cabcc_7 rfl hl (by decide) rfl (fun ls hl => ?_)
  refine lv_iconst (v := 0) hx hb dJ8_newLength_cabcc_8 (by decide) ?_
  refine lv_iload_n hx hb dJ8_newLength_cabcc_9 rfl (lv_at hl 0 rfl) ?_
  refine lv_icmp_ge (tgt := 21) hx hb dJ8_newLength_cabcc_10 (by decide) (fun c_1 => absurd c_1 (by decide)) (fun c_1 => ?_)
  refine lv_iload_n hx hb dJ8_newLength_cabcc_13 rfl (lv_at hl 0 rfl) ?_
  refine lv_ldc (v := 2147483639) hx hb hown (hts (.constant "jdk/internal/util/ArraysSupport" 200 (2147483639)) (List.mem_of_getElem? (i := 5) (by decide +kernel))) dJ8_newLength_cabcc_14 ?_
  refine lv_icmp_gt (tgt := 21) hx hb dJ8_newLength_cabcc_16 (by decide) (fun c_2 => absurd c_2 (by decide)) (fun c_2 => ?_)
  refine lv_iload_n hx hb dJ8_newLength_cabcc_19 rfl (lv_at hl 0 rfl) ?_
  exact zRi hx hb hr hlocks rfl rfl rfl rfl (Nat.le_of_ble_eq_true rfl) (Nat.le_of_ble_eq_true rfl) dJ8_newLength_cabcc_20

theorem wsi_J5_newCapacity_0f7a4_J4 : ∀ w ∈ wsJ40, w ∈ wsJ5_newCapacity_0f7a4 := fun w h => List.mem_cons_of_mem _ (List.mem_append_right _ h)
set_option maxHeartbeats 4000000 in
set_option maxRecDepth 100000 in
/-- newCapacity -/
theorem c_J5_newCapacity (l : Launch) (G : zG) (sz : Nat) (sb : Nat) (va : Nat) (cn : Nat) (vf : Nat → Int32) (mn : Nat) (hm1 : 16 < mn) (hm2 : mn ≤ 34) : Met l yJ5_newCapacity_0f7a4 wsJ5_newCapacity_0f7a4 { frames := 2, cells := 0, slots := 0, locals := 44 } (zPc G [.ref sb, .int (nI mn)] [(sb, .inr (1, [.ref va, .int 0, .int 0, .int (nI cn)])), (va, .inl (G.2.1 1, 16, .inl vf))] sz) (vp_Si (fun z => z = 34)) 0 0 (fun _ => False) := by
  refine zOfW (Qc := fun _ => vp_Si (fun z => z = 34)) (fr := fun _ _ => False) (cc := cJ5_newCapacity_0f7a4) (maxL := 6) (ret := (some .int)) (by decide) rfl (Nat.le_of_ble_eq_true rfl) ?_
  intro p e s m below meth c hx hb hml hr hlocks hown hin hts A hP hK hD hE hA hS ls hl
  have hl : lv_has ls 6 [(0, .ref sb), (1, .int (nI mn))] := hl
  have hown : s.vm.findClass RJ5 = some m.cls := hown
  have hP : zP G [(sb, .inr (1, [.ref va, .int 0, .int 0, .int (nI cn)])), (va, .inl (G.2.1 1, 16, .inl vf))] s.heap := hP
  have hD : va_D A [(sb, .inr (1, [.ref va, .int 0, .int 0, .int (nI cn)])), (va, .inl (G.2.1 1, 16, .inl vf))] := hD
  refine lv_aload_n hx hb dJ5_newCapacity_0f7a4_0 rfl (lv_at hl 0 rfl) ?_
  refine va_get (D := G.1) (ci := 1) (v := .ref va) (C := RJ4) (T := TJ4) (N := 4) hx hb hts wsi_J5_newCapacity_0f7a4_J4 hown hK hP 0 rfl rfl 0 (by decide) (hts (.fieldLink "java/lang/AbstractStringBuilder" 15 "java/lang/AbstractStringBuilder" "value" "[B") (List.mem_of_getElem? (i := 1) (by decide +kernel))) (fun _ h9 => h9) rfl dJ5_newCapacity_0f7a4_1 ?_
  refine va_alen (v := 16) hx hb hK hP 1 1 rfl rfl rfl dJ5_newCapacity_0f7a4_4 ?_
  refine lv_istore_n (lv' := [(2, .int 16), (0, .ref sb), (1, .int (nI mn))]) hx hb dJ5_newCapacity_0f7a4_5 rfl hl (by decide) rfl (fun ls hl => ?_)
  refine lv_iload_n hx hb dJ5_newCapacity_0f7a4_6 rfl (lv_at hl 2 rfl) ?_
  refine lv_aload_n hx hb dJ5_newCapacity_0f7a4_7 rfl (lv_at hl 1 rfl) ?_
  refine va_get (D := G.1) (ci := 1) (v := .int 0) (C := RJ4) (T := TJ4) (N := 4) hx hb hts wsi_J5_newCapacity_0f7a4_J4 hown hK hP 0 rfl rfl 1 (by decide) (hts (.fieldLink "java/lang/AbstractStringBuilder" 22 "java/lang/AbstractStringBuilder" "coder" "B") (List.mem_of_getElem? (i := 2) (by decide +kernel))) (fun _ h9 => h9) rfl dJ5_newCapacity_0f7a4_8 ?_
  refine lv_ishl hx hb dJ5_newCapacity_0f7a4_11 ?_
  refine zTop (v := nI mn) (z_shl0 _) ?_
  refine lv_istore_n (lv' := [(3, .int (nI mn)), (2, .int 16), (0, .ref sb), (1, .int (nI mn))]) hx hb dJ5_newCapacity_0f7a4_12 rfl hl (by decide) rfl (fun ls hl => ?_)
  refine lv_iload_n hx hb dJ5_newCapacity_0f7a4_13 rfl (lv_at hl 0 rfl) ?_
  refine lv_iload_n hx hb dJ5_newCapacity_0f7a4_14 rfl (lv_at hl 1 rfl) ?_
  refine lv_isub hx hb dJ5_newCapacity_0f7a4_15 ?_
  refine lv_istore (lv' := [(4, .int ((nI mn) - 16)), (3, .int (nI mn)), (2, .int 16), (0, .ref sb), (1, .int (nI mn))]) hx hb dJ5_newCapacity_0f7a4_16 hl (by decide) rfl (fun ls hl => ?_)
  refine lv_iload_n hx hb dJ5_newCapacity_0f7a4_18 rfl (lv_at hl 2 rfl) ?_
  refine lv_iload hx hb dJ5_newCapacity_0f7a4_19 (lv_at hl 0 rfl) ?_
  refine lv_iload_n hx hb dJ5_newCapacity_0f7a4_21 rfl (lv_at hl 2 rfl) ?_
  refine lv_iconst (v := 2) hx hb dJ5_newCapacity_0f7a4_22 (by decide) ?_
  refine lv_aload_n hx hb dJ5_newCapacity_0f7a4_23 rfl (lv_at hl 3 rfl) ?_
  refine va_get (D := G.1) (ci := 1) (v := .int 0) (C := RJ4) (T := TJ4) (N := 4) hx hb hts wsi_J5_newCapacity_0f7a4_J4 hown hK hP 0 rfl rfl 1 (by decide) (hts (.fieldLink "java/lang/AbstractStringBuilder" 22 "java/lang/AbstractStringBuilder" "coder" "B") (List.mem_of_getElem? (i := 2) (by decide +kernel))) (fun _ h9 => h9) rfl dJ5_newCapacity_0f7a4_24 ?_
  refine lv_ishl hx hb dJ5_newCapacity_0f7a4_27 ?_
  refine zTop (v := 2) (z_shl0 _) ?_
  refine lv_iadd hx hb dJ5_newCapacity_0f7a4_28 ?_
  refine zTop (v := 18) (by decide) ?_
  refine zCi (r := 34) (va_runS (As := [.int 16, .int ((nI mn) - 16), .int 18]) (rest := []) ⟨hx, hb, hml, hown, hts⟩ (c_J8_newLength l G s.heap.size ((nI mn) - 16) (z_max18 hm1 hm2)) (va_cwS 3 hts gJ5_newCapacity_0f7a4_J8_newLength_cabcc rfl rfl rfl (by decide +kernel) ⟨(Nat.le_of_ble_eq_true rfl), (Nat.le_of_ble_eq_true rfl)⟩) (zPreS hE hS hA hP hD hK (z_pick (n := 2) [] [0, 1] rfl (by decide) rfl rfl)) rfl rfl hl.1 rfl (lv_room (Nat.le_of_ble_eq_true rfl)) dJ5_newCapacity_0f7a4_29 ⟨(Nat.le_of_ble_eq_true rfl), (Nat.le_of_ble_eq_true rfl)⟩).run ?_
  refine lv_istore (lv' := [(5, .int 34), (4, .int ((nI mn) - 16)), (3, .int (nI mn)), (2, .int 16), (0, .ref sb), (1, .int (nI mn))]) hx hb dJ5_newCapacity_0f7a4_32 hl (by decide) rfl (fun ls hl => ?_)
  refine lv_iload hx hb dJ5_newCapacity_0f7a4_34 (lv_at hl 0 rfl) ?_
  refine lv_ldc (v := 2147483647) hx hb hown (hts (.constant "java/lang/AbstractStringBuilder" 39 (2147483647)) (List.mem_of_getElem? (i := 3) (by decide +kernel))) dJ5_newCapacity_0f7a4_36 ?_
  refine lv_icmp_ne (tgt := 51) hx hb dJ5_newCapacity_0f7a4_38 (by decide) (fun c_1 => ?_) (fun c_1 => absurd c_1 (by decide))
  refine lv_iload hx hb dJ5_newCapacity_0f7a4_51 (lv_at hl 0 rfl) ?_
  refine lv_aload_n hx hb dJ5_newCapacity_0f7a4_53 rfl (lv_at hl 4 rfl) ?_
  refine va_get (D := G.1) (ci := 1) (v := .int 0) (C := RJ4) (T := TJ4) (N := 4) hx hb hts wsi_J5_newCapacity_0f7a4_J4 hown hK hP 0 rfl rfl 1 (by decide) (hts (.fieldLink "java/lang/AbstractStringBuilder" 22 "java/lang/AbstractStringBuilder" "coder" "B") (List.mem_of_getElem? (i := 2) (by decide +kernel))) (fun _ h9 => h9) rfl dJ5_newCapacity_0f7a4_54 ?_
  refine lv_ishr hx hb dJ5_newCapacity_0f7a4_57 ?_
  refine zTop (v := 34) (z_shr0 _) ?_
  exact zRi hx hb hr hlocks rfl rfl rfl rfl (Nat.le_of_ble_eq_true rfl) (Nat.le_of_ble_eq_true rfl) dJ5_newCapacity_0f7a4_58

set_option maxHeartbeats 4000000 in
set_option maxRecDepth 100000 in
/-- Arrays.copyOf -/
theorem c_J7_copyOf (l : Launch) (G : zG) (sz : Nat) (va : Nat) (vf : Nat → Int32) (hfv : zFit vf) : Met l yJ7_copyOf_9075b wsJ7_copyOf_9075b { frames := 1, cells := 1, slots := 34, locals := 26 } (zPc G [.ref va, .int 34] [(va, .inl (G.2.1 1, 16, .inl vf))] sz) (zQr G (fun (u : Nat) => True) (fun u => [(u, .inl (G.2.1 1, 34, .inl (va_cpy vf (fun _ => 0) 0 0 16)))]) (fun u => u) (va_A [(va, .inl (G.2.1 1, 16, .inl vf))] sz)) 1 34 (va_A [(va, .inl (G.2.1 1, 16, .inl vf))] sz) := by
  refine zOfW (Qc := fun A => zQr G (fun (u : Nat) => True) (fun u => [(u, .inl (G.2.1 1, 34, .inl (va_cpy vf (fun _ => 0) 0 0 16)))]) (fun u => u) A) (fr := fun A => A) (cc := cJ7_copyOf_9075b) (maxL := 3) (ret := (some (.array .byte))) (by decide) rfl (Nat.le_of_ble_eq_true rfl) ?_
  intro p e s m below meth c hx hb hml hr hlocks hown hin hts A hP hK hD hE hA hS ls hl
  have hl : lv_has ls 3 [(0, .ref va), (1, .int 34)] := hl
  have hown : s.vm.findClass RJ7 = some m.cls := hown
  have hP : zP G [(va, .inl (G.2.1 1, 16, .inl vf))] s.heap := hP
  have hD : va_D A [(va, .inl (G.2.1 1, 16, .inl vf))] := hD
  refine lv_iload_n hx hb dJ7_copyOf_9075b_0 rfl (lv_at hl 1 rfl) ?_
  refine lv_aload_n hx hb dJ7_copyOf_9075b_1 rfl (lv_at hl 0 rfl) ?_
  refine va_alen (v := 16) hx hb hK hP 0 1 rfl rfl rfl dJ7_copyOf_9075b_2 ?_
  refine lv_icmp_ne (tgt := 14) hx hb dJ7_copyOf_9075b_3 (by decide) (fun c_1 => ?_) (fun c_1 => absurd c_1 (by decide))
  refine lv_iload_n hx hb dJ7_copyOf_9075b_14 rfl (lv_at hl 1 rfl) ?_
  refine zNewb (N := 34) hx hb (hts (.arrayClass .byte) (List.mem_of_getElem? (i := 7) (by decide +kernel))) hK hP hD hS hA (by decide) (by decide) (by decide) (Nat.le_of_ble_eq_true rfl) (Nat.le_of_ble_eq_true rfl) dJ7_copyOf_9075b_15 (fun q_2 H hP hD hS => ?_)
  have hP : zP G [(va, .inl (G.2.1 1, 16, .inl vf)), (q_2, .inl (G.2.1 1, 34, .inl (fun _ => 0)))] H := hP
  have hD : va_D A [(va, .inl (G.2.1 1, 16, .inl vf)), (q_2, .inl (G.2.1 1, 34, .inl (fun _ => 0)))] := hD
  refine lv_astore_n (lv' := [(2, .ref q_2), (0, .ref va), (1, .int 34)]) hx hb dJ7_copyOf_9075b_17 rfl hl (by decide) rfl (fun ls hl => ?_)
  refine lv_aload_n hx hb dJ7_copyOf_9075b_18 rfl (lv_at hl 1 rfl) ?_
  refine lv_iconst (v := 0) hx hb dJ7_copyOf_9075b_19 (by decide) ?_
  refine lv_aload_n hx hb dJ7_copyOf_9075b_20 rfl (lv_at hl 0 rfl) ?_
  refine lv_iconst (v := 0) hx hb dJ7_copyOf_9075b_21 (by decide) ?_
  refine lv_aload_n hx hb dJ7_copyOf_9075b_22 rfl (lv_at hl 1 rfl) ?_
  refine va_alen (v := 16) hx hb hK hP 0 1 rfl rfl rfl dJ7_copyOf_9075b_23 ?_
  refine lv_iload_n hx hb dJ7_copyOf_9075b_24 rfl (lv_at hl 2 rfl) ?_
  refine va_mmin hx hb (by rw [hml]; exact hl.1.symm) hown (hts (.methodLink "java/util/Arrays" 304 ⟨"java/lang/Math","min","(II)I"⟩) (List.mem_of_getElem? (i := 8) (by decide +kernel))) (hts (.static Lib.Math.min.name) (List.mem_of_getElem? (i := 9) (by decide +kernel))) (hts (.initialized "java/lang/Math") (List.mem_of_getElem? (i := 10) (by decide +kernel))) (hts (.code Lib.Math.min.name Lib.Math.min.code 2 (some .int)) (List.mem_of_getElem? (i := 11) (by decide +kernel))) (Nat.le_of_ble_eq_true rfl) (Nat.le_of_ble_eq_true rfl) (Nat.le_of_ble_eq_true rfl) (Nat.le_of_ble_eq_true rfl) dJ7_copyOf_9075b_25 ?_
  refine zTop (v := 16) (by decide) ?_
  refine zCopyB hx hb (by rw [hml]; exact hl.1.symm) hown (hts (.methodLink "java/util/Arrays" 150 ⟨"java/lang/System","arraycopy","(Ljava/lang/Object;ILjava/lang/Object;II)V"⟩) (List.mem_of_getElem? (i := 12) (by decide +kernel))) (hts (.native arraycopyName) (List.mem_of_getElem? (i := 13) (by decide +kernel))) (hts (.static arraycopyName) (List.mem_of_getElem? (i := 14) (by decide +kernel))) (hts (.initialized "java/lang/System") (List.mem_of_getElem? (i := 15) (by decide +kernel))) hK hP hD hS 0 1 rfl rfl (a0 := 0) (b0 := 0) (k0 := 16) rfl rfl rfl (by decide) (by decide) (fun i _ => hfv _) (Nat.le_of_ble_eq_true rfl) (Nat.le_of_ble_eq_true rfl) dJ7_copyOf_9075b_28 (fun H locs hP hD hS => ?_)
  have hP : zP G [(va, .inl (G.2.1 1, 16, .inl vf)), (q_2, .inl (G.2.1 1, 34, .inl (va_cpy vf (fun _ => 0) 0 0 16)))] H := hP
  have hD : va_D A [(va, .inl (G.2.1 1, 16, .inl vf)), (q_2, .inl (G.2.1 1, 34, .inl (va_cpy vf (fun _ => 0) 0 0 16)))] := hD
  refine lv_aload_n hx hb dJ7_copyOf_9075b_31 rfl (lv_at hl 0 rfl) ?_
  exact zWr (q_2) hx hb hr hlocks (Or.inr ⟨_, rfl⟩) trivial hP hD hK hS (z_pick (n := 2) [1] [0] rfl (by decide) rfl rfl) (Nat.le_of_ble_eq_true rfl) (Nat.le_of_ble_eq_true rfl) dJ7_copyOf_9075b_32

set_option maxHeartbeats 4000000 in
set_option maxRecDepth 100000 in
/-- ensureCapacityInternal: it grows -/
theorem c_J5_ensure_g (l : Launch) (G : zG) (sz : Nat) (sb : Nat) (va : Nat) (cn : Nat) (vf : Nat → Int32) (hfv : zFit vf) (mn : Nat) (hm1 : 16 < mn) (hm2 : mn ≤ 34) : Met l yJ5_ensureCapacityInternal_d00df wsJ5_ensureCapacityInternal_d00df { frames := 3, cells := 1, slots := 34, locals := 69 } (zPc G [.ref sb, .int (nI mn)] [(sb, .inr (1, [.ref va, .int 0, .int 0, .int (nI cn)])), (va, .inl (G.2.1 1, 16, .inl vf))] sz) (zQv G (fun (u : Nat) => True) (fun u => [(sb, .inr (1, [.ref u, .int 0, .int 0, .int (nI cn)])), (u, .inl (G.2.1 1, 34, .inl (va_cpy vf (fun _ => 0) 0 0 16)))]) (va_A [(sb, .inr (1, [.ref va, .int 0, .int 0, .int (nI cn)])), (va, .inl (G.2.1 1, 16, .inl vf))] sz)) 1 34 (va_A [(sb, .inr (1, [.ref va, .int 0, .int 0, .int (nI cn)])), (va, .inl (G.2.1 1, 16, .inl vf))] sz) := by
  refine zOfW (Qc := fun A => zQv G (fun (u : Nat) => True) (fun u => [(sb, .inr (1, [.ref u, .int 0, .int 0, .int (nI cn)])), (u, .inl (G.2.1 1, 34, .inl (va_cpy vf (fun _ => 0) 0 0 16)))]) A) (fr := fun A => A) (cc := cJ5_ensureCapacityInternal_d00df) (maxL := 3) (ret := none) (by decide) rfl (Nat.le_of_ble_eq_true rfl) ?_
  intro p e s m below meth c hx hb hml hr hlocks hown hin hts A hP hK hD hE hA hS ls hl
  have hl : lv_has ls 3 [(0, .ref sb), (1, .int (nI mn))] := hl
  have hown : s.vm.findClass RJ5 = some m.cls := hown
  have hP : zP G [(sb, .inr (1, [.ref va, .int 0, .int 0, .int (nI cn)])), (va, .inl (G.2.1 1, 16, .inl vf))] s.heap := hP
  have hD : va_D A [(sb, .inr (1, [.ref va, .int 0, .int 0, .int (nI cn)])), (va, .inl (G.2.1 1, 16, .inl vf))] := hD
  refine lv_aload_n hx hb dJ5_ensureCapacityInternal_d00df_0 rfl (lv_at hl 0 rfl) ?_
  refine va_get (D := G.1) (ci := 1) (v := .ref va) (C := RJ4) (T := TJ4) (N := 4) hx hb hts wsi_J5_ensureCapacityInternal_d00df_J4 hown hK hP 0 rfl rfl 0 (by decide) (hts (.fieldLink "java/lang/AbstractStringBuilder" 15 "java/lang/AbstractStringBuilder" "value" "[B") (List.mem_of_getElem? (i := 1) (by decide +kernel))) (fun _ h9 => h9) rfl dJ5_ensureCapacityInternal_d00df_1 ?_
  refine va_alen (v := 16) hx hb hK hP 1 1 rfl rfl rfl dJ5_ensureCapacityInternal_d00df_4 ?_
  refine lv_aload_n hx hb dJ5_ensureCapacityInternal_d00df_5 rfl (lv_at hl 0 rfl) ?_
  refine va_get (D := G.1) (ci := 1) (v := .int 0) (C := RJ4) (T := TJ4) (N := 4) hx hb hts wsi_J5_ensureCapacityInternal_d00df_J4 hown hK hP 0 rfl rfl 1 (by decide) (hts (.fieldLink "java/lang/AbstractStringBuilder" 22 "java/lang/AbstractStringBuilder" "coder" "B") (List.mem_of_getElem? (i := 2) (by decide +kernel))) (fun _ h9 => h9) rfl dJ5_ensureCapacityInternal_d00df_6 ?_
  refine lv_ishr hx hb dJ5_ensureCapacityInternal_d00df_9 ?_
  refine zTop (v := 16) (z_shr0 _) ?_
  refine lv_istore_n (lv' := [(2, .int 16), (0, .ref sb), (1, .int (nI mn))]) hx hb dJ5_ensureCapacityInternal_d00df_10 rfl hl (by decide) rfl (fun ls hl => ?_)
  refine lv_iload_n hx hb dJ5_ensureCapacityInternal_d00df_11 rfl (lv_at hl 2 rfl) ?_
  refine lv_iload_n hx hb dJ5_ensureCapacityInternal_d00df_12 rfl (lv_at hl 0 rfl) ?_
  refine lv_isub hx hb dJ5_ensureCapacityInternal_d00df_13 ?_
  refine lv_if_le (tgt := 38) hx hb dJ5_ensureCapacityInternal_d00df_14 (by decide) (fun c_1 => absurd c_1 (z_subp (b := 16) hm1 (by omega))) (fun c_1 => ?_)
  refine lv_aload_n hx hb dJ5_ensureCapacityInternal_d00df_17 rfl (lv_at hl 1 rfl) ?_
  refine lv_aload_n hx hb dJ5_ensureCapacityInternal_d00df_18 rfl (lv_at hl 1 rfl) ?_
  refine va_get (D := G.1) (ci := 1) (v := .ref va) (C := RJ4) (T := TJ4) (N := 4) hx hb hts wsi_J5_ensureCapacityInternal_d00df_J4 hown hK hP 0 rfl rfl 0 (by decide) (hts (.fieldLink "java/lang/AbstractStringBuilder" 15 "java/lang/AbstractStringBuilder" "value" "[B") (List.mem_of_getElem? (i := 1) (by decide +kernel))) (fun _ h9 => h9) rfl dJ5_ensureCapacityInternal_d00df_19 ?_
  refine lv_aload_n hx hb dJ5_ensureCapacityInternal_d00df_22 rfl (lv_at hl 1 rfl) ?_
  refine lv_iload_n hx hb dJ5_ensureCapacityInternal_d00df_23 rfl (lv_at hl 2 rfl) ?_
  refine zCi (r := 34) (va_runU (As := [.int (nI mn)]) (rest := [.ref va, .ref sb]) ⟨hx, hb, hml, hown, hts⟩ (c_J5_newCapacity l G s.heap.size sb va cn vf mn (by assumption) (by assumption)) (va_cwU 1 hts gJ5_ensureCapacityInternal_d00df_J5_newCapacity_0f7a4_u104J4 rfl rfl rfl rfl (by decide +kernel) ⟨(Nat.le_of_ble_eq_true rfl), (Nat.le_of_ble_eq_true rfl)⟩) (zPreV hE hS hA hP hD hK (z_pick (n := 2) [0, 1] [] rfl (by decide) rfl rfl) (va_recv hK hP (ci := 1) (q0 := 0) rfl rfl)) rfl rfl hl.1 rfl (lv_room (Nat.le_of_ble_eq_true rfl)) dJ5_ensureCapacityInternal_d00df_24 ⟨(Nat.le_of_ble_eq_true rfl), (Nat.le_of_ble_eq_true rfl)⟩).run ?_
  refine lv_aload_n hx hb dJ5_ensureCapacityInternal_d00df_27 rfl (lv_at hl 1 rfl) ?_
  refine va_get (D := G.1) (ci := 1) (v := .int 0) (C := RJ4) (T := TJ4) (N := 4) hx hb hts wsi_J5_ensureCapacityInternal_d00df_J4 hown hK hP 0 rfl rfl 1 (by decide) (hts (.fieldLink "java/lang/AbstractStringBuilder" 22 "java/lang/AbstractStringBuilder" "coder" "B") (List.mem_of_getElem? (i := 2) (by decide +kernel))) (fun _ h9 => h9) rfl dJ5_ensureCapacityInternal_d00df_28 ?_
  refine lv_ishl hx hb dJ5_ensureCapacityInternal_d00df_31 ?_
  refine zTop (v := 34) (z_shl0 _) ?_
  refine zDr (wr := [(sb, .inr (1, [.ref va, .int 0, .int 0, .int (nI cn)]))]) (va_runS (As := [.ref va, .int 34]) (rest := [.ref sb]) ⟨hx, hb, hml, hown, hts⟩ (c_J7_copyOf l G s.heap.size va vf (by assumption)) (va_cwS 2 hts gJ5_ensureCapacityInternal_d00df_J7_copyOf_9075b rfl rfl rfl (by decide +kernel) ⟨(Nat.le_of_ble_eq_true rfl), (Nat.le_of_ble_eq_true rfl)⟩) (zPreS hE hS hA hP hD hK (z_pick (n := 2) [1] [0] rfl (by decide) rfl rfl)) rfl rfl hl.1 rfl (lv_room (Nat.le_of_ble_eq_true rfl)) dJ5_ensureCapacityInternal_d00df_32 ⟨(Nat.le_of_ble_eq_true rfl), (Nat.le_of_ble_eq_true rfl)⟩) hP hD hS hA (z_pick (n := 2) [1] [0] rfl (by decide) rfl rfl) (fun u_2 H locs hp_3 hP hD hS => ?_)
  obtain ⟨nv_0, rfl⟩ : ∃ z, z = u_2 := ⟨_, rfl⟩
  have hP : zP G [(nv_0, .inl (G.2.1 1, 34, .inl (va_cpy vf (fun _ => 0) 0 0 16))), (sb, .inr (1, [.ref va, .int 0, .int 0, .int (nI cn)]))] H := hP
  have hD : va_D A [(nv_0, .inl (G.2.1 1, 34, .inl (va_cpy vf (fun _ => 0) 0 0 16))), (sb, .inr (1, [.ref va, .int 0, .int 0, .int (nI cn)]))] := hD
  refine va_put (D := G.1) (ci := 1) (v := .ref nv_0) (ty := .array .byte) (C := RJ4) (T := TJ4) (N := 4) hx hb hts wsi_J5_ensureCapacityInternal_d00df_J4 tyJ4 tyJ4_ok nmJ4 hown hK hP hD hS 1 rfl rfl 0 (by decide) (hts (.fieldLink "java/lang/AbstractStringBuilder" 15 "java/lang/AbstractStringBuilder" "value" "[B") (List.mem_of_getElem? (i := 1) (by decide +kernel))) (fun _ h9 => h9) rfl (by decide +kernel) rfl rfl (Nat.le_of_ble_eq_true rfl) dJ5_ensureCapacityInternal_d00df_35 (fun H locs hP hD hS => ?_)
  have hP : zP G [(nv_0, .inl (G.2.1 1, 34, .inl (va_cpy vf (fun _ => 0) 0 0 16))), (sb, .inr (1, [.ref nv_0, .int 0, .int 0, .int (nI cn)]))] H := hP
  have hD : va_D A [(nv_0, .inl (G.2.1 1, 34, .inl (va_cpy vf (fun _ => 0) 0 0 16))), (sb, .inr (1, [.ref nv_0, .int 0, .int 0, .int (nI cn)]))] := hD
  exact zWv (nv_0) hx hb hr hlocks trivial hP hD hK hS (z_pick (n := 2) [1, 0] [] rfl (by decide) rfl rfl) (Nat.le_of_ble_eq_true rfl) (Nat.le_of_ble_eq_true rfl) dJ5_ensureCapacityInternal_d00df_38

theorem wsi_J5_append_cf1ce_J4 : ∀ w ∈ wsJ40, w ∈ wsJ5_append_cf1ce := fun w h => List.mem_cons_of_mem _ (List.mem_append_left _ (List.mem_append_right _ h))
set_option maxHeartbeats 4000000 in
set_option maxRecDepth 100000 in
/-- append of a constant: there is room -/
theorem c_J5_append_n (l : Launch) (G : zG) (sz : Nat) (sb : Nat) (va : Nat) (cn : Nat) (vn : Nat) (vf : Nat → Int32) (li : Nat) (hll : li < 4) (ln : Nat) (hln : zsl.getD li 0 = ln) (hcn : cn + ln ≤ vn) (hvn : vn < 2 ^ 30) : Met l yJ5_append_cf1ce wsJ5_append_cf1ce { frames := 3, cells := 0, slots := 0, locals := 71 } (zPc G [.ref sb, .ref (G.2.2 (10 + li))] [(sb, .inr (1, [.ref va, .int 0, .int 0, .int (nI cn)])), (va, .inl (G.2.1 1, vn, .inl vf))] sz) (zQr G (fun (u : Unit) => True) (fun u => [(sb, .inr (1, [.ref va, .int 0, .int 0, .int (nI (cn + ln))])), (va, .inl (G.2.1 1, vn, .inl (va_cpy (zL li) vf 0 cn ln)))]) (fun u => sb) (va_A [(sb, .inr (1, [.ref va, .int 0, .int 0, .int (nI cn)])), (va, .inl (G.2.1 1, vn, .inl vf))] sz)) 0 0 (va_A [(sb, .inr (1, [.ref va, .int 0, .int 0, .int (nI cn)])), (va, .inl (G.2.1 1, vn, .inl vf))] sz) := by
  refine zOfW (Qc := fun A => zQr G (fun (u : Unit) => True) (fun u => [(sb, .inr (1, [.ref va, .int 0, .int 0, .int (nI (cn + ln))])), (va, .inl (G.2.1 1, vn, .inl (va_cpy (zL li) vf 0 cn ln)))]) (fun u => sb) A) (fr := fun A => A) (cc := cJ5_append_cf1ce) (maxL := 3) (ret := (some (.object "java/lang/AbstractStringBuilder"))) (by decide) rfl (Nat.le_of_ble_eq_true rfl) ?_
  intro p e s m below meth c hx hb hml hr hlocks hown hin hts A hP hK hD hE hA hS ls hl
  have hl : lv_has ls 3 [(0, .ref sb), (1, .ref (G.2.2 (10 + li)))] := hl
  have hown : s.vm.findClass RJ5 = some m.cls := hown
  have hP : zP G [(sb, .inr (1, [.ref va, .int 0, .int 0, .int (nI cn)])), (va, .inl (G.2.1 1, vn, .inl vf))] s.heap := hP
  have hD : va_D A [(sb, .inr (1, [.ref va, .int 0, .int 0, .int (nI cn)])), (va, .inl (G.2.1 1, vn, .inl vf))] := hD
  refine lv_aload_n hx hb dJ5_append_cf1ce_0 rfl (lv_at hl 1 rfl) ?_
  refine lv_ifnonnull (tgt := 9) hx hb dJ5_append_cf1ce_1 (by decide) ?_
  refine lv_aload_n hx hb dJ5_append_cf1ce_9 rfl (lv_at hl 1 rfl) ?_
  refine zCi (r := nI ln) (va_runV (As := []) (rest := []) ⟨hx, hb, hml, hown, hts⟩ (c_J0_length_L l G s.heap.size li hll ln hln) (cwV 0 hts gJ5_append_cf1ce_J0_length_8abf5 rfl rfl rfl (by decide +kernel) ⟨(Nat.le_of_ble_eq_true rfl), (Nat.le_of_ble_eq_true rfl)⟩) (zPreV hE hS hA hP hD hK (z_pick (n := 2) [] [0, 1] rfl (by decide) rfl rfl) (vk_recv hE.2.2.2.2.2.2.2.2.2.2.2.2.1 (i := li) hll hS)) rfl rfl hl.1 rfl (lv_room (Nat.le_of_ble_eq_true rfl)) dJ5_append_cf1ce_10 ⟨(Nat.le_of_ble_eq_true rfl), (Nat.le_of_ble_eq_true rfl)⟩).run ?_
  refine lv_istore_n (lv' := [(2, .int (nI ln)), (0, .ref sb), (1, .ref (G.2.2 (10 + li)))]) hx hb dJ5_append_cf1ce_13 rfl hl (by decide) rfl (fun ls hl => ?_)
  refine lv_aload_n hx hb dJ5_append_cf1ce_14 rfl (lv_at hl 1 rfl) ?_
  refine lv_aload_n hx hb dJ5_append_cf1ce_15 rfl (lv_at hl 1 rfl) ?_
  refine va_get (D := G.1) (ci := 1) (v := .int (nI cn)) (C := RJ4) (T := TJ4) (N := 4) hx hb hts wsi_J5_append_cf1ce_J4 hown hK hP 0 rfl rfl 3 (by decide) (hts (.fieldLink "java/lang/AbstractStringBuilder" 79 "java/lang/AbstractStringBuilder" "count" "I") (List.mem_of_getElem? (i := 1) (by decide +kernel))) (fun _ h9 => h9) rfl dJ5_append_cf1ce_16 ?_
  refine lv_iload_n hx hb dJ5_append_cf1ce_19 rfl (lv_at hl 0 rfl) ?_
  refine lv_iadd hx hb dJ5_append_cf1ce_20 ?_
  refine zTop (v := nI (cn + ln)) (show ((nI cn) + (nI ln) : Int32) = nI (cn + ln) from nI_add cn ln) ?_
  refine zCv (va_runU (As := [.int (nI (cn + ln))]) (rest := []) ⟨hx, hb, hml, hown, hts⟩ (c_J5_ensure_n l G s.heap.size sb va cn vn vf (cn + ln) hcn hvn) (va_cwU 1 hts gJ5_append_cf1ce_J5_ensureCapacityInternal_d00df_u100J4 rfl rfl rfl rfl (by decide +kernel) ⟨(Nat.le_of_ble_eq_true rfl), (Nat.le_of_ble_eq_true rfl)⟩) (zPreV hE hS hA hP hD hK (z_pick (n := 2) [0, 1] [] rfl (by decide) rfl rfl) (va_recv hK hP (ci := 1) (q0 := 0) rfl rfl)) rfl rfl hl.1 rfl (lv_room (Nat.le_of_ble_eq_true rfl)) dJ5_append_cf1ce_21 ⟨(Nat.le_of_ble_eq_true rfl), (Nat.le_of_ble_eq_true rfl)⟩).run ?_
  refine lv_aload_n hx hb dJ5_append_cf1ce_24 rfl (lv_at hl 1 rfl) ?_
  refine lv_aload_n hx hb dJ5_append_cf1ce_25 rfl (lv_at hl 1 rfl) ?_
  refine va_get (D := G.1) (ci := 1) (v := .int (nI cn)) (C := RJ4) (T := TJ4) (N := 4) hx hb hts wsi_J5_append_cf1ce_J4 hown hK hP 0 rfl rfl 3 (by decide) (hts (.fieldLink "java/lang/AbstractStringBuilder" 79 "java/lang/AbstractStringBuilder" "count" "I") (List.mem_of_getElem? (i := 1) (by decide +kernel))) (fun _ h9 => h9) rfl dJ5_append_cf1ce_26 ?_
  refine lv_aload_n hx hb dJ5_append_cf1ce_29 rfl (lv_at hl 2 rfl) ?_
  refine zDv (wr := []) (va_runU (As := [.int (nI cn), .ref (G.2.2 (10 + li))]) (rest := []) ⟨hx, hb, hml, hown, hts⟩ (c_J5_putString_L l G s.heap.size sb va cn vn vf li hll ln hln hcn hvn) (va_cwU 2 hts gJ5_append_cf1ce_J5_putStringAt_47b60_u208J4 rfl rfl rfl rfl (by decide +kernel) ⟨(Nat.le_of_ble_eq_true rfl), (Nat.le_of_ble_eq_true rfl)⟩) (zPreV hE hS hA hP hD hK (z_pick (n := 2) [0, 1] [] rfl (by decide) rfl rfl) (va_recv hK hP (ci := 1) (q0 := 0) rfl rfl)) rfl rfl hl.1 rfl (lv_room (Nat.le_of_ble_eq_true rfl)) dJ5_append_cf1ce_30 ⟨(Nat.le_of_ble_eq_true rfl), (Nat.le_of_ble_eq_true rfl)⟩) hP hD hS hA (z_pick (n := 2) [0, 1] [] rfl (by decide) rfl rfl) (fun u_1 H locs hp_2 hP hD hS => ?_)
  have hP : zP G [(sb, .inr (1, [.ref va, .int 0, .int 0, .int (nI cn)])), (va, .inl (G.2.1 1, vn, .inl (va_cpy (zL li) vf 0 cn ln)))] H := hP
  have hD : va_D A [(sb, .inr (1, [.ref va, .int 0, .int 0, .int (nI cn)])), (va, .inl (G.2.1 1, vn, .inl (va_cpy (zL li) vf 0 cn ln)))] := hD
  refine lv_aload_n hx hb dJ5_append_cf1ce_33 rfl (lv_at hl 1 rfl) ?_
  refine lv_dup hx hb dJ5_append_cf1ce_34 rfl ?_
  refine va_get (D := G.1) (ci := 1) (v := .int (nI cn)) (C := RJ4) (T := TJ4) (N := 4) hx hb hts wsi_J5_append_cf1ce_J4 hown hK hP 0 rfl rfl 3 (by decide) (hts (.fieldLink "java/lang/AbstractStringBuilder" 79 "java/lang/AbstractStringBuilder" "count" "I") (List.mem_of_getElem? (i := 1) (by decide +kernel))) (fun _ h9 => h9) rfl dJ5_append_cf1ce_35 ?_
  refine lv_iload_n hx hb dJ5_append_cf1ce_38 rfl (lv_at hl 0 rfl) ?_
  refine lv_iadd hx hb dJ5_append_cf1ce_39 ?_
  refine zTop (v := nI (cn + ln)) (show ((nI cn) + (nI ln) : Int32) = nI (cn + ln) from nI_add cn ln) ?_
  refine va_put (D := G.1) (ci := 1) (v := .int (nI (cn + ln))) (ty := .int) (C := RJ4) (T := TJ4) (N := 4) hx hb hts wsi_J5_append_cf1ce_J4 tyJ4 tyJ4_ok nmJ4 hown hK hP hD hS 0 rfl rfl 3 (by decide) (hts (.fieldLink "java/lang/AbstractStringBuilder" 79 "java/lang/AbstractStringBuilder" "count" "I") (List.mem_of_getElem? (i := 1) (by decide +kernel))) (fun _ h9 => h9) rfl (by decide +kernel) rfl rfl (Nat.le_of_ble_eq_true rfl) dJ5_append_cf1ce_40 (fun H locs hP hD hS => ?_)
  have hP : zP G [(sb, .inr (1, [.ref va, .int 0, .int 0, .int (nI (cn + ln))])), (va, .inl (G.2.1 1, vn, .inl (va_cpy (zL li) vf 0 cn ln)))] H := hP
  have hD : va_D A [(sb, .inr (1, [.ref va, .int 0, .int 0, .int (nI (cn + ln))])), (va, .inl (G.2.1 1, vn, .inl (va_cpy (zL li) vf 0 cn ln)))] := hD
  refine lv_aload_n hx hb dJ5_append_cf1ce_43 rfl (lv_at hl 1 rfl) ?_
  exact zWr () hx hb hr hlocks (Or.inl ⟨_, rfl⟩) trivial hP hD hK hS (z_pick (n := 2) [0, 1] [] rfl (by decide) rfl rfl) (Nat.le_of_ble_eq_true rfl) (Nat.le_of_ble_eq_true rfl) dJ5_append_cf1ce_44

set_option maxHeartbeats 4000000 in
set_option maxRecDepth 100000 in
/-- append of a constant: it grows -/
theorem c_J5_append_g (l : Launch) (G : zG) (sz : Nat) (sb : Nat) (va : Nat) (cn : Nat) (vf : Nat → Int32) (hfv : zFit vf) (li : Nat) (hll : li < 4) (ln : Nat) (hln : zsl.getD li 0 = ln) (hg1 : 16 < cn + ln) (hg2 : cn + ln ≤ 34) : Met l yJ5_append_cf1ce wsJ5_append_cf1ce { frames := 4, cells := 1, slots := 34, locals := 91 } (zPc G [.ref sb, .ref (G.2.2 (10 + li))] [(sb, .inr (1, [.ref va, .int 0, .int 0, .int (nI cn)])), (va, .inl (G.2.1 1, 16, .inl vf))] sz) (zQr G (fun (u : Nat) => True) (fun u => [(sb, .inr (1, [.ref u, .int 0, .int 0, .int (nI (cn + ln))])), (u, .inl (G.2.1 1, 34, .inl (va_cpy (zL li) (va_cpy vf (fun _ => 0) 0 0 16) 0 cn ln)))]) (fun u => sb) (va_A [(sb, .inr (1, [.ref va, .int 0, .int 0, .int (nI cn)])), (va, .inl (G.2.1 1, 16, .inl vf))] sz)) 1 34 (va_A [(sb, .inr (1, [.ref va, .int 0, .int 0, .int (nI cn)])), (va, .inl (G.2.1 1, 16, .inl vf))] sz) := by
  refine zOfW (Qc := fun A => zQr G (fun (u : Nat) => True) (fun u => [(sb, .inr (1, [.ref u, .int 0, .int 0, .int (nI (cn + ln))])), (u, .inl (G.2.1 1, 34, .inl (va_cpy (zL li) (va_cpy vf (fun _ => 0) 0 0 16) 0 cn ln)))]) (fun u => sb) A) (fr := fun A => A) (cc := cJ5_append_cf1ce) (maxL := 3) (ret := (some (.object "java/lang/AbstractStringBuilder"))) (by decide) rfl (Nat.le_of_ble_eq_true rfl) ?_
  intro p e s m below meth c hx hb hml hr hlocks hown hin hts A hP hK hD hE hA hS ls hl
  have hl : lv_has ls 3 [(0, .ref sb), (1, .ref (G.2.2 (10 + li)))] := hl
  have hown : s.vm.findClass RJ5 = some m.cls := hown
  have hP : zP G [(sb, .inr (1, [.ref va, .int 0, .int 0, .int (nI cn)])), (va, .inl (G.2.1 1, 16, .inl vf))] s.heap := hP
  have hD : va_D A [(sb, .inr (1, [.ref va, .int 0, .int 0, .int (nI cn)])), (va, .inl (G.2.1 1, 16, .inl vf))] := hD
  refine lv_aload_n hx hb dJ5_append_cf1ce_0 rfl (lv_at hl 1 rfl) ?_
  refine lv_ifnonnull (tgt := 9) hx hb dJ5_append_cf1ce_1 (by decide) ?_
  refine lv_aload_n hx hb dJ5_append_cf1ce_9 rfl (lv_at hl 1 rfl) ?_
  refine zCi (r := nI ln) (va_runV (As := []) (rest := []) ⟨hx, hb, hml, hown, hts⟩ (c_J0_length_L l G s.heap.size li hll ln hln) (cwV 0 hts gJ5_append_cf1ce_J0_length_8abf5 rfl rfl rfl (by decide +kernel) ⟨(Nat.le_of_ble_eq_true rfl), (Nat.le_of_ble_eq_true rfl)⟩) (zPreV hE hS hA hP hD hK (z_pick (n := 2) [] [0, 1] rfl (by decide) rfl rfl) (vk_recv hE.2.2.2.2.2.2.2.2.2.2.2.2.1 (i := li) hll hS)) rfl rfl hl.1 rfl (lv_room (Nat.le_of_ble_eq_true rfl)) dJ5_append_cf1ce_10 ⟨(Nat.le_of_ble_eq_true rfl), (Nat.le_of_ble_eq_true rfl)⟩).run ?_
  refine lv_istore_n (lv' := [(2, .int (nI ln)), (0, .ref sb), (1, .ref (G.2.2 (10 + li)))]) hx hb dJ5_append_cf1ce_13 rfl hl (by decide) rfl (fun ls hl => ?_)
  refine lv_aload_n hx hb dJ5_append_cf1ce_14 rfl (lv_at hl 1 rfl) ?_
  refine lv_aload_n hx hb dJ5_append_cf1ce_15 rfl (lv_at hl 1 rfl) ?_
  refine va_get (D := G.1) (ci := 1) (v := .int (nI cn)) (C := RJ4) (T := TJ4) (N := 4) hx hb hts wsi_J5_append_cf1ce_J4 hown hK hP 0 rfl rfl 3 (by decide) (hts (.fieldLink "java/lang/AbstractStringBuilder" 79 "java/lang/AbstractStringBuilder" "count" "I") (List.mem_of_getElem? (i := 1) (by decide +kernel))) (fun _ h9 => h9) rfl dJ5_append_cf1ce_16 ?_
  refine lv_iload_n hx hb dJ5_append_cf1ce_19 rfl (lv_at hl 0 rfl) ?_
  refine lv_iadd hx hb dJ5_append_cf1ce_20 ?_
  refine zTop (v := nI (cn + ln)) (show ((nI cn) + (nI ln) : Int32) = nI (cn + ln) from nI_add cn ln) ?_
  refine zDv (wr := []) (va_runU (As := [.int (nI (cn + ln))]) (rest := []) ⟨hx, hb, hml, hown, hts⟩ (c_J5_ensure_g l G s.heap.size sb va cn vf hfv (cn + ln) hg1 hg2) (va_cwU 1 hts gJ5_append_cf1ce_J5_ensureCapacityInternal_d00df_u100J4 rfl rfl rfl rfl (by decide +kernel) ⟨(Nat.le_of_ble_eq_true rfl), (Nat.le_of_ble_eq_true rfl)⟩) (zPreV hE hS hA hP hD hK (z_pick (n := 2) [0, 1] [] rfl (by decide) rfl rfl) (va_recv hK hP (ci := 1) (q0 := 0) rfl rfl)) rfl rfl hl.1 rfl (lv_room (Nat.le_of_ble_eq_true rfl)) dJ5_append_cf1ce_21 ⟨(Nat.le_of_ble_eq_true rfl), (Nat.le_of_ble_eq_true rfl)⟩) hP hD hS hA (z_pick (n := 2) [0, 1] [] rfl (by decide) rfl rfl) (fun u_1 H locs hp_2 hP hD hS => ?_)
  obtain ⟨nv_0, rfl⟩ : ∃ z, z = u_1 := ⟨_, rfl⟩
  have hP : zP G [(sb, .inr (1, [.ref nv_0, .int 0, .int 0, .int (nI cn)])), (nv_0, .inl (G.2.1 1, 34, .inl (va_cpy vf (fun _ => 0) 0 0 16)))] H := hP
  have hD : va_D A [(sb, .inr (1, [.ref nv_0, .int 0, .int 0, .int (nI cn)])), (nv_0, .inl (G.2.1 1, 34, .inl (va_cpy vf (fun _ => 0) 0 0 16)))] := hD
  refine lv_aload_n hx hb dJ5_append_cf1ce_24 rfl (lv_at hl 1 rfl) ?_
  refine lv_aload_n hx hb dJ5_append_cf1ce_25 rfl (lv_at hl 1 rfl) ?_
  refine va_get (D := G.1) (ci := 1) (v := .int (nI cn)) (C := RJ4) (T := TJ4) (N := 4) hx hb hts wsi_J5_append_cf1ce_J4 hown hK hP 0 rfl rfl 3 (by decide) (hts (.fieldLink "java/lang/AbstractStringBuilder" 79 "java/lang/AbstractStringBuilder" "count" "I") (List.mem_of_getElem? (i := 1) (by decide +kernel))) (fun _ h9 => h9) rfl dJ5_append_cf1ce_26 ?_
  refine lv_aload_n hx hb dJ5_append_cf1ce_29 rfl (lv_at hl 2 rfl) ?_
  refine zDv (wr := []) (va_runU (As := [.int (nI cn), .ref (G.2.2 (10 + li))]) (rest := []) ⟨hx, hb, hml, hown, hts⟩ (c_J5_putString_L l G H.size sb nv_0 cn 34 (va_cpy vf (fun _ => 0) 0 0 16) li hll ln hln hg2 (by decide)) (va_cwU 2 hts gJ5_append_cf1ce_J5_putStringAt_47b60_u208J4 rfl rfl rfl rfl (by decide +kernel) ⟨(Nat.le_of_ble_eq_true rfl), (Nat.le_of_ble_eq_true rfl)⟩) (zPreV hE hS hA hP hD hK (z_pick (n := 2) [0, 1] [] rfl (by decide) rfl rfl) (va_recv hK hP (ci := 1) (q0 := 0) rfl rfl)) rfl rfl hl.1 rfl (lv_room (Nat.le_of_ble_eq_true rfl)) dJ5_append_cf1ce_30 ⟨(Nat.le_of_ble_eq_true rfl), (Nat.le_of_ble_eq_true rfl)⟩) hP hD hS hA (z_pick (n := 2) [0, 1] [] rfl (by decide) rfl rfl) (fun u_3 H locs hp_4 hP hD hS => ?_)
  have hP : zP G [(sb, .inr (1, [.ref nv_0, .int 0, .int 0, .int (nI cn)])), (nv_0, .inl (G.2.1 1, 34, .inl (va_cpy (zL li) (va_cpy vf (fun _ => 0) 0 0 16) 0 cn ln)))] H := hP
  have hD : va_D A [(sb, .inr (1, [.ref nv_0, .int 0, .int 0, .int (nI cn)])), (nv_0, .inl (G.2.1 1, 34, .inl (va_cpy (zL li) (va_cpy vf (fun _ => 0) 0 0 16) 0 cn ln)))] := hD
  refine lv_aload_n hx hb dJ5_append_cf1ce_33 rfl (lv_at hl 1 rfl) ?_
  refine lv_dup hx hb dJ5_append_cf1ce_34 rfl ?_
  refine va_get (D := G.1) (ci := 1) (v := .int (nI cn)) (C := RJ4) (T := TJ4) (N := 4) hx hb hts wsi_J5_append_cf1ce_J4 hown hK hP 0 rfl rfl 3 (by decide) (hts (.fieldLink "java/lang/AbstractStringBuilder" 79 "java/lang/AbstractStringBuilder" "count" "I") (List.mem_of_getElem? (i := 1) (by decide +kernel))) (fun _ h9 => h9) rfl dJ5_append_cf1ce_35 ?_
  refine lv_iload_n hx hb dJ5_append_cf1ce_38 rfl (lv_at hl 0 rfl) ?_
  refine lv_iadd hx hb dJ5_append_cf1ce_39 ?_
  refine zTop (v := nI (cn + ln)) (show ((nI cn) + (nI ln) : Int32) = nI (cn + ln) from nI_add cn ln) ?_
  refine va_put (D := G.1) (ci := 1) (v := .int (nI (cn + ln))) (ty := .int) (C := RJ4) (T := TJ4) (N := 4) hx hb hts wsi_J5_append_cf1ce_J4 tyJ4 tyJ4_ok nmJ4 hown hK hP hD hS 0 rfl rfl 3 (by decide) (hts (.fieldLink "java/lang/AbstractStringBuilder" 79 "java/lang/AbstractStringBuilder" "count" "I") (List.mem_of_getElem? (i := 1) (by decide +kernel))) (fun _ h9 => h9) rfl (by decide +kernel) rfl rfl (Nat.le_of_ble_eq_true rfl) dJ5_append_cf1ce_40 (fun H locs hP hD hS => ?_)
  have hP : zP G [(sb, .inr (1, [.ref nv_0, .int 0, .int 0, .int (nI (cn + ln))])), (nv_0, .inl (G.2.1 1, 34, .inl (va_cpy (zL li) (va_cpy vf (fun _ => 0) 0 0 16) 0 cn ln)))] H := hP
  have hD : va_D A [(sb, .inr (1, [.ref nv_0, .int 0, .int 0, .int (nI (cn + ln))])), (nv_0, .inl (G.2.1 1, 34, .inl (va_cpy (zL li) (va_cpy vf (fun _ => 0) 0 0 16) 0 cn ln)))] := hD
  refine lv_aload_n hx hb dJ5_append_cf1ce_43 rfl (lv_at hl 1 rfl) ?_
  exact zWr (nv_0) hx hb hr hlocks (Or.inl ⟨_, rfl⟩) trivial hP hD hK hS (z_pick (n := 2) [0, 1] [] rfl (by decide) rfl rfl) (Nat.le_of_ble_eq_true rfl) (Nat.le_of_ble_eq_true rfl) dJ5_append_cf1ce_44

set_option maxHeartbeats 4000000 in
set_option maxRecDepth 100000 in
/-- StringBuilder.append of a constant: there is room -/
theorem c_J4_append_n (l : Launch) (G : zG) (sz : Nat) (sb : Nat) (va : Nat) (cn : Nat) (vn : Nat) (vf : Nat → Int32) (li : Nat) (hll : li < 4) (ln : Nat) (hln : zsl.getD li 0 = ln) (hcn : cn + ln ≤ vn) (hvn : vn < 2 ^ 30) : Met l yJ4_append_15ec4 wsJ4_append_15ec4 { frames := 4, cells := 0, slots := 0, locals := 93 } (zPc G [.ref sb, .ref (G.2.2 (10 + li))] [(sb, .inr (1, [.ref va, .int 0, .int 0, .int (nI cn)])), (va, .inl (G.2.1 1, vn, .inl vf))] sz) (zQr G (fun (u : Unit) => True) (fun u => [(sb, .inr (1, [.ref va, .int 0, .int 0, .int (nI (cn + ln))])), (va, .inl (G.2.1 1, vn, .inl (va_cpy (zL li) vf 0 cn ln)))]) (fun u => sb) (va_A [(sb, .inr (1, [.ref va, .int 0, .int 0, .int (nI cn)])), (va, .inl (G.2.1 1, vn, .inl vf))] sz)) 0 0 (va_A [(sb, .inr (1, [.ref va, .int 0, .int 0, .int (nI cn)])), (va, .inl (G.2.1 1, vn, .inl vf))] sz) := by
  refine zOfW (Qc := fun A => zQr G (fun (u : Unit) => True) (fun u => [(sb, .inr (1, [.ref va, .int 0, .int 0, .int (nI (cn + ln))])), (va, .inl (G.2.1 1, vn, .inl (va_cpy (zL li) vf 0 cn ln)))]) (fun u => sb) A) (fr := fun A => A) (cc := cJ4_append_15ec4) (maxL := 2) (ret := (some (.object "java/lang/StringBuilder"))) (by decide) rfl (Nat.le_of_ble_eq_true rfl) ?_
  intro p e s m below meth c hx hb hml hr hlocks hown hin hts A hP hK hD hE hA hS ls hl
  have hl : lv_has ls 2 [(0, .ref sb), (1, .ref (G.2.2 (10 + li)))] := hl
  have hown : s.vm.findClass RJ4 = some m.cls := hown
  have hP : zP G [(sb, .inr (1, [.ref va, .int 0, .int 0, .int (nI cn)])), (va, .inl (G.2.1 1, vn, .inl vf))] s.heap := hP
  have hD : va_D A [(sb, .inr (1, [.ref va, .int 0, .int 0, .int (nI cn)])), (va, .inl (G.2.1 1, vn, .inl vf))] := hD
  refine lv_aload_n hx hb dJ4_append_15ec4_0 rfl (lv_at hl 0 rfl) ?_
  refine lv_aload_n hx hb dJ4_append_15ec4_1 rfl (lv_at hl 1 rfl) ?_
  refine zDr (wr := []) (va_runSU (hK.1 1 _ rfl).2 (As := [.ref (G.2.2 (10 + li))]) (rest := []) ⟨hx, hb, hml, hown, hts⟩ (c_J5_append_n l G s.heap.size sb va cn vn vf li hll ln hln hcn hvn) (va_cwSU 1 hts gJ4_append_15ec4_J5_append_cf1ce_s29 rfl rfl rfl (by decide +kernel) ⟨(Nat.le_of_ble_eq_true rfl), (Nat.le_of_ble_eq_true rfl)⟩) (zPreV hE hS hA hP hD hK (z_pick (n := 2) [0, 1] [] rfl (by decide) rfl rfl) (va_recv hK hP (ci := 1) (q0 := 0) rfl rfl)) rfl rfl hl.1 rfl (lv_room (Nat.le_of_ble_eq_true rfl)) dJ4_append_15ec4_2 ⟨(Nat.le_of_ble_eq_true rfl), (Nat.le_of_ble_eq_true rfl)⟩) hP hD hS hA (z_pick (n := 2) [0, 1] [] rfl (by decide) rfl rfl) (fun u_1 H locs hp_2 hP hD hS => ?_)
  have hP : zP G [(sb, .inr (1, [.ref va, .int 0, .int 0, .int (nI (cn + ln))])), (va, .inl (G.2.1 1, vn, .inl (va_cpy (zL li) vf 0 cn ln)))] H := hP
  have hD : va_D A [(sb, .inr (1, [.ref va, .int 0, .int 0, .int (nI (cn + ln))])), (va, .inl (G.2.1 1, vn, .inl (va_cpy (zL li) vf 0 cn ln)))] := hD
  refine lv_pop hx hb dJ4_append_15ec4_5 rfl ?_
  refine lv_aload_n hx hb dJ4_append_15ec4_6 rfl (lv_at hl 0 rfl) ?_
  exact zWr () hx hb hr hlocks (Or.inl ⟨_, rfl⟩) trivial hP hD hK hS (z_pick (n := 2) [0, 1] [] rfl (by decide) rfl rfl) (Nat.le_of_ble_eq_true rfl) (Nat.le_of_ble_eq_true rfl) dJ4_append_15ec4_7

set_option maxHeartbeats 4000000 in
set_option maxRecDepth 100000 in
/-- StringBuilder.append of a constant: it grows -/
theorem c_J4_append_g (l : Launch) (G : zG) (sz : Nat) (sb : Nat) (va : Nat) (cn : Nat) (vf : Nat → Int32) (hfv : zFit vf) (li : Nat) (hll : li < 4) (ln : Nat) (hln : zsl.getD li 0 = ln) (hg1 : 16 < cn + ln) (hg2 : cn + ln ≤ 34) : Met l yJ4_append_15ec4 wsJ4_append_15ec4 { frames := 5, cells := 1, slots := 34, locals := 113 } (zPc G [.ref sb, .ref (G.2.2 (10 + li))] [(sb, .inr (1, [.ref va, .int 0, .int 0, .int (nI cn)])), (va, .inl (G.2.1 1, 16, .inl vf))] sz) (zQr G (fun (u : Nat) => True) (fun u => [(sb, .inr (1, [.ref u, .int 0, .int 0, .int (nI (cn + ln))])), (u, .inl (G.2.1 1, 34, .inl (va_cpy (zL li) (va_cpy vf (fun _ => 0) 0 0 16) 0 cn ln)))]) (fun u => sb) (va_A [(sb, .inr (1, [.ref va, .int 0, .int 0, .int (nI cn)])), (va, .inl (G.2.1 1, 16, .inl vf))] sz)) 1 34 (va_A [(sb, .inr (1, [.ref va, .int 0, .int 0, .int (nI cn)])), (va, .inl (G.2.1 1, 16, .inl vf))] sz) := by
  refine zOfW (Qc := fun A => zQr G (fun (u : Nat) => True) (fun u => [(sb, .inr (1, [.ref u, .int 0, .int 0, .int (nI (cn + ln))])), (u, .inl (G.2.1 1, 34, .inl (va_cpy (zL li) (va_cpy vf (fun _ => 0) 0 0 16) 0 cn ln)))]) (fun u => sb) A) (fr := fun A => A) (cc := cJ4_append_15ec4) (maxL := 2) (ret := (some (.object "java/lang/StringBuilder"))) (by decide) rfl (Nat.le_of_ble_eq_true rfl) ?_
  intro p e s m below meth c hx hb hml hr hlocks hown hin hts A hP hK hD hE hA hS ls hl
  have hl : lv_has ls 2 [(0, .ref sb), (1, .ref (G.2.2 (10 + li)))] := hl
  have hown : s.vm.findClass RJ4 = some m.cls := hown
  have hP : zP G [(sb, .inr (1, [.ref va, .int 0, .int 0, .int (nI cn)])), (va, .inl (G.2.1 1, 16, .inl vf))] s.heap := hP
  have hD : va_D A [(sb, .inr (1, [.ref va, .int 0, .int 0, .int (nI cn)])), (va, .inl (G.2.1 1, 16, .inl vf))] := hD
  refine lv_aload_n hx hb dJ4_append_15ec4_0 rfl (lv_at hl 0 rfl) ?_
  refine lv_aload_n hx hb dJ4_append_15ec4_1 rfl (lv_at hl 1 rfl) ?_
  refine zDr (wr := []) (va_runSU (hK.1 1 _ rfl).2 (As := [.ref (G.2.2 (10 + li))]) (rest := []) ⟨hx, hb, hml, hown, hts⟩ (c_J5_append_g l G s.heap.size sb va cn vf hfv li hll ln hln hg1 hg2) (va_cwSU 1 hts gJ4_append_15ec4_J5_append_cf1ce_s29 rfl rfl rfl (by decide +kernel) ⟨(Nat.le_of_ble_eq_true rfl), (Nat.le_of_ble_eq_true rfl)⟩) (zPreV hE hS hA hP hD hK (z_pick (n := 2) [0, 1] [] rfl (by decide) rfl rfl) (va_recv hK hP (ci := 1) (q0 := 0) rfl rfl)) rfl rfl hl.1 rfl (lv_room (Nat.le_of_ble_eq_true rfl)) dJ4_append_15ec4_2 ⟨(Nat.le_of_ble_eq_true rfl), (Nat.le_of_ble_eq_true rfl)⟩) hP hD hS hA (z_pick (n := 2) [0, 1] [] rfl (by decide) rfl rfl) (fun u_1 H locs hp_2 hP hD hS => ?_)
  obtain ⟨nv_0, rfl⟩ : ∃ z, z = u_1 := ⟨_, rfl⟩
  have hP : zP G [(sb, .inr (1, [.ref nv_0, .int 0, .int 0, .int (nI (cn + ln))])), (nv_0, .inl (G.2.1 1, 34, .inl (va_cpy (zL li) (va_cpy vf (fun _ => 0) 0 0 16) 0 cn ln)))] H := hP
  have hD : va_D A [(sb, .inr (1, [.ref nv_0, .int 0, .int 0, .int (nI (cn + ln))])), (nv_0, .inl (G.2.1 1, 34, .inl (va_cpy (zL li) (va_cpy vf (fun _ => 0) 0 0 16) 0 cn ln)))] := hD
  refine lv_pop hx hb dJ4_append_15ec4_5 rfl ?_
  refine lv_aload_n hx hb dJ4_append_15ec4_6 rfl (lv_at hl 0 rfl) ?_
  exact zWr (nv_0) hx hb hr hlocks (Or.inl ⟨_, rfl⟩) trivial hP hD hK hS (z_pick (n := 2) [0, 1] [] rfl (by decide) rfl rfl) (Nat.le_of_ble_eq_true rfl) (Nat.le_of_ble_eq_true rfl) dJ4_append_15ec4_7
