theorem z_nn (x : Int32) : - - x = x := Int32.neg_neg
theorem z_mg10 {d : Nat} (h : d < 10) : ¬ -(nI d) ≤ (-10 : Int32) := by
  have key : ∀ d, d < 10 → ¬ -(nI d) ≤ (-10 : Int32) := by decide
  exact key d h
theorem z_mg9 {d : Nat} (h : d < 10) : (-9 : Int32) ≤ -(nI d) := by
  have key : ∀ d, d < 10 → (-9 : Int32) ≤ -(nI d) := by decide
  exact key d h
theorem z_mg100 {d : Nat} (h : d < 100) : (-100 : Int32) < -(nI d) := by
  have key : ∀ d, d < 100 → (-100 : Int32) < -(nI d) := by decide
  exact key d h
theorem z_mgA {d : Nat} (h : 10 ≤ d) (h2 : d < 100) : -(nI d) ≤ (-10 : Int32) := by
  have key : ∀ d, d < 100 → 10 ≤ d → -(nI d) ≤ (-10 : Int32) := by decide
  exact key d h2 h
theorem z_mgB {d : Nat} (h2 : d < 100) : ¬ -(nI d) ≤ (-100 : Int32) := by
  have key : ∀ d, d < 100 → ¬ -(nI d) ≤ (-100 : Int32) := by decide
  exact key d h2
theorem z_mgC {d : Nat} (h : 10 ≤ d) (h2 : d < 100) : ¬ (-9 : Int32) ≤ -(nI d) := by
  have key : ∀ d, d < 100 → 10 ≤ d → ¬ (-9 : Int32) ≤ -(nI d) := by decide
  exact key d h2 h
theorem z_nar1 {d : Nat} (h : d < 100) : vp_nar .byte (zd1 d) = zd1 d := by
  have key : ∀ d, d < 100 → vp_nar .byte (zd1 d) = zd1 d := by decide
  exact key d h
theorem z_nar2 {d : Nat} (h : d < 100) : vp_nar .byte (zd2 d) = zd2 d := by
  have key : ∀ d, d < 100 → vp_nar .byte (zd2 d) = zd2 d := by decide
  exact key d h
theorem zd1_fit {d : Nat} (h : d < 100) : fits .byte (.int (zd1 d)) = true := by
  have key : ∀ d, d < 100 → fits .byte (.int (zd1 d)) = true := by decide
  exact key d h
theorem zd2_fit {d : Nat} (h : d < 100) : fits .byte (.int (zd2 d)) = true := by
  have key : ∀ d, d < 100 → fits .byte (.int (zd2 d)) = true := by decide
  exact key d h

set_option maxHeartbeats 4000000 in
set_option maxRecDepth 100000 in
/-- stringSize: one digit -/
theorem c_J6_size_1 (l : Launch) (G : zG) (sz : Nat) (dg : Nat) (hd : dg < 10) : Met l yJ6_stringSize_0f7a4 wsJ6_stringSize_0f7a4 { frames := 0, cells := 0, slots := 0, locals := 0 } (zPc G [.int (nI dg)] [] sz) (vp_Si (fun z => z = 1)) 0 0 (fun _ => False) := by
  refine zOfW (Qc := fun _ => vp_Si (fun z => z = 1)) (fr := fun _ _ => False) (cc := cJ6_stringSize_0f7a4) (maxL := 4) (ret := (some .int)) (by decide) rfl (Nat.le_of_ble_eq_true rfl) ?_
  intro p e s m below meth c hx hb hml hr hlocks hown hin hts A hP hK hD hE hA hS ls hl
  have hl : lv_has ls 4 [(0, .int (nI dg))] := hl
  have hown : s.vm.findClass RJ6 = some m.cls := hown
  refine lv_iconst (v := 1) hx hb dJ6_stringSize_0f7a4_0 (by decide) ?_
  refine lv_istore_n (lv' := [(1, .int 1), (0, .int (nI dg))]) hx hb dJ6_stringSize_0f7a4_1 rfl hl (by decide) rfl (fun ls hl => ?_)
  refine lv_iload_n hx hb dJ6_stringSize_0f7a4_2 rfl (lv_at hl 1 rfl) ?_
  refine lv_if_lt (tgt := 11) hx hb dJ6_stringSize_0f7a4_3 (by decide) (fun c_1 => absurd c_1 (nI_pos (by omega))) (fun c_1 => ?_)
  refine lv_iconst (v := 0) hx hb dJ6_stringSize_0f7a4_6 (by decide) ?_
  refine lv_istore_n (lv' := [(1, .int 0), (0, .int (nI dg))]) hx hb dJ6_stringSize_0f7a4_7 rfl hl (by decide) rfl (fun ls hl => ?_)
  refine lv_iload_n hx hb dJ6_stringSize_0f7a4_8 rfl (lv_at hl 1 rfl) ?_
  refine lv_ineg hx hb dJ6_stringSize_0f7a4_9 ?_
  refine lv_istore_n (lv' := [(0, .int (-(nI dg))), (1, .int 0)]) hx hb dJ6_stringSize_0f7a4_10 rfl hl (by decide) rfl (fun ls hl => ?_)
  refine lv_bipush (v := (-10)) hx hb dJ6_stringSize_0f7a4_11 (by decide) ?_
  refine lv_istore_n (lv' := [(2, .int (-10)), (0, .int (-(nI dg))), (1, .int 0)]) hx hb dJ6_stringSize_0f7a4_13 rfl hl (by decide) rfl (fun ls hl => ?_)
  refine lv_iconst (v := 1) hx hb dJ6_stringSize_0f7a4_14 (by decide) ?_
  refine lv_istore_n (lv' := [(3, .int 1), (2, .int (-10)), (0, .int (-(nI dg))), (1, .int 0)]) hx hb dJ6_stringSize_0f7a4_15 rfl hl (by decide) rfl (fun ls hl => ?_)
  refine lv_iload_n hx hb dJ6_stringSize_0f7a4_16 rfl (lv_at hl 0 rfl) ?_
  refine lv_bipush (v := 10) hx hb dJ6_stringSize_0f7a4_17 (by decide) ?_
  refine lv_icmp_ge (tgt := 42) hx hb dJ6_stringSize_0f7a4_19 (by decide) (fun c_2 => absurd c_2 (by decide)) (fun c_2 => ?_)
  refine lv_iload_n hx hb dJ6_stringSize_0f7a4_22 rfl (lv_at hl 2 rfl) ?_
  refine lv_iload_n hx hb dJ6_stringSize_0f7a4_23 rfl (lv_at hl 1 rfl) ?_
  refine lv_icmp_le (tgt := 31) hx hb dJ6_stringSize_0f7a4_24 (by decide) (fun c_3 => absurd c_3 (z_mg10 hd)) (fun c_3 => ?_)
  refine lv_iload_n hx hb dJ6_stringSize_0f7a4_27 rfl (lv_at hl 0 rfl) ?_
  refine lv_iload_n hx hb dJ6_stringSize_0f7a4_28 rfl (lv_at hl 3 rfl) ?_
  refine lv_iadd hx hb dJ6_stringSize_0f7a4_29 ?_
  refine zTop (v := 1) (by decide) ?_
  exact zRi hx hb hr hlocks rfl rfl rfl rfl (Nat.le_of_ble_eq_true rfl) (Nat.le_of_ble_eq_true rfl) dJ6_stringSize_0f7a4_30

set_option maxHeartbeats 4000000 in
set_option maxRecDepth 100000 in
/-- stringSize: two digits -/
theorem c_J6_size_2 (l : Launch) (G : zG) (sz : Nat) (dg : Nat) (hd1 : 10 ≤ dg) (hd2 : dg < 100) : Met l yJ6_stringSize_0f7a4 wsJ6_stringSize_0f7a4 { frames := 0, cells := 0, slots := 0, locals := 0 } (zPc G [.int (nI dg)] [] sz) (vp_Si (fun z => z = 2)) 0 0 (fun _ => False) := by
  refine zOfW (Qc := fun _ => vp_Si (fun z => z = 2)) (fr := fun _ _ => False) (cc := cJ6_stringSize_0f7a4) (maxL := 4) (ret := (some .int)) (by decide) rfl (Nat.le_of_ble_eq_true rfl) ?_
  intro p e s m below meth c hx hb hml hr hlocks hown hin hts A hP hK hD hE hA hS ls hl
  have hl : lv_has ls 4 [(0, .int (nI dg))] := hl
  have hown : s.vm.findClass RJ6 = some m.cls := hown
  refine lv_iconst (v := 1) hx hb dJ6_stringSize_0f7a4_0 (by decide) ?_
  refine lv_istore_n (lv' := [(1, .int 1), (0, .int (nI dg))]) hx hb dJ6_stringSize_0f7a4_1 rfl hl (by decide) rfl (fun ls hl => ?_)
  refine lv_iload_n hx hb dJ6_stringSize_0f7a4_2 rfl (lv_at hl 1 rfl) ?_
  refine lv_if_lt (tgt := 11) hx hb dJ6_stringSize_0f7a4_3 (by decide) (fun c_1 => absurd c_1 (nI_pos (by omega))) (fun c_1 => ?_)
  refine lv_iconst (v := 0) hx hb dJ6_stringSize_0f7a4_6 (by decide) ?_
  refine lv_istore_n (lv' := [(1, .int 0), (0, .int (nI dg))]) hx hb dJ6_stringSize_0f7a4_7 rfl hl (by decide) rfl (fun ls hl => ?_)
  refine lv_iload_n hx hb dJ6_stringSize_0f7a4_8 rfl (lv_at hl 1 rfl) ?_
  refine lv_ineg hx hb dJ6_stringSize_0f7a4_9 ?_
  refine lv_istore_n (lv' := [(0, .int (-(nI dg))), (1, .int 0)]) hx hb dJ6_stringSize_0f7a4_10 rfl hl (by decide) rfl (fun ls hl => ?_)
  refine lv_bipush (v := (-10)) hx hb dJ6_stringSize_0f7a4_11 (by decide) ?_
  refine lv_istore_n (lv' := [(2, .int (-10)), (0, .int (-(nI dg))), (1, .int 0)]) hx hb dJ6_stringSize_0f7a4_13 rfl hl (by decide) rfl (fun ls hl => ?_)
  refine lv_iconst (v := 1) hx hb dJ6_stringSize_0f7a4_14 (by decide) ?_
  refine lv_istore_n (lv' := [(3, .int 1), (2, .int (-10)), (0, .int (-(nI dg))), (1, .int 0)]) hx hb dJ6_stringSize_0f7a4_15 rfl hl (by decide) rfl (fun ls hl => ?_)
  refine lv_iload_n hx hb dJ6_stringSize_0f7a4_16 rfl (lv_at hl 0 rfl) ?_
  refine lv_bipush (v := 10) hx hb dJ6_stringSize_0f7a4_17 (by decide) ?_
  refine lv_icmp_ge (tgt := 42) hx hb dJ6_stringSize_0f7a4_19 (by decide) (fun c_2 => absurd c_2 (by decide)) (fun c_2 => ?_)
  refine lv_iload_n hx hb dJ6_stringSize_0f7a4_22 rfl (lv_at hl 2 rfl) ?_
  refine lv_iload_n hx hb dJ6_stringSize_0f7a4_23 rfl (lv_at hl 1 rfl) ?_
  refine lv_icmp_le (tgt := 31) hx hb dJ6_stringSize_0f7a4_24 (by decide) (fun c_3 => ?_) (fun c_3 => absurd (z_mgA hd1 hd2) c_3)
  refine lv_bipush (v := 10) hx hb dJ6_stringSize_0f7a4_31 (by decide) ?_
  refine lv_iload_n hx hb dJ6_stringSize_0f7a4_33 rfl (lv_at hl 1 rfl) ?_
  refine lv_imul hx hb dJ6_stringSize_0f7a4_34 ?_
  refine zTop (v := (-100)) (by decide) ?_
  refine lv_istore_n (lv' := [(2, .int (-100)), (3, .int 1), (0, .int (-(nI dg))), (1, .int 0)]) hx hb dJ6_stringSize_0f7a4_35 rfl hl (by decide) rfl (fun ls hl => ?_)
  refine lv_iinc (v := 2) (lv' := [(3, .int 2), (2, .int (-100)), (0, .int (-(nI dg))), (1, .int 0)]) hx hb dJ6_stringSize_0f7a4_36 hl (k := 1) rfl (by decide) (by decide) rfl (fun ls hl => ?_)
  refine lv_goto (tgt := 16) hx hb dJ6_stringSize_0f7a4_39 (by decide) ?_
  refine lv_iload_n hx hb dJ6_stringSize_0f7a4_16 rfl (lv_at hl 0 rfl) ?_
  refine lv_bipush (v := 10) hx hb dJ6_stringSize_0f7a4_17 (by decide) ?_
  refine lv_icmp_ge (tgt := 42) hx hb dJ6_stringSize_0f7a4_19 (by decide) (fun c_4 => absurd c_4 (by decide)) (fun c_4 => ?_)
  refine lv_iload_n hx hb dJ6_stringSize_0f7a4_22 rfl (lv_at hl 2 rfl) ?_
  refine lv_iload_n hx hb dJ6_stringSize_0f7a4_23 rfl (lv_at hl 1 rfl) ?_
  refine lv_icmp_le (tgt := 31) hx hb dJ6_stringSize_0f7a4_24 (by decide) (fun c_5 => absurd c_5 (z_mgB hd2)) (fun c_5 => ?_)
  refine lv_iload_n hx hb dJ6_stringSize_0f7a4_27 rfl (lv_at hl 0 rfl) ?_
  refine lv_iload_n hx hb dJ6_stringSize_0f7a4_28 rfl (lv_at hl 3 rfl) ?_
  refine lv_iadd hx hb dJ6_stringSize_0f7a4_29 ?_
  refine zTop (v := 2) (by decide) ?_
  exact zRi hx hb hr hlocks rfl rfl rfl rfl (Nat.le_of_ble_eq_true rfl) (Nat.le_of_ble_eq_true rfl) dJ6_stringSize_0f7a4_30

set_option maxHeartbeats 4000000 in
set_option maxRecDepth 100000 in
/-- getChars: one digit -/
theorem c_J6_chars_1 (l : Launch) (G : zG) (sz : Nat) (va : Nat) (vn : Nat) (vf : Nat → Int32) (cn : Nat) (dg : Nat) (hd : dg < 10) (hcn : cn + 1 ≤ vn) (hvn : vn < 2 ^ 30) : Met l yJ6_getChars_ba4f3 wsJ6_getChars_ba4f3 { frames := 0, cells := 0, slots := 0, locals := 0 } (zPc G [.int (nI dg), .int (nI (cn + 1)), .ref va] [(va, .inl (G.2.1 1, vn, .inl vf))] sz) (zQi G (fun (r : Int32) (u : Unit) => r = nI cn) (fun u => [(va, .inl (G.2.1 1, vn, .inl (upd vf cn (zd1 dg))))]) (va_A [(va, .inl (G.2.1 1, vn, .inl vf))] sz)) 0 0 (va_A [(va, .inl (G.2.1 1, vn, .inl vf))] sz) := by
  refine zOfW (Qc := fun A => zQi G (fun (r : Int32) (u : Unit) => r = nI cn) (fun u => [(va, .inl (G.2.1 1, vn, .inl (upd vf cn (zd1 dg))))]) A) (fr := fun A => A) (cc := cJ6_getChars_ba4f3) (maxL := 7) (ret := (some .int)) (by decide) rfl (Nat.le_of_ble_eq_true rfl) ?_
  intro p e s m below meth c hx hb hml hr hlocks hown hin hts A hP hK hD hE hA hS ls hl
  have hl : lv_has ls 7 [(0, .int (nI dg)), (1, .int (nI (cn + 1))), (2, .ref va)] := hl
  have hown : s.vm.findClass RJ6 = some m.cls := hown
  have hP : zP G [(va, .inl (G.2.1 1, vn, .inl vf))] s.heap := hP
  have hD : va_D A [(va, .inl (G.2.1 1, vn, .inl vf))] := hD
  refine lv_iload_n hx hb dJ6_getChars_ba4f3_0 rfl (lv_at hl 1 rfl) ?_
  refine lv_istore (lv' := [(5, .int (nI (cn + 1))), (0, .int (nI dg)), (1, .int (nI (cn + 1))), (2, .ref va)]) hx hb dJ6_getChars_ba4f3_1 hl (by decide) rfl (fun ls hl => ?_)
  refine lv_iload_n hx hb dJ6_getChars_ba4f3_3 rfl (lv_at hl 1 rfl) ?_
  refine lv_if_ge (tgt := 11) hx hb dJ6_getChars_ba4f3_4 (by decide) (fun c_1 => ?_) (fun c_1 => absurd (Int32.not_lt.mp (nI_pos (by omega))) c_1)
  refine lv_iconst (v := 0) hx hb dJ6_getChars_ba4f3_11 (by decide) ?_
  refine lv_istore (lv' := [(6, .int 0), (5, .int (nI (cn + 1))), (0, .int (nI dg)), (1, .int (nI (cn + 1))), (2, .ref va)]) hx hb dJ6_getChars_ba4f3_12 hl (by decide) rfl (fun ls hl => ?_)
  refine lv_iload hx hb dJ6_getChars_ba4f3_14 (lv_at hl 0 rfl) ?_
  refine lv_if_ne (tgt := 22) hx hb dJ6_getChars_ba4f3_16 (by decide) (fun c_2 => absurd (by decide) c_2) (fun c_2 => ?_)
  refine lv_iload_n hx hb dJ6_getChars_ba4f3_19 rfl (lv_at hl 2 rfl) ?_
  refine lv_ineg hx hb dJ6_getChars_ba4f3_20 ?_
  refine lv_istore_n (lv' := [(0, .int (-(nI dg))), (6, .int 0), (5, .int (nI (cn + 1))), (1, .int (nI (cn + 1))), (2, .ref va)]) hx hb dJ6_getChars_ba4f3_21 rfl hl (by decide) rfl (fun ls hl => ?_)
  refine lv_iload_n hx hb dJ6_getChars_ba4f3_22 rfl (lv_at hl 0 rfl) ?_
  refine lv_bipush (v := (-100)) hx hb dJ6_getChars_ba4f3_23 (by decide) ?_
  refine lv_icmp_gt (tgt := 72) hx hb dJ6_getChars_ba4f3_25 (by decide) (fun c_3 => ?_) (fun c_3 => absurd (z_mg100 (by omega)) c_3)
  refine lv_aload_n hx hb dJ6_getChars_ba4f3_72 rfl (lv_at hl 4 rfl) ?_
  refine lv_iinc (v := nI cn) (lv' := [(5, .int (nI cn)), (0, .int (-(nI dg))), (6, .int 0), (1, .int (nI (cn + 1))), (2, .ref va)]) hx hb dJ6_getChars_ba4f3_73 hl (k := 2) rfl (pk_m1 cn) (by decide) rfl (fun ls hl => ?_)
  refine lv_iload hx hb dJ6_getChars_ba4f3_76 (lv_at hl 0 rfl) ?_
  refine va_gets (v := .ref (G.2.2 3)) hx hb hE.2.2.2.2.2.2.1.1 hS hown (hts (.fieldLink "java/lang/Integer" 83 "java/lang/Integer" "DigitOnes" "[B") (List.mem_of_getElem? (i := 1) (by decide +kernel))) (fun _ h9 => h9) dJ6_getChars_ba4f3_78 ?_
  refine lv_iload_n hx hb dJ6_getChars_ba4f3_81 rfl (lv_at hl 1 rfl) ?_
  refine lv_ineg hx hb dJ6_getChars_ba4f3_82 ?_
  refine zTop (v := nI dg) (z_nn _) ?_
  refine zTb hx hb hE.2.2.2.2.2.2.1.2 hS dg rfl (by omega) (by decide) dJ6_getChars_ba4f3_83 ?_
  refine zBast (y := zd1 dg) hx hb hK hP hD hS 0 rfl cn rfl (by omega) (by omega) (z_nar1 (by omega)) dJ6_getChars_ba4f3_84 (fun H locs hP hD hS => ?_)
  have hP : zP G [(va, .inl (G.2.1 1, vn, .inl (upd vf cn (zd1 dg))))] H := hP
  have hD : va_D A [(va, .inl (G.2.1 1, vn, .inl (upd vf cn (zd1 dg))))] := hD
  refine lv_iload_n hx hb dJ6_getChars_ba4f3_85 rfl (lv_at hl 1 rfl) ?_
  refine lv_bipush (v := (-9)) hx hb dJ6_getChars_ba4f3_86 (by decide) ?_
  refine lv_icmp_ge (tgt := 104) hx hb dJ6_getChars_ba4f3_88 (by decide) (fun c_4 => ?_) (fun c_4 => absurd (z_mg9 hd) c_4)
  refine lv_iload hx hb dJ6_getChars_ba4f3_104 (lv_at hl 2 rfl) ?_
  refine lv_if_eq (tgt := 118) hx hb dJ6_getChars_ba4f3_106 (by decide) (fun c_5 => ?_) (fun c_5 => absurd (by decide) c_5)
  refine lv_iload hx hb dJ6_getChars_ba4f3_118 (lv_at hl 0 rfl) ?_
  exact zWi () hx hb hr hlocks rfl rfl hP hD hK hS (z_pick (n := 1) [0] [] rfl (by decide) rfl rfl) (Nat.le_of_ble_eq_true rfl) (Nat.le_of_ble_eq_true rfl) dJ6_getChars_ba4f3_120

set_option maxHeartbeats 4000000 in
set_option maxRecDepth 100000 in
/-- getChars: two digits -/
theorem c_J6_chars_2 (l : Launch) (G : zG) (sz : Nat) (va : Nat) (vn : Nat) (vf : Nat → Int32) (cn : Nat) (dg : Nat) (hd1 : 10 ≤ dg) (hd2 : dg < 100) (hcn : cn + 2 ≤ vn) (hvn : vn < 2 ^ 30) : Met l yJ6_getChars_ba4f3 wsJ6_getChars_ba4f3 { frames := 0, cells := 0, slots := 0, locals := 0 } (zPc G [.int (nI dg), .int (nI (cn + 2)), .ref va] [(va, .inl (G.2.1 1, vn, .inl vf))] sz) (zQi G (fun (r : Int32) (u : Unit) => r = nI cn) (fun u => [(va, .inl (G.2.1 1, vn, .inl (upd (upd vf (cn + 1) (zd1 dg)) cn (zd2 dg))))]) (va_A [(va, .inl (G.2.1 1, vn, .inl vf))] sz)) 0 0 (va_A [(va, .inl (G.2.1 1, vn, .inl vf))] sz) := by
  refine zOfW (Qc := fun A => zQi G (fun (r : Int32) (u : Unit) => r = nI cn) (fun u => [(va, .inl (G.2.1 1, vn, .inl (upd (upd vf (cn + 1) (zd1 dg)) cn (zd2 dg))))]) A) (fr := fun A => A) (cc := cJ6_getChars_ba4f3) (maxL := 7) (ret := (some .int)) (by decide) rfl (Nat.le_of_ble_eq_true rfl) ?_
  intro p e s m below meth c hx hb hml hr hlocks hown hin hts A hP hK hD hE hA hS ls hl
  have hl : lv_has ls 7 [(0, .int (nI dg)), (1, .int (nI (cn + 2))), (2, .ref va)] := hl
  have hown : s.vm.findClass RJ6 = some m.cls := hown
  have hP : zP G [(va, .inl (G.2.1 1, vn, .inl vf))] s.heap := hP
  have hD : va_D A [(va, .inl (G.2.1 1, vn, .inl vf))] := hD
  refine lv_iload_n hx hb dJ6_getChars_ba4f3_0 rfl (lv_at hl 1 rfl) ?_
  refine lv_istore (lv' := [(5, .int (nI (cn + 2))), (0, .int (nI dg)), (1, .int (nI (cn + 2))), (2, .ref va)]) hx hb dJ6_getChars_ba4f3_1 hl (by decide) rfl (fun ls hl => ?_)
  refine lv_iload_n hx hb dJ6_getChars_ba4f3_3 rfl (lv_at hl 1 rfl) ?_
  refine lv_if_ge (tgt := 11) hx hb dJ6_getChars_ba4f3_4 (by decide) (fun c_1 => ?_) (fun c_1 => absurd (Int32.not_lt.mp (nI_pos (by omega))) c_1)
  refine lv_iconst (v := 0) hx hb dJ6_getChars_ba4f3_11 (by decide) ?_
  refine lv_istore (lv' := [(6, .int 0), (5, .int (nI (cn + 2))), (0, .int (nI dg)), (1, .int (nI (cn + 2))), (2, .ref va)]) hx hb dJ6_getChars_ba4f3_12 hl (by decide) rfl (fun ls hl => ?_)
  refine lv_iload hx hb dJ6_getChars_ba4f3_14 (lv_at hl 0 rfl) ?_
  refine lv_if_ne (tgt := 22) hx hb dJ6_getChars_ba4f3_16 (by decide) (fun c_2 => absurd (by decide) c_2) (fun c_2 => ?_)
  refine lv_iload_n hx hb dJ6_getChars_ba4f3_19 rfl (lv_at hl 2 rfl) ?_
  refine lv_ineg hx hb dJ6_getChars_ba4f3_20 ?_
  refine lv_istore_n (lv' := [(0, .int (-(nI dg))), (6, .int 0), (5, .int (nI (cn + 2))), (1, .int (nI (cn + 2))), (2, .ref va)]) hx hb dJ6_getChars_ba4f3_21 rfl hl (by decide) rfl (fun ls hl => ?_)
  refine lv_iload_n hx hb dJ6_getChars_ba4f3_22 rfl (lv_at hl 0 rfl) ?_
  refine lv_bipush (v := (-100)) hx hb dJ6_getChars_ba4f3_23 (by decide) ?_
  refine lv_icmp_gt (tgt := 72) hx hb dJ6_getChars_ba4f3_25 (by decide) (fun c_3 => ?_) (fun c_3 => absurd (z_mg100 (by omega)) c_3)
  refine lv_aload_n hx hb dJ6_getChars_ba4f3_72 rfl (lv_at hl 4 rfl) ?_
  refine lv_iinc (v := nI (cn + 1)) (lv' := [(5, .int (nI (cn + 1))), (0, .int (-(nI dg))), (6, .int 0), (1, .int (nI (cn + 2))), (2, .ref va)]) hx hb dJ6_getChars_ba4f3_73 hl (k := 2) rfl (pk_m1 (cn + 1)) (by decide) rfl (fun ls hl => ?_)
  refine lv_iload hx hb dJ6_getChars_ba4f3_76 (lv_at hl 0 rfl) ?_
  refine va_gets (v := .ref (G.2.2 3)) hx hb hE.2.2.2.2.2.2.1.1 hS hown (hts (.fieldLink "java/lang/Integer" 83 "java/lang/Integer" "DigitOnes" "[B") (List.mem_of_getElem? (i := 1) (by decide +kernel))) (fun _ h9 => h9) dJ6_getChars_ba4f3_78 ?_
  refine lv_iload_n hx hb dJ6_getChars_ba4f3_81 rfl (lv_at hl 1 rfl) ?_
  refine lv_ineg hx hb dJ6_getChars_ba4f3_82 ?_
  refine zTop (v := nI dg) (z_nn _) ?_
  refine zTb hx hb hE.2.2.2.2.2.2.1.2 hS dg rfl (by omega) (by decide) dJ6_getChars_ba4f3_83 ?_
  refine zBast (y := zd1 dg) hx hb hK hP hD hS 0 rfl (cn + 1) rfl (by omega) (by omega) (z_nar1 (by omega)) dJ6_getChars_ba4f3_84 (fun H locs hP hD hS => ?_)
  have hP : zP G [(va, .inl (G.2.1 1, vn, .inl (upd vf (cn + 1) (zd1 dg))))] H := hP
  have hD : va_D A [(va, .inl (G.2.1 1, vn, .inl (upd vf (cn + 1) (zd1 dg))))] := hD
  refine lv_iload_n hx hb dJ6_getChars_ba4f3_85 rfl (lv_at hl 1 rfl) ?_
  refine lv_bipush (v := (-9)) hx hb dJ6_getChars_ba4f3_86 (by decide) ?_
  refine lv_icmp_ge (tgt := 104) hx hb dJ6_getChars_ba4f3_88 (by decide) (fun c_4 => absurd c_4 (z_mgC hd1 hd2)) (fun c_4 => ?_)
  refine lv_aload_n hx hb dJ6_getChars_ba4f3_91 rfl (lv_at hl 4 rfl) ?_
  refine lv_iinc (v := nI cn) (lv' := [(5, .int (nI cn)), (0, .int (-(nI dg))), (6, .int 0), (1, .int (nI (cn + 2))), (2, .ref va)]) hx hb dJ6_getChars_ba4f3_92 hl (k := 0) rfl (pk_m1 cn) (by decide) rfl (fun ls hl => ?_)
  refine lv_iload hx hb dJ6_getChars_ba4f3_95 (lv_at hl 0 rfl) ?_
  refine va_gets (v := .ref (G.2.2 4)) hx hb hE.2.2.2.2.2.2.2.1.1 hS hown (hts (.fieldLink "java/lang/Integer" 87 "java/lang/Integer" "DigitTens" "[B") (List.mem_of_getElem? (i := 2) (by decide +kernel))) (fun _ h9 => h9) dJ6_getChars_ba4f3_97 ?_
  refine lv_iload_n hx hb dJ6_getChars_ba4f3_100 rfl (lv_at hl 1 rfl) ?_
  refine lv_ineg hx hb dJ6_getChars_ba4f3_101 ?_
  refine zTop (v := nI dg) (z_nn _) ?_
  refine zTb hx hb hE.2.2.2.2.2.2.2.1.2 hS dg rfl (by omega) (by decide) dJ6_getChars_ba4f3_102 ?_
  refine zBast (y := zd2 dg) hx hb hK hP hD hS 0 rfl cn rfl (by omega) (by omega) (z_nar2 (by omega)) dJ6_getChars_ba4f3_103 (fun H locs hP hD hS => ?_)
  have hP : zP G [(va, .inl (G.2.1 1, vn, .inl (upd (upd vf (cn + 1) (zd1 dg)) cn (zd2 dg))))] H := hP
  have hD : va_D A [(va, .inl (G.2.1 1, vn, .inl (upd (upd vf (cn + 1) (zd1 dg)) cn (zd2 dg))))] := hD
  refine lv_iload hx hb dJ6_getChars_ba4f3_104 (lv_at hl 2 rfl) ?_
  refine lv_if_eq (tgt := 118) hx hb dJ6_getChars_ba4f3_106 (by decide) (fun c_5 => ?_) (fun c_5 => absurd (by decide) c_5)
  refine lv_iload hx hb dJ6_getChars_ba4f3_118 (lv_at hl 0 rfl) ?_
  exact zWi () hx hb hr hlocks rfl rfl hP hD hK hS (z_pick (n := 1) [0] [] rfl (by decide) rfl rfl) (Nat.le_of_ble_eq_true rfl) (Nat.le_of_ble_eq_true rfl) dJ6_getChars_ba4f3_120

theorem wsi_J5_append_c97b9_J4 : ∀ w ∈ wsJ40, w ∈ wsJ5_append_c97b9 := fun w h => List.mem_cons_of_mem _ (List.mem_append_right _ h)
set_option maxHeartbeats 4000000 in
set_option maxRecDepth 100000 in
/-- append(int), 1 digits -/
theorem c_J5_int_1 (l : Launch) (G : zG) (sz : Nat) (sb : Nat) (va : Nat) (cn : Nat) (vn : Nat) (vf : Nat → Int32) (dg : Nat) (hd : dg < 10) (hcn : cn + 1 ≤ vn) (hvn : vn < 2 ^ 30) : Met l yJ5_append_c97b9 wsJ5_append_c97b9 { frames := 1, cells := 0, slots := 0, locals := 26 } (zPc G [.ref sb, .int (nI dg)] [(sb, .inr (1, [.ref va, .int 0, .int 0, .int (nI cn)])), (va, .inl (G.2.1 1, vn, .inl vf))] sz) (zQr G (fun (u : Unit) => True) (fun u => [(sb, .inr (1, [.ref va, .int 0, .int 0, .int (nI (cn + 1))])), (va, .inl (G.2.1 1, vn, .inl (upd vf cn (zd1 dg))))]) (fun u => sb) (va_A [(sb, .inr (1, [.ref va, .int 0, .int 0, .int (nI cn)])), (va, .inl (G.2.1 1, vn, .inl vf))] sz)) 0 0 (va_A [(sb, .inr (1, [.ref va, .int 0, .int 0, .int (nI cn)])), (va, .inl (G.2.1 1, vn, .inl vf))] sz) := by
  refine zOfW (Qc := fun A => zQr G (fun (u : Unit) => True) (fun u => [(sb, .inr (1, [.ref va, .int 0, .int 0, .int (nI (cn + 1))])), (va, .inl (G.2.1 1, vn, .inl (upd vf cn (zd1 dg))))]) (fun u => sb) A) (fr := fun A => A) (cc := cJ5_append_c97b9) (maxL := 4) (ret := (some (.object "java/lang/AbstractStringBuilder"))) (by decide) rfl (Nat.le_of_ble_eq_true rfl) ?_
  intro p e s m below meth c hx hb hml hr hlocks hown hin hts A hP hK hD hE hA hS ls hl
  have hl : lv_has ls 4 [(0, .ref sb), (1, .int (nI dg))] := hl
  have hown : s.vm.findClass RJ5 = some m.cls := hown
  have hP : zP G [(sb, .inr (1, [.ref va, .int 0, .int 0, .int (nI cn)])), (va, .inl (G.2.1 1, vn, .inl vf))] s.heap := hP
  have hD : va_D A [(sb, .inr (1, [.ref va, .int 0, .int 0, .int (nI cn)])), (va, .inl (G.2.1 1, vn, .inl vf))] := hD
  refine lv_aload_n hx hb dJ5_append_c97b9_0 rfl (lv_at hl 0 rfl) ?_
  refine va_get (D := G.1) (ci := 1) (v := .int (nI cn)) (C := RJ4) (T := TJ4) (N := 4) hx hb hts wsi_J5_append_c97b9_J4 hown hK hP 0 rfl rfl 3 (by decide) (hts (.fieldLink "java/lang/AbstractStringBuilder" 79 "java/lang/AbstractStringBuilder" "count" "I") (List.mem_of_getElem? (i := 1) (by decide +kernel))) (fun _ h9 => h9) rfl dJ5_append_c97b9_1 ?_
  refine lv_istore_n (lv' := [(2, .int (nI cn)), (0, .ref sb), (1, .int (nI dg))]) hx hb dJ5_append_c97b9_4 rfl hl (by decide) rfl (fun ls hl => ?_)
  refine lv_iload_n hx hb dJ5_append_c97b9_5 rfl (lv_at hl 0 rfl) ?_
  refine lv_iload_n hx hb dJ5_append_c97b9_6 rfl (lv_at hl 2 rfl) ?_
  refine zCi (r := 1) (va_runS (As := [.int (nI dg)]) (rest := [.int (nI cn)]) ⟨hx, hb, hml, hown, hts⟩ (c_J6_size_1 l G s.heap.size dg hd) (va_cwS 1 hts gJ5_append_c97b9_J6_stringSize_0f7a4 rfl rfl rfl (by decide +kernel) ⟨(Nat.le_of_ble_eq_true rfl), (Nat.le_of_ble_eq_true rfl)⟩) (zPreS hE hS hA hP hD hK (z_pick (n := 2) [] [0, 1] rfl (by decide) rfl rfl)) rfl rfl hl.1 rfl (lv_room (Nat.le_of_ble_eq_true rfl)) dJ5_append_c97b9_7 ⟨(Nat.le_of_ble_eq_true rfl), (Nat.le_of_ble_eq_true rfl)⟩).run ?_
  refine lv_iadd hx hb dJ5_append_c97b9_10 ?_
  refine zTop (v := nI (cn + 1)) (show ((nI cn) + 1 : Int32) = nI (cn + 1) from nI_add cn 1) ?_
  refine lv_istore_n (lv' := [(3, .int (nI (cn + 1))), (2, .int (nI cn)), (0, .ref sb), (1, .int (nI dg))]) hx hb dJ5_append_c97b9_11 rfl hl (by decide) rfl (fun ls hl => ?_)
  refine lv_aload_n hx hb dJ5_append_c97b9_12 rfl (lv_at hl 2 rfl) ?_
  refine lv_iload_n hx hb dJ5_append_c97b9_13 rfl (lv_at hl 0 rfl) ?_
  refine zCv (va_runU (As := [.int (nI (cn + 1))]) (rest := []) ⟨hx, hb, hml, hown, hts⟩ (c_J5_ensure_n l G s.heap.size sb va cn vn vf (cn + 1) hcn hvn) (va_cwU 1 hts gJ5_append_c97b9_J5_ensureCapacityInternal_d00df_u100J4 rfl rfl rfl rfl (by decide +kernel) ⟨(Nat.le_of_ble_eq_true rfl), (Nat.le_of_ble_eq_true rfl)⟩) (zPreV hE hS hA hP hD hK (z_pick (n := 2) [0, 1] [] rfl (by decide) rfl rfl) (va_recv hK hP (ci := 1) (q0 := 0) rfl rfl)) rfl rfl hl.1 rfl (lv_room (Nat.le_of_ble_eq_true rfl)) dJ5_append_c97b9_14 ⟨(Nat.le_of_ble_eq_true rfl), (Nat.le_of_ble_eq_true rfl)⟩).run ?_
  refine lv_aload_n hx hb dJ5_append_c97b9_17 rfl (lv_at hl 2 rfl) ?_
  refine zCi (r := 1) (va_runU (As := []) (rest := []) ⟨hx, hb, hml, hown, hts⟩ (c_J5_isLatin1 l G s.heap.size sb va cn) (va_cwU 0 hts gJ5_append_c97b9_J5_isLatin1_aae02_u83J4 rfl rfl rfl rfl (by decide +kernel) ⟨(Nat.le_of_ble_eq_true rfl), (Nat.le_of_ble_eq_true rfl)⟩) (zPreV hE hS hA hP hD hK (z_pick (n := 2) [0] [1] rfl (by decide) rfl rfl) (va_recv hK hP (ci := 1) (q0 := 0) rfl rfl)) rfl rfl hl.1 rfl (lv_room (Nat.le_of_ble_eq_true rfl)) dJ5_append_c97b9_18 ⟨(Nat.le_of_ble_eq_true rfl), (Nat.le_of_ble_eq_true rfl)⟩).run ?_
  refine lv_if_eq (tgt := 37) hx hb dJ5_append_c97b9_21 (by decide) (fun c_1 => absurd c_1 (by decide)) (fun c_1 => ?_)
  refine lv_iload_n hx hb dJ5_append_c97b9_24 rfl (lv_at hl 3 rfl) ?_
  refine lv_iload_n hx hb dJ5_append_c97b9_25 rfl (lv_at hl 0 rfl) ?_
  refine lv_aload_n hx hb dJ5_append_c97b9_26 rfl (lv_at hl 2 rfl) ?_
  refine va_get (D := G.1) (ci := 1) (v := .ref va) (C := RJ4) (T := TJ4) (N := 4) hx hb hts wsi_J5_append_c97b9_J4 hown hK hP 0 rfl rfl 0 (by decide) (hts (.fieldLink "java/lang/AbstractStringBuilder" 15 "java/lang/AbstractStringBuilder" "value" "[B") (List.mem_of_getElem? (i := 2) (by decide +kernel))) (fun _ h9 => h9) rfl dJ5_append_c97b9_27 ?_
  refine zDi (wr := [(sb, .inr (1, [.ref va, .int 0, .int 0, .int (nI cn)]))]) (va_runS (As := [.int (nI dg), .int (nI (cn + 1)), .ref va]) (rest := []) ⟨hx, hb, hml, hown, hts⟩ (c_J6_chars_1 l G s.heap.size va vn vf cn dg hd hcn hvn) (va_cwS 3 hts gJ5_append_c97b9_J6_getChars_ba4f3 rfl rfl rfl (by decide +kernel) ⟨(Nat.le_of_ble_eq_true rfl), (Nat.le_of_ble_eq_true rfl)⟩) (zPreS hE hS hA hP hD hK (z_pick (n := 2) [1] [0] rfl (by decide) rfl rfl)) rfl rfl hl.1 rfl (lv_room (Nat.le_of_ble_eq_true rfl)) dJ5_append_c97b9_30 ⟨(Nat.le_of_ble_eq_true rfl), (Nat.le_of_ble_eq_true rfl)⟩) hP hD hS hA (z_pick (n := 2) [1] [0] rfl (by decide) rfl rfl) (fun r_u_2 u_2 H locs hp_3 hP hD hS => ?_)
  have eu_2_0 := hp_3
  try dsimp only at eu_2_0
  subst eu_2_0
  have hP : zP G [(va, .inl (G.2.1 1, vn, .inl (upd vf cn (zd1 dg)))), (sb, .inr (1, [.ref va, .int 0, .int 0, .int (nI cn)]))] H := hP
  have hD : va_D A [(va, .inl (G.2.1 1, vn, .inl (upd vf cn (zd1 dg)))), (sb, .inr (1, [.ref va, .int 0, .int 0, .int (nI cn)]))] := hD
  refine lv_pop hx hb dJ5_append_c97b9_33 rfl ?_
  refine lv_goto (tgt := 48) hx hb dJ5_append_c97b9_34 (by decide) ?_
  refine lv_aload_n hx hb dJ5_append_c97b9_48 rfl (lv_at hl 2 rfl) ?_
  refine lv_iload_n hx hb dJ5_append_c97b9_49 rfl (lv_at hl 0 rfl) ?_
  refine va_put (D := G.1) (ci := 1) (v := .int (nI (cn + 1))) (ty := .int) (C := RJ4) (T := TJ4) (N := 4) hx hb hts wsi_J5_append_c97b9_J4 tyJ4 tyJ4_ok nmJ4 hown hK hP hD hS 1 rfl rfl 3 (by decide) (hts (.fieldLink "java/lang/AbstractStringBuilder" 79 "java/lang/AbstractStringBuilder" "count" "I") (List.mem_of_getElem? (i := 1) (by decide +kernel))) (fun _ h9 => h9) rfl (by decide +kernel) rfl rfl (Nat.le_of_ble_eq_true rfl) dJ5_append_c97b9_50 (fun H locs hP hD hS => ?_)
  have hP : zP G [(va, .inl (G.2.1 1, vn, .inl (upd vf cn (zd1 dg)))), (sb, .inr (1, [.ref va, .int 0, .int 0, .int (nI (cn + 1))]))] H := hP
  have hD : va_D A [(va, .inl (G.2.1 1, vn, .inl (upd vf cn (zd1 dg)))), (sb, .inr (1, [.ref va, .int 0, .int 0, .int (nI (cn + 1))]))] := hD
  refine lv_aload_n hx hb dJ5_append_c97b9_53 rfl (lv_at hl 2 rfl) ?_
  exact zWr () hx hb hr hlocks (Or.inl ⟨_, rfl⟩) trivial hP hD hK hS (z_pick (n := 2) [1, 0] [] rfl (by decide) rfl rfl) (Nat.le_of_ble_eq_true rfl) (Nat.le_of_ble_eq_true rfl) dJ5_append_c97b9_54

set_option maxHeartbeats 4000000 in
set_option maxRecDepth 100000 in
/-- StringBuilder.append(int), 1 digits -/
theorem c_J4_int_1 (l : Launch) (G : zG) (sz : Nat) (sb : Nat) (va : Nat) (cn : Nat) (vn : Nat) (vf : Nat → Int32) (dg : Nat) (hd : dg < 10) (hcn : cn + 1 ≤ vn) (hvn : vn < 2 ^ 30) : Met l yJ4_append_bf812 wsJ4_append_bf812 { frames := 2, cells := 0, slots := 0, locals := 49 } (zPc G [.ref sb, .int (nI dg)] [(sb, .inr (1, [.ref va, .int 0, .int 0, .int (nI cn)])), (va, .inl (G.2.1 1, vn, .inl vf))] sz) (zQr G (fun (u : Unit) => True) (fun u => [(sb, .inr (1, [.ref va, .int 0, .int 0, .int (nI (cn + 1))])), (va, .inl (G.2.1 1, vn, .inl (upd vf cn (zd1 dg))))]) (fun u => sb) (va_A [(sb, .inr (1, [.ref va, .int 0, .int 0, .int (nI cn)])), (va, .inl (G.2.1 1, vn, .inl vf))] sz)) 0 0 (va_A [(sb, .inr (1, [.ref va, .int 0, .int 0, .int (nI cn)])), (va, .inl (G.2.1 1, vn, .inl vf))] sz) := by
  refine zOfW (Qc := fun A => zQr G (fun (u : Unit) => True) (fun u => [(sb, .inr (1, [.ref va, .int 0, .int 0, .int (nI (cn + 1))])), (va, .inl (G.2.1 1, vn, .inl (upd vf cn (zd1 dg))))]) (fun u => sb) A) (fr := fun A => A) (cc := cJ4_append_bf812) (maxL := 2) (ret := (some (.object "java/lang/StringBuilder"))) (by decide) rfl (Nat.le_of_ble_eq_true rfl) ?_
  intro p e s m below meth c hx hb hml hr hlocks hown hin hts A hP hK hD hE hA hS ls hl
  have hl : lv_has ls 2 [(0, .ref sb), (1, .int (nI dg))] := hl
  have hown : s.vm.findClass RJ4 = some m.cls := hown
  have hP : zP G [(sb, .inr (1, [.ref va, .int 0, .int 0, .int (nI cn)])), (va, .inl (G.2.1 1, vn, .inl vf))] s.heap := hP
  have hD : va_D A [(sb, .inr (1, [.ref va, .int 0, .int 0, .int (nI cn)])), (va, .inl (G.2.1 1, vn, .inl vf))] := hD
  refine lv_aload_n hx hb dJ4_append_bf812_0 rfl (lv_at hl 0 rfl) ?_
  refine lv_iload_n hx hb dJ4_append_bf812_1 rfl (lv_at hl 1 rfl) ?_
  refine zDr (wr := []) (va_runSU (hK.1 1 _ rfl).2 (As := [.int (nI dg)]) (rest := []) ⟨hx, hb, hml, hown, hts⟩ (c_J5_int_1 l G s.heap.size sb va cn vn vf dg hd hcn hvn) (va_cwSU 1 hts gJ4_append_bf812_J5_append_c97b9_s53 rfl rfl rfl (by decide +kernel) ⟨(Nat.le_of_ble_eq_true rfl), (Nat.le_of_ble_eq_true rfl)⟩) (zPreV hE hS hA hP hD hK (z_pick (n := 2) [0, 1] [] rfl (by decide) rfl rfl) (va_recv hK hP (ci := 1) (q0 := 0) rfl rfl)) rfl rfl hl.1 rfl (lv_room (Nat.le_of_ble_eq_true rfl)) dJ4_append_bf812_2 ⟨(Nat.le_of_ble_eq_true rfl), (Nat.le_of_ble_eq_true rfl)⟩) hP hD hS hA (z_pick (n := 2) [0, 1] [] rfl (by decide) rfl rfl) (fun u_1 H locs hp_2 hP hD hS => ?_)
  have hP : zP G [(sb, .inr (1, [.ref va, .int 0, .int 0, .int (nI (cn + 1))])), (va, .inl (G.2.1 1, vn, .inl (upd vf cn (zd1 dg))))] H := hP
  have hD : va_D A [(sb, .inr (1, [.ref va, .int 0, .int 0, .int (nI (cn + 1))])), (va, .inl (G.2.1 1, vn, .inl (upd vf cn (zd1 dg))))] := hD
  refine lv_pop hx hb dJ4_append_bf812_5 rfl ?_
  refine lv_aload_n hx hb dJ4_append_bf812_6 rfl (lv_at hl 0 rfl) ?_
  exact zWr () hx hb hr hlocks (Or.inl ⟨_, rfl⟩) trivial hP hD hK hS (z_pick (n := 2) [0, 1] [] rfl (by decide) rfl rfl) (Nat.le_of_ble_eq_true rfl) (Nat.le_of_ble_eq_true rfl) dJ4_append_bf812_7

set_option maxHeartbeats 4000000 in
set_option maxRecDepth 100000 in
/-- append(int), 2 digits -/
theorem c_J5_int_2 (l : Launch) (G : zG) (sz : Nat) (sb : Nat) (va : Nat) (cn : Nat) (vn : Nat) (vf : Nat → Int32) (dg : Nat) (hd1 : 10 ≤ dg) (hd2 : dg < 100) (hcn : cn + 2 ≤ vn) (hvn : vn < 2 ^ 30) : Met l yJ5_append_c97b9 wsJ5_append_c97b9 { frames := 1, cells := 0, slots := 0, locals := 26 } (zPc G [.ref sb, .int (nI dg)] [(sb, .inr (1, [.ref va, .int 0, .int 0, .int (nI cn)])), (va, .inl (G.2.1 1, vn, .inl vf))] sz) (zQr G (fun (u : Unit) => True) (fun u => [(sb, .inr (1, [.ref va, .int 0, .int 0, .int (nI (cn + 2))])), (va, .inl (G.2.1 1, vn, .inl (upd (upd vf (cn + 1) (zd1 dg)) cn (zd2 dg))))]) (fun u => sb) (va_A [(sb, .inr (1, [.ref va, .int 0, .int 0, .int (nI cn)])), (va, .inl (G.2.1 1, vn, .inl vf))] sz)) 0 0 (va_A [(sb, .inr (1, [.ref va, .int 0, .int 0, .int (nI cn)])), (va, .inl (G.2.1 1, vn, .inl vf))] sz) := by
  refine zOfW (Qc := fun A => zQr G (fun (u : Unit) => True) (fun u => [(sb, .inr (1, [.ref va, .int 0, .int 0, .int (nI (cn + 2))])), (va, .inl (G.2.1 1, vn, .inl (upd (upd vf (cn + 1) (zd1 dg)) cn (zd2 dg))))]) (fun u => sb) A) (fr := fun A => A) (cc := cJ5_append_c97b9) (maxL := 4) (ret := (some (.object "java/lang/AbstractStringBuilder"))) (by decide) rfl (Nat.le_of_ble_eq_true rfl) ?_
  intro p e s m below meth c hx hb hml hr hlocks hown hin hts A hP hK hD hE hA hS ls hl
  have hl : lv_has ls 4 [(0, .ref sb), (1, .int (nI dg))] := hl
  have hown : s.vm.findClass RJ5 = some m.cls := hown
  have hP : zP G [(sb, .inr (1, [.ref va, .int 0, .int 0, .int (nI cn)])), (va, .inl (G.2.1 1, vn, .inl vf))] s.heap := hP
  have hD : va_D A [(sb, .inr (1, [.ref va, .int 0, .int 0, .int (nI cn)])), (va, .inl (G.2.1 1, vn, .inl vf))] := hD
  refine lv_aload_n hx hb dJ5_append_c97b9_0 rfl (lv_at hl 0 rfl) ?_
  refine va_get (D := G.1) (ci := 1) (v := .int (nI cn)) (C := RJ4) (T := TJ4) (N := 4) hx hb hts wsi_J5_append_c97b9_J4 hown hK hP 0 rfl rfl 3 (by decide) (hts (.fieldLink "java/lang/AbstractStringBuilder" 79 "java/lang/AbstractStringBuilder" "count" "I") (List.mem_of_getElem? (i := 1) (by decide +kernel))) (fun _ h9 => h9) rfl dJ5_append_c97b9_1 ?_
  refine lv_istore_n (lv' := [(2, .int (nI cn)), (0, .ref sb), (1, .int (nI dg))]) hx hb dJ5_append_c97b9_4 rfl hl (by decide) rfl (fun ls hl => ?_)
  refine lv_iload_n hx hb dJ5_append_c97b9_5 rfl (lv_at hl 0 rfl) ?_
  refine lv_iload_n hx hb dJ5_append_c97b9_6 rfl (lv_at hl 2 rfl) ?_
  refine zCi (r := 2) (va_runS (As := [.int (nI dg)]) (rest := [.int (nI cn)]) ⟨hx, hb, hml, hown, hts⟩ (c_J6_size_2 l G s.heap.size dg hd1 hd2) (va_cwS 1 hts gJ5_append_c97b9_J6_stringSize_0f7a4 rfl rfl rfl (by decide +kernel) ⟨(Nat.le_of_ble_eq_true rfl), (Nat.le_of_ble_eq_true rfl)⟩) (zPreS hE hS hA hP hD hK (z_pick (n := 2) [] [0, 1] rfl (by decide) rfl rfl)) rfl rfl hl.1 rfl (lv_room (Nat.le_of_ble_eq_true rfl)) dJ5_append_c97b9_7 ⟨(Nat.le_of_ble_eq_true rfl), (Nat.le_of_ble_eq_true rfl)⟩).run ?_
  refine lv_iadd hx hb dJ5_append_c97b9_10 ?_
  refine zTop (v := nI (cn + 2)) (show ((nI cn) + 2 : Int32) = nI (cn + 2) from nI_add cn 2) ?_
  refine lv_istore_n (lv' := [(3, .int (nI (cn + 2))), (2, .int (nI cn)), (0, .ref sb), (1, .int (nI dg))]) hx hb dJ5_append_c97b9_11 rfl hl (by decide) rfl (fun ls hl => ?_)
  refine lv_aload_n hx hb dJ5_append_c97b9_12 rfl (lv_at hl 2 rfl) ?_
  refine lv_iload_n hx hb dJ5_append_c97b9_13 rfl (lv_at hl 0 rfl) ?_
  refine zCv (va_runU (As := [.int (nI (cn + 2))]) (rest := []) ⟨hx, hb, hml, hown, hts⟩ (c_J5_ensure_n l G s.heap.size sb va cn vn vf (cn + 2) hcn hvn) (va_cwU 1 hts gJ5_append_c97b9_J5_ensureCapacityInternal_d00df_u100J4 rfl rfl rfl rfl (by decide +kernel) ⟨(Nat.le_of_ble_eq_true rfl), (Nat.le_of_ble_eq_true rfl)⟩) (zPreV hE hS hA hP hD hK (z_pick (n := 2) [0, 1] [] rfl (by decide) rfl rfl) (va_recv hK hP (ci := 1) (q0 := 0) rfl rfl)) rfl rfl hl.1 rfl (lv_room (Nat.le_of_ble_eq_true rfl)) dJ5_append_c97b9_14 ⟨(Nat.le_of_ble_eq_true rfl), (Nat.le_of_ble_eq_true rfl)⟩).run ?_
  refine lv_aload_n hx hb dJ5_append_c97b9_17 rfl (lv_at hl 2 rfl) ?_
  refine zCi (r := 1) (va_runU (As := []) (rest := []) ⟨hx, hb, hml, hown, hts⟩ (c_J5_isLatin1 l G s.heap.size sb va cn) (va_cwU 0 hts gJ5_append_c97b9_J5_isLatin1_aae02_u83J4 rfl rfl rfl rfl (by decide +kernel) ⟨(Nat.le_of_ble_eq_true rfl), (Nat.le_of_ble_eq_true rfl)⟩) (zPreV hE hS hA hP hD hK (z_pick (n := 2) [0] [1] rfl (by decide) rfl rfl) (va_recv hK hP (ci := 1) (q0 := 0) rfl rfl)) rfl rfl hl.1 rfl (lv_room (Nat.le_of_ble_eq_true rfl)) dJ5_append_c97b9_18 ⟨(Nat.le_of_ble_eq_true rfl), (Nat.le_of_ble_eq_true rfl)⟩).run ?_
  refine lv_if_eq (tgt := 37) hx hb dJ5_append_c97b9_21 (by decide) (fun c_1 => absurd c_1 (by decide)) (fun c_1 => ?_)
  refine lv_iload_n hx hb dJ5_append_c97b9_24 rfl (lv_at hl 3 rfl) ?_
  refine lv_iload_n hx hb dJ5_append_c97b9_25 rfl (lv_at hl 0 rfl) ?_
  refine lv_aload_n hx hb dJ5_append_c97b9_26 rfl (lv_at hl 2 rfl) ?_
  refine va_get (D := G.1) (ci := 1) (v := .ref va) (C := RJ4) (T := TJ4) (N := 4) hx hb hts wsi_J5_append_c97b9_J4 hown hK hP 0 rfl rfl 0 (by decide) (hts (.fieldLink "java/lang/AbstractStringBuilder" 15 "java/lang/AbstractStringBuilder" "value" "[B") (List.mem_of_getElem? (i := 2) (by decide +kernel))) (fun _ h9 => h9) rfl dJ5_append_c97b9_27 ?_
  refine zDi (wr := [(sb, .inr (1, [.ref va, .int 0, .int 0, .int (nI cn)]))]) (va_runS (As := [.int (nI dg), .int (nI (cn + 2)), .ref va]) (rest := []) ⟨hx, hb, hml, hown, hts⟩ (c_J6_chars_2 l G s.heap.size va vn vf cn dg hd1 hd2 hcn hvn) (va_cwS 3 hts gJ5_append_c97b9_J6_getChars_ba4f3 rfl rfl rfl (by decide +kernel) ⟨(Nat.le_of_ble_eq_true rfl), (Nat.le_of_ble_eq_true rfl)⟩) (zPreS hE hS hA hP hD hK (z_pick (n := 2) [1] [0] rfl (by decide) rfl rfl)) rfl rfl hl.1 rfl (lv_room (Nat.le_of_ble_eq_true rfl)) dJ5_append_c97b9_30 ⟨(Nat.le_of_ble_eq_true rfl), (Nat.le_of_ble_eq_true rfl)⟩) hP hD hS hA (z_pick (n := 2) [1] [0] rfl (by decide) rfl rfl) (fun r_u_2 u_2 H locs hp_3 hP hD hS => ?_)
  have eu_2_0 := hp_3
  try dsimp only at eu_2_0
  subst eu_2_0
  have hP : zP G [(va, .inl (G.2.1 1, vn, .inl (upd (upd vf (cn + 1) (zd1 dg)) cn (zd2 dg)))), (sb, .inr (1, [.ref va, .int 0, .int 0, .int (nI cn)]))] H := hP
  have hD : va_D A [(va, .inl (G.2.1 1, vn, .inl (upd (upd vf (cn + 1) (zd1 dg)) cn (zd2 dg)))), (sb, .inr (1, [.ref va, .int 0, .int 0, .int (nI cn)]))] := hD
  refine lv_pop hx hb dJ5_append_c97b9_33 rfl ?_
  refine lv_goto (tgt := 48) hx hb dJ5_append_c97b9_34 (by decide) ?_
  refine lv_aload_n hx hb dJ5_append_c97b9_48 rfl (lv_at hl 2 rfl) ?_
  refine lv_iload_n hx hb dJ5_append_c97b9_49 rfl (lv_at hl 0 rfl) ?_
  refine va_put (D := G.1) (ci := 1) (v := .int (nI (cn + 2))) (ty := .int) (C := RJ4) (T := TJ4) (N := 4) hx hb hts wsi_J5_append_c97b9_J4 tyJ4 tyJ4_ok nmJ4 hown hK hP hD hS 1 rfl rfl 3 (by decide) (hts (.fieldLink "java/lang/AbstractStringBuilder" 79 "java/lang/AbstractStringBuilder" "count" "I") (List.mem_of_getElem? (i := 1) (by decide +kernel))) (fun _ h9 => h9) rfl (by decide +kernel) rfl rfl (Nat.le_of_ble_eq_true rfl) dJ5_append_c97b9_50 (fun H locs hP hD hS => ?_)
  have hP : zP G [(va, .inl (G.2.1 1, vn, .inl (upd (upd vf (cn + 1) (zd1 dg)) cn (zd2 dg)))), (sb, .inr (1, [.ref va, .int 0, .int 0, .int (nI (cn + 2))]))] H := hP
  have hD : va_D A [(va, .inl (G.2.1 1, vn, .inl (upd (upd vf (cn + 1) (zd1 dg)) cn (zd2 dg)))), (sb, .inr (1, [.ref va, .int 0, .int 0, .int (nI (cn + 2))]))] := hD
  refine lv_aload_n hx hb dJ5_append_c97b9_53 rfl (lv_at hl 2 rfl) ?_
  exact zWr () hx hb hr hlocks (Or.inl ⟨_, rfl⟩) trivial hP hD hK hS (z_pick (n := 2) [1, 0] [] rfl (by decide) rfl rfl) (Nat.le_of_ble_eq_true rfl) (Nat.le_of_ble_eq_true rfl) dJ5_append_c97b9_54

set_option maxHeartbeats 4000000 in
set_option maxRecDepth 100000 in
/-- StringBuilder.append(int), 2 digits -/
theorem c_J4_int_2 (l : Launch) (G : zG) (sz : Nat) (sb : Nat) (va : Nat) (cn : Nat) (vn : Nat) (vf : Nat → Int32) (dg : Nat) (hd1 : 10 ≤ dg) (hd2 : dg < 100) (hcn : cn + 2 ≤ vn) (hvn : vn < 2 ^ 30) : Met l yJ4_append_bf812 wsJ4_append_bf812 { frames := 2, cells := 0, slots := 0, locals := 49 } (zPc G [.ref sb, .int (nI dg)] [(sb, .inr (1, [.ref va, .int 0, .int 0, .int (nI cn)])), (va, .inl (G.2.1 1, vn, .inl vf))] sz) (zQr G (fun (u : Unit) => True) (fun u => [(sb, .inr (1, [.ref va, .int 0, .int 0, .int (nI (cn + 2))])), (va, .inl (G.2.1 1, vn, .inl (upd (upd vf (cn + 1) (zd1 dg)) cn (zd2 dg))))]) (fun u => sb) (va_A [(sb, .inr (1, [.ref va, .int 0, .int 0, .int (nI cn)])), (va, .inl (G.2.1 1, vn, .inl vf))] sz)) 0 0 (va_A [(sb, .inr (1, [.ref va, .int 0, .int 0, .int (nI cn)])), (va, .inl (G.2.1 1, vn, .inl vf))] sz) := by
  refine zOfW (Qc := fun A => zQr G (fun (u : Unit) => True) (fun u => [(sb, .inr (1, [.ref va, .int 0, .int 0, .int (nI (cn + 2))])), (va, .inl (G.2.1 1, vn, .inl (upd (upd vf (cn + 1) (zd1 dg)) cn (zd2 dg))))]) (fun u => sb) A) (fr := fun A => A) (cc := cJ4_append_bf812) (maxL := 2) (ret := (some (.object "java/lang/StringBuilder"))) (by decide) rfl (Nat.le_of_ble_eq_true rfl) ?_
  intro p e s m below meth c hx hb hml hr hlocks hown hin hts A hP hK hD hE hA hS ls hl
  have hl : lv_has ls 2 [(0, .ref sb), (1, .int (nI dg))] := hl
  have hown : s.vm.findClass RJ4 = some m.cls := hown
  have hP : zP G [(sb, .inr (1, [.ref va, .int 0, .int 0, .int (nI cn)])), (va, .inl (G.2.1 1, vn, .inl vf))] s.heap := hP
  have hD : va_D A [(sb, .inr (1, [.ref va, .int 0, .int 0, .int (nI cn)])), (va, .inl (G.2.1 1, vn, .inl vf))] := hD
  refine lv_aload_n hx hb dJ4_append_bf812_0 rfl (lv_at hl 0 rfl) ?_
  refine lv_iload_n hx hb dJ4_append_bf812_1 rfl (lv_at hl 1 rfl) ?_
  refine zDr (wr := []) (va_runSU (hK.1 1 _ rfl).2 (As := [.int (nI dg)]) (rest := []) ⟨hx, hb, hml, hown, hts⟩ (c_J5_int_2 l G s.heap.size sb va cn vn vf dg hd1 hd2 hcn hvn) (va_cwSU 1 hts gJ4_append_bf812_J5_append_c97b9_s53 rfl rfl rfl (by decide +kernel) ⟨(Nat.le_of_ble_eq_true rfl), (Nat.le_of_ble_eq_true rfl)⟩) (zPreV hE hS hA hP hD hK (z_pick (n := 2) [0, 1] [] rfl (by decide) rfl rfl) (va_recv hK hP (ci := 1) (q0 := 0) rfl rfl)) rfl rfl hl.1 rfl (lv_room (Nat.le_of_ble_eq_true rfl)) dJ4_append_bf812_2 ⟨(Nat.le_of_ble_eq_true rfl), (Nat.le_of_ble_eq_true rfl)⟩) hP hD hS hA (z_pick (n := 2) [0, 1] [] rfl (by decide) rfl rfl) (fun u_1 H locs hp_2 hP hD hS => ?_)
  have hP : zP G [(sb, .inr (1, [.ref va, .int 0, .int 0, .int (nI (cn + 2))])), (va, .inl (G.2.1 1, vn, .inl (upd (upd vf (cn + 1) (zd1 dg)) cn (zd2 dg))))] H := hP
  have hD : va_D A [(sb, .inr (1, [.ref va, .int 0, .int 0, .int (nI (cn + 2))])), (va, .inl (G.2.1 1, vn, .inl (upd (upd vf (cn + 1) (zd1 dg)) cn (zd2 dg))))] := hD
  refine lv_pop hx hb dJ4_append_bf812_5 rfl ?_
  refine lv_aload_n hx hb dJ4_append_bf812_6 rfl (lv_at hl 0 rfl) ?_
  exact zWr () hx hb hr hlocks (Or.inl ⟨_, rfl⟩) trivial hP hD hK hS (z_pick (n := 2) [0, 1] [] rfl (by decide) rfl rfl) (Nat.le_of_ble_eq_true rfl) (Nat.le_of_ble_eq_true rfl) dJ4_append_bf812_7

theorem wsi_J5_append_3fe6f_J4 : ∀ w ∈ wsJ40, w ∈ wsJ5_append_3fe6f := fun w h => List.mem_cons_of_mem _ (List.mem_append_right _ h)
set_option maxHeartbeats 4000000 in
set_option maxRecDepth 100000 in
/-- append of the point -/
theorem c_J5_dot (l : Launch) (G : zG) (sz : Nat) (sb : Nat) (va : Nat) (cn : Nat) (vn : Nat) (vf : Nat → Int32) (hcn : cn + 1 ≤ vn) (hvn : vn < 2 ^ 30) : Met l yJ5_append_3fe6f wsJ5_append_3fe6f { frames := 1, cells := 0, slots := 0, locals := 22 } (zPc G [.ref sb, .int 46] [(sb, .inr (1, [.ref va, .int 0, .int 0, .int (nI cn)])), (va, .inl (G.2.1 1, vn, .inl vf))] sz) (zQr G (fun (u : Unit) => True) (fun u => [(sb, .inr (1, [.ref va, .int 0, .int 0, .int (nI (cn + 1))])), (va, .inl (G.2.1 1, vn, .inl (upd vf cn 46)))]) (fun u => sb) (va_A [(sb, .inr (1, [.ref va, .int 0, .int 0, .int (nI cn)])), (va, .inl (G.2.1 1, vn, .inl vf))] sz)) 0 0 (va_A [(sb, .inr (1, [.ref va, .int 0, .int 0, .int (nI cn)])), (va, .inl (G.2.1 1, vn, .inl vf))] sz) := by
  refine zOfW (Qc := fun A => zQr G (fun (u : Unit) => True) (fun u => [(sb, .inr (1, [.ref va, .int 0, .int 0, .int (nI (cn + 1))])), (va, .inl (G.2.1 1, vn, .inl (upd vf cn 46)))]) (fun u => sb) A) (fr := fun A => A) (cc := cJ5_append_3fe6f) (maxL := 2) (ret := (some (.object "java/lang/AbstractStringBuilder"))) (by decide) rfl (Nat.le_of_ble_eq_true rfl) ?_
  intro p e s m below meth c hx hb hml hr hlocks hown hin hts A hP hK hD hE hA hS ls hl
  have hl : lv_has ls 2 [(0, .ref sb), (1, .int 46)] := hl
  have hown : s.vm.findClass RJ5 = some m.cls := hown
  have hP : zP G [(sb, .inr (1, [.ref va, .int 0, .int 0, .int (nI cn)])), (va, .inl (G.2.1 1, vn, .inl vf))] s.heap := hP
  have hD : va_D A [(sb, .inr (1, [.ref va, .int 0, .int 0, .int (nI cn)])), (va, .inl (G.2.1 1, vn, .inl vf))] := hD
  refine lv_aload_n hx hb dJ5_append_3fe6f_0 rfl (lv_at hl 0 rfl) ?_
  refine lv_aload_n hx hb dJ5_append_3fe6f_1 rfl (lv_at hl 0 rfl) ?_
  refine va_get (D := G.1) (ci := 1) (v := .int (nI cn)) (C := RJ4) (T := TJ4) (N := 4) hx hb hts wsi_J5_append_3fe6f_J4 hown hK hP 0 rfl rfl 3 (by decide) (hts (.fieldLink "java/lang/AbstractStringBuilder" 79 "java/lang/AbstractStringBuilder" "count" "I") (List.mem_of_getElem? (i := 1) (by decide +kernel))) (fun _ h9 => h9) rfl dJ5_append_3fe6f_2 ?_
  refine lv_iconst (v := 1) hx hb dJ5_append_3fe6f_5 (by decide) ?_
  refine lv_iadd hx hb dJ5_append_3fe6f_6 ?_
  refine zTop (v := nI (cn + 1)) (show ((nI cn) + 1 : Int32) = nI (cn + 1) from nI_add cn 1) ?_
  refine zCv (va_runU (As := [.int (nI (cn + 1))]) (rest := []) ⟨hx, hb, hml, hown, hts⟩ (c_J5_ensure_n l G s.heap.size sb va cn vn vf (cn + 1) hcn hvn) (va_cwU 1 hts gJ5_append_3fe6f_J5_ensureCapacityInternal_d00df_u100J4 rfl rfl rfl rfl (by decide +kernel) ⟨(Nat.le_of_ble_eq_true rfl), (Nat.le_of_ble_eq_true rfl)⟩) (zPreV hE hS hA hP hD hK (z_pick (n := 2) [0, 1] [] rfl (by decide) rfl rfl) (va_recv hK hP (ci := 1) (q0 := 0) rfl rfl)) rfl rfl hl.1 rfl (lv_room (Nat.le_of_ble_eq_true rfl)) dJ5_append_3fe6f_7 ⟨(Nat.le_of_ble_eq_true rfl), (Nat.le_of_ble_eq_true rfl)⟩).run ?_
  refine lv_aload_n hx hb dJ5_append_3fe6f_10 rfl (lv_at hl 0 rfl) ?_
  refine zCi (r := 1) (va_runU (As := []) (rest := []) ⟨hx, hb, hml, hown, hts⟩ (c_J5_isLatin1 l G s.heap.size sb va cn) (va_cwU 0 hts gJ5_append_3fe6f_J5_isLatin1_aae02_u83J4 rfl rfl rfl rfl (by decide +kernel) ⟨(Nat.le_of_ble_eq_true rfl), (Nat.le_of_ble_eq_true rfl)⟩) (zPreV hE hS hA hP hD hK (z_pick (n := 2) [0] [1] rfl (by decide) rfl rfl) (va_recv hK hP (ci := 1) (q0 := 0) rfl rfl)) rfl rfl hl.1 rfl (lv_room (Nat.le_of_ble_eq_true rfl)) dJ5_append_3fe6f_11 ⟨(Nat.le_of_ble_eq_true rfl), (Nat.le_of_ble_eq_true rfl)⟩).run ?_
  refine lv_if_eq (tgt := 45) hx hb dJ5_append_3fe6f_14 (by decide) (fun c_1 => absurd c_1 (by decide)) (fun c_1 => ?_)
  refine lv_iload_n hx hb dJ5_append_3fe6f_17 rfl (lv_at hl 1 rfl) ?_
  refine zCi (r := 1) (va_runS (As := [.int 46]) (rest := []) ⟨hx, hb, hml, hown, hts⟩ (c_J1_canEncode l G s.heap.size) (va_cwS 1 hts gJ5_append_3fe6f_J1_canEncode_fc78d rfl rfl rfl (by decide +kernel) ⟨(Nat.le_of_ble_eq_true rfl), (Nat.le_of_ble_eq_true rfl)⟩) (zPreS hE hS hA hP hD hK (z_pick (n := 2) [] [0, 1] rfl (by decide) rfl rfl)) rfl rfl hl.1 rfl (lv_room (Nat.le_of_ble_eq_true rfl)) dJ5_append_3fe6f_18 ⟨(Nat.le_of_ble_eq_true rfl), (Nat.le_of_ble_eq_true rfl)⟩).run ?_
  refine lv_if_eq (tgt := 45) hx hb dJ5_append_3fe6f_21 (by decide) (fun c_2 => absurd c_2 (by decide)) (fun c_2 => ?_)
  refine lv_aload_n hx hb dJ5_append_3fe6f_24 rfl (lv_at hl 0 rfl) ?_
  refine va_get (D := G.1) (ci := 1) (v := .ref va) (C := RJ4) (T := TJ4) (N := 4) hx hb hts wsi_J5_append_3fe6f_J4 hown hK hP 0 rfl rfl 0 (by decide) (hts (.fieldLink "java/lang/AbstractStringBuilder" 15 "java/lang/AbstractStringBuilder" "value" "[B") (List.mem_of_getElem? (i := 2) (by decide +kernel))) (fun _ h9 => h9) rfl dJ5_append_3fe6f_25 ?_
  refine lv_aload_n hx hb dJ5_append_3fe6f_28 rfl (lv_at hl 0 rfl) ?_
  refine lv_dup hx hb dJ5_append_3fe6f_29 rfl ?_
  refine va_get (D := G.1) (ci := 1) (v := .int (nI cn)) (C := RJ4) (T := TJ4) (N := 4) hx hb hts wsi_J5_append_3fe6f_J4 hown hK hP 0 rfl rfl 3 (by decide) (hts (.fieldLink "java/lang/AbstractStringBuilder" 79 "java/lang/AbstractStringBuilder" "count" "I") (List.mem_of_getElem? (i := 1) (by decide +kernel))) (fun _ h9 => h9) rfl dJ5_append_3fe6f_30 ?_
  refine lv_dup_x1 hx hb dJ5_append_3fe6f_33 rfl rfl ?_
  refine lv_iconst (v := 1) hx hb dJ5_append_3fe6f_34 (by decide) ?_
  refine lv_iadd hx hb dJ5_append_3fe6f_35 ?_
  refine zTop (v := nI (cn + 1)) (show ((nI cn) + 1 : Int32) = nI (cn + 1) from nI_add cn 1) ?_
  refine va_put (D := G.1) (ci := 1) (v := .int (nI (cn + 1))) (ty := .int) (C := RJ4) (T := TJ4) (N := 4) hx hb hts wsi_J5_append_3fe6f_J4 tyJ4 tyJ4_ok nmJ4 hown hK hP hD hS 0 rfl rfl 3 (by decide) (hts (.fieldLink "java/lang/AbstractStringBuilder" 79 "java/lang/AbstractStringBuilder" "count" "I") (List.mem_of_getElem? (i := 1) (by decide +kernel))) (fun _ h9 => h9) rfl (by decide +kernel) rfl rfl (Nat.le_of_ble_eq_true rfl) dJ5_append_3fe6f_36 (fun H locs hP hD hS => ?_)
  have hP : zP G [(sb, .inr (1, [.ref va, .int 0, .int 0, .int (nI (cn + 1))])), (va, .inl (G.2.1 1, vn, .inl vf))] H := hP
  have hD : va_D A [(sb, .inr (1, [.ref va, .int 0, .int 0, .int (nI (cn + 1))])), (va, .inl (G.2.1 1, vn, .inl vf))] := hD
  refine lv_iload_n hx hb dJ5_append_3fe6f_39 rfl (lv_at hl 1 rfl) ?_
  refine lv_i2b (v := 46) hx hb dJ5_append_3fe6f_40 rfl ?_
  refine zBast (y := 46) hx hb hK hP hD hS 1 rfl cn rfl (by omega) (by omega) rfl dJ5_append_3fe6f_41 (fun H locs hP hD hS => ?_)
  have hP : zP G [(sb, .inr (1, [.ref va, .int 0, .int 0, .int (nI (cn + 1))])), (va, .inl (G.2.1 1, vn, .inl (upd vf cn 46)))] H := hP
  have hD : va_D A [(sb, .inr (1, [.ref va, .int 0, .int 0, .int (nI (cn + 1))])), (va, .inl (G.2.1 1, vn, .inl (upd vf cn 46)))] := hD
  refine lv_goto (tgt := 75) hx hb dJ5_append_3fe6f_42 (by decide) ?_
  refine lv_aload_n hx hb dJ5_append_3fe6f_75 rfl (lv_at hl 0 rfl) ?_
  exact zWr () hx hb hr hlocks (Or.inl ⟨_, rfl⟩) trivial hP hD hK hS (z_pick (n := 2) [0, 1] [] rfl (by decide) rfl rfl) (Nat.le_of_ble_eq_true rfl) (Nat.le_of_ble_eq_true rfl) dJ5_append_3fe6f_76

set_option maxHeartbeats 4000000 in
set_option maxRecDepth 100000 in
/-- StringBuilder.append of the point -/
theorem c_J4_dot (l : Launch) (G : zG) (sz : Nat) (sb : Nat) (va : Nat) (cn : Nat) (vn : Nat) (vf : Nat → Int32) (hcn : cn + 1 ≤ vn) (hvn : vn < 2 ^ 30) : Met l yJ4_append_cf468 wsJ4_append_cf468 { frames := 2, cells := 0, slots := 0, locals := 43 } (zPc G [.ref sb, .int 46] [(sb, .inr (1, [.ref va, .int 0, .int 0, .int (nI cn)])), (va, .inl (G.2.1 1, vn, .inl vf))] sz) (zQr G (fun (u : Unit) => True) (fun u => [(sb, .inr (1, [.ref va, .int 0, .int 0, .int (nI (cn + 1))])), (va, .inl (G.2.1 1, vn, .inl (upd vf cn 46)))]) (fun u => sb) (va_A [(sb, .inr (1, [.ref va, .int 0, .int 0, .int (nI cn)])), (va, .inl (G.2.1 1, vn, .inl vf))] sz)) 0 0 (va_A [(sb, .inr (1, [.ref va, .int 0, .int 0, .int (nI cn)])), (va, .inl (G.2.1 1, vn, .inl vf))] sz) := by
  refine zOfW (Qc := fun A => zQr G (fun (u : Unit) => True) (fun u => [(sb, .inr (1, [.ref va, .int 0, .int 0, .int (nI (cn + 1))])), (va, .inl (G.2.1 1, vn, .inl (upd vf cn 46)))]) (fun u => sb) A) (fr := fun A => A) (cc := cJ4_append_cf468) (maxL := 2) (ret := (some (.object "java/lang/StringBuilder"))) (by decide) rfl (Nat.le_of_ble_eq_true rfl) ?_
  intro p e s m below meth c hx hb hml hr hlocks hown hin hts A hP hK hD hE hA hS ls hl
  have hl : lv_has ls 2 [(0, .ref sb), (1, .int 46)] := hl
  have hown : s.vm.findClass RJ4 = some m.cls := hown
  have hP : zP G [(sb, .inr (1, [.ref va, .int 0, .int 0, .int (nI cn)])), (va, .inl (G.2.1 1, vn, .inl vf))] s.heap := hP
  have hD : va_D A [(sb, .inr (1, [.ref va, .int 0, .int 0, .int (nI cn)])), (va, .inl (G.2.1 1, vn, .inl vf))] := hD
  refine lv_aload_n hx hb dJ4_append_cf468_0 rfl (lv_at hl 0 rfl) ?_
  refine lv_iload_n hx hb dJ4_append_cf468_1 rfl (lv_at hl 1 rfl) ?_
  refine zDr (wr := []) (va_runSU (hK.1 1 _ rfl).2 (As := [.int 46]) (rest := []) ⟨hx, hb, hml, hown, hts⟩ (c_J5_dot l G s.heap.size sb va cn vn vf hcn hvn) (va_cwSU 1 hts gJ4_append_cf468_J5_append_3fe6f_s50 rfl rfl rfl (by decide +kernel) ⟨(Nat.le_of_ble_eq_true rfl), (Nat.le_of_ble_eq_true rfl)⟩) (zPreV hE hS hA hP hD hK (z_pick (n := 2) [0, 1] [] rfl (by decide) rfl rfl) (va_recv hK hP (ci := 1) (q0 := 0) rfl rfl)) rfl rfl hl.1 rfl (lv_room (Nat.le_of_ble_eq_true rfl)) dJ4_append_cf468_2 ⟨(Nat.le_of_ble_eq_true rfl), (Nat.le_of_ble_eq_true rfl)⟩) hP hD hS hA (z_pick (n := 2) [0, 1] [] rfl (by decide) rfl rfl) (fun u_1 H locs hp_2 hP hD hS => ?_)
  have hP : zP G [(sb, .inr (1, [.ref va, .int 0, .int 0, .int (nI (cn + 1))])), (va, .inl (G.2.1 1, vn, .inl (upd vf cn 46)))] H := hP
  have hD : va_D A [(sb, .inr (1, [.ref va, .int 0, .int 0, .int (nI (cn + 1))])), (va, .inl (G.2.1 1, vn, .inl (upd vf cn 46)))] := hD
  refine lv_pop hx hb dJ4_append_cf468_5 rfl ?_
  refine lv_aload_n hx hb dJ4_append_cf468_6 rfl (lv_at hl 0 rfl) ?_
  exact zWr () hx hb hr hlocks (Or.inl ⟨_, rfl⟩) trivial hP hD hK hS (z_pick (n := 2) [0, 1] [] rfl (by decide) rfl rfl) (Nat.le_of_ble_eq_true rfl) (Nat.le_of_ble_eq_true rfl) dJ4_append_cf468_7

theorem wsi_J5_init_d00df_J4 : ∀ w ∈ wsJ40, w ∈ wsJ5_init_d00df := fun w h => List.mem_cons_of_mem _ (List.mem_append_right _ h)
set_option maxHeartbeats 4000000 in
set_option maxRecDepth 100000 in
/-- AbstractStringBuilder(16) -/
theorem c_J5_init (l : Launch) (G : zG) (sz : Nat) (sb : Nat) : Met l yJ5_init_d00df wsJ5_init_d00df { frames := 1, cells := 1, slots := 16, locals := 20 } (zPc G [.ref sb, .int 16] [(sb, .inr (1, [.null, .int 0, .int 0, .int 0]))] sz) (zQv G (fun (u : Nat) => True) (fun u => [(sb, .inr (1, [.ref u, .int 0, .int 0, .int 0])), (u, .inl (G.2.1 1, 16, .inl (fun _ => 0)))]) (va_A [(sb, .inr (1, [.null, .int 0, .int 0, .int 0]))] sz)) 1 16 (va_A [(sb, .inr (1, [.null, .int 0, .int 0, .int 0]))] sz) := by
  refine zOfW (Qc := fun A => zQv G (fun (u : Nat) => True) (fun u => [(sb, .inr (1, [.ref u, .int 0, .int 0, .int 0])), (u, .inl (G.2.1 1, 16, .inl (fun _ => 0)))]) A) (fr := fun A => A) (cc := cJ5_init_d00df) (maxL := 2) (ret := none) (by decide) rfl (Nat.le_of_ble_eq_true rfl) ?_
  intro p e s m below meth c hx hb hml hr hlocks hown hin hts A hP hK hD hE hA hS ls hl
  have hl : lv_has ls 2 [(0, .ref sb), (1, .int 16)] := hl
  have hown : s.vm.findClass RJ5 = some m.cls := hown
  have hin : meth.name = "<init>" := hin
  have hP : zP G [(sb, .inr (1, [.null, .int 0, .int 0, .int 0]))] s.heap := hP
  have hD : va_D A [(sb, .inr (1, [.null, .int 0, .int 0, .int 0]))] := hD
  refine lv_aload_n hx hb dJ5_init_d00df_0 rfl (lv_at hl 0 rfl) ?_
  refine W.objInit hx hb hown (hts (.methodLink "java/lang/AbstractStringBuilder" 3 ⟨"java/lang/Object","<init>","()V"⟩) (List.mem_of_getElem? (i := 1) (by decide +kernel))) (hts (.instanceMethod objectInit) (List.mem_of_getElem? (i := 2) (by decide +kernel))) (hts (.code objectInit ⟨#[0xb1]⟩ 1 none) (List.mem_of_getElem? (i := 3) (by decide +kernel))) rfl (by rw [hml]; exact hl.1) rfl dJ5_init_d00df_1 (Nat.le_of_ble_eq_true rfl) (Nat.le_of_ble_eq_true rfl) ?_
  refine W.eq (g2 := F0 m 4 ls []) rfl ?_
  refine va_gets (v := .int 1) hx hb hE.2.2.2.2.2.2.2.2.1 hS hown (hts (.fieldLink "java/lang/AbstractStringBuilder" 18 "java/lang/String" "COMPACT_STRINGS" "Z") (List.mem_of_getElem? (i := 4) (by decide +kernel))) (fun _ h9 => h9) dJ5_init_d00df_4 ?_
  refine lv_if_eq (tgt := 25) hx hb dJ5_init_d00df_7 (by decide) (fun c_1 => absurd c_1 (by decide)) (fun c_1 => ?_)
  refine lv_aload_n hx hb dJ5_init_d00df_10 rfl (lv_at hl 0 rfl) ?_
  refine lv_iload_n hx hb dJ5_init_d00df_11 rfl (lv_at hl 1 rfl) ?_
  refine zNewb (N := 16) hx hb (hts (.arrayClass .byte) (List.mem_of_getElem? (i := 5) (by decide +kernel))) hK hP hD hS hA (by decide) (by decide) (by decide) (Nat.le_of_ble_eq_true rfl) (Nat.le_of_ble_eq_true rfl) dJ5_init_d00df_12 (fun q_2 H hP hD hS => ?_)
  have hP : zP G [(sb, .inr (1, [.null, .int 0, .int 0, .int 0])), (q_2, .inl (G.2.1 1, 16, .inl (fun _ => 0)))] H := hP
  have hD : va_D A [(sb, .inr (1, [.null, .int 0, .int 0, .int 0])), (q_2, .inl (G.2.1 1, 16, .inl (fun _ => 0)))] := hD
  refine va_put (D := G.1) (ci := 1) (v := .ref q_2) (ty := .array .byte) (C := RJ4) (T := TJ4) (N := 4) hx hb hts wsi_J5_init_d00df_J4 tyJ4 tyJ4_ok nmJ4 hown hK hP hD hS 0 rfl rfl 0 (by decide) (hts (.fieldLink "java/lang/AbstractStringBuilder" 15 "java/lang/AbstractStringBuilder" "value" "[B") (List.mem_of_getElem? (i := 6) (by decide +kernel))) (fun _ h9 => h9) rfl (by decide +kernel) rfl rfl (Nat.le_of_ble_eq_true rfl) dJ5_init_d00df_14 (fun H locs hP hD hS => ?_)
  have hP : zP G [(sb, .inr (1, [.ref q_2, .int 0, .int 0, .int 0])), (q_2, .inl (G.2.1 1, 16, .inl (fun _ => 0)))] H := hP
  have hD : va_D A [(sb, .inr (1, [.ref q_2, .int 0, .int 0, .int 0])), (q_2, .inl (G.2.1 1, 16, .inl (fun _ => 0)))] := hD
  refine lv_aload_n hx hb dJ5_init_d00df_17 rfl (lv_at hl 0 rfl) ?_
  refine lv_iconst (v := 0) hx hb dJ5_init_d00df_18 (by decide) ?_
  refine va_put (D := G.1) (ci := 1) (v := .int 0) (ty := .byte) (C := RJ4) (T := TJ4) (N := 4) hx hb hts wsi_J5_init_d00df_J4 tyJ4 tyJ4_ok nmJ4 hown hK hP hD hS 0 rfl rfl 1 (by decide) (hts (.fieldLink "java/lang/AbstractStringBuilder" 22 "java/lang/AbstractStringBuilder" "coder" "B") (List.mem_of_getElem? (i := 7) (by decide +kernel))) (fun _ h9 => h9) rfl (by decide +kernel) rfl rfl (Nat.le_of_ble_eq_true rfl) dJ5_init_d00df_19 (fun H locs hP hD hS => ?_)
  have hP : zP G [(sb, .inr (1, [.ref q_2, .int 0, .int 0, .int 0])), (q_2, .inl (G.2.1 1, 16, .inl (fun _ => 0)))] H := hP
  have hD : va_D A [(sb, .inr (1, [.ref q_2, .int 0, .int 0, .int 0])), (q_2, .inl (G.2.1 1, 16, .inl (fun _ => 0)))] := hD
  refine lv_goto (tgt := 38) hx hb dJ5_init_d00df_22 (by decide) ?_
  exact zWv (q_2) hx hb hr hlocks trivial hP hD hK hS (z_pick (n := 2) [0, 1] [] rfl (by decide) rfl rfl) (Nat.le_of_ble_eq_true rfl) (Nat.le_of_ble_eq_true rfl) dJ5_init_d00df_38

set_option maxHeartbeats 4000000 in
set_option maxRecDepth 100000 in
/-- StringBuilder() -/
theorem c_J4_init (l : Launch) (G : zG) (sz : Nat) (sb : Nat) : Met l yJ4_init_da8c8 wsJ4_init_da8c8 { frames := 2, cells := 1, slots := 16, locals := 41 } (zPc G [.ref sb] [(sb, .inr (1, [.null, .int 0, .int 0, .int 0]))] sz) (zQv G (fun (u : Nat) => True) (fun u => [(sb, .inr (1, [.ref u, .int 0, .int 0, .int 0])), (u, .inl (G.2.1 1, 16, .inl (fun _ => 0)))]) (va_A [(sb, .inr (1, [.null, .int 0, .int 0, .int 0]))] sz)) 1 16 (va_A [(sb, .inr (1, [.null, .int 0, .int 0, .int 0]))] sz) := by
  refine zOfW (Qc := fun A => zQv G (fun (u : Nat) => True) (fun u => [(sb, .inr (1, [.ref u, .int 0, .int 0, .int 0])), (u, .inl (G.2.1 1, 16, .inl (fun _ => 0)))]) A) (fr := fun A => A) (cc := cJ4_init_da8c8) (maxL := 1) (ret := none) (by decide) rfl (Nat.le_of_ble_eq_true rfl) ?_
  intro p e s m below meth c hx hb hml hr hlocks hown hin hts A hP hK hD hE hA hS ls hl
  have hl : lv_has ls 1 [(0, .ref sb)] := hl
  have hown : s.vm.findClass RJ4 = some m.cls := hown
  have hin : meth.name = "<init>" := hin
  have hP : zP G [(sb, .inr (1, [.null, .int 0, .int 0, .int 0]))] s.heap := hP
  have hD : va_D A [(sb, .inr (1, [.null, .int 0, .int 0, .int 0]))] := hD
  refine lv_aload_n hx hb dJ4_init_da8c8_0 rfl (lv_at hl 0 rfl) ?_
  refine lv_bipush (v := 16) hx hb dJ4_init_da8c8_1 (by decide) ?_
  refine zDv (wr := []) (va_runI (As := [.int 16]) (rest := []) ⟨hx, hb, hml, hown, hts⟩ (c_J5_init l G s.heap.size sb) (cwI 1 hts gJ4_init_da8c8_J5_init_d00df rfl rfl rfl (hts (.initialized RJ5) (List.mem_of_getElem? (i := 3) (by decide +kernel))) (hts (.methodLink "java/lang/StringBuilder" 1 ⟨"java/lang/AbstractStringBuilder","<init>","(I)V"⟩) (List.mem_of_getElem? (i := 1) (by decide +kernel))) (hts (.instanceMethod yJ5_init_d00df) (List.mem_of_getElem? (i := 2) (by decide +kernel))) rfl (by decide +kernel) ⟨(Nat.le_of_ble_eq_true rfl), (Nat.le_of_ble_eq_true rfl)⟩) (zPreS (As := [.ref sb, .int 16]) hE hS hA hP hD hK (z_pick (n := 1) [0] [] rfl (by decide) rfl rfl)) rfl rfl hl.1 rfl (lv_room (Nat.le_of_ble_eq_true rfl)) dJ4_init_da8c8_3 ⟨(Nat.le_of_ble_eq_true rfl), (Nat.le_of_ble_eq_true rfl)⟩) hP hD hS hA (z_pick (n := 1) [0] [] rfl (by decide) rfl rfl) (fun u_1 H locs hp_2 hP hD hS => ?_)
  obtain ⟨va_0, rfl⟩ : ∃ z, z = u_1 := ⟨_, rfl⟩
  have hP : zP G [(sb, .inr (1, [.ref va_0, .int 0, .int 0, .int 0])), (va_0, .inl (G.2.1 1, 16, .inl (fun _ => 0)))] H := hP
  have hD : va_D A [(sb, .inr (1, [.ref va_0, .int 0, .int 0, .int 0])), (va_0, .inl (G.2.1 1, 16, .inl (fun _ => 0)))] := hD
  exact zWv (va_0) hx hb hr hlocks trivial hP hD hK hS (z_pick (n := 2) [0, 1] [] rfl (by decide) rfl rfl) (Nat.le_of_ble_eq_true rfl) (Nat.le_of_ble_eq_true rfl) dJ4_init_da8c8_6

set_option maxHeartbeats 4000000 in
set_option maxRecDepth 100000 in
/-- checkLength -/
theorem c_J7_check_18 (l : Launch) (G : zG) (sz : Nat) : Met l yJ7_checkLength_df160 wsJ7_checkLength_df160 { frames := 0, cells := 0, slots := 0, locals := 0 } (zPc G [.int 0, .int 18] [] sz) (va_Sv (fun _ => True)) 0 0 (fun _ => False) := by
  refine zOfW (Qc := fun _ => va_Sv (fun _ => True)) (fr := fun _ _ => False) (cc := cJ7_checkLength_df160) (maxL := 2) (ret := none) (by decide) rfl (Nat.le_of_ble_eq_true rfl) ?_
  intro p e s m below meth c hx hb hml hr hlocks hown hin hts A hP hK hD hE hA hS ls hl
  have hl : lv_has ls 2 [(0, .int 0), (1, .int 18)] := hl
  have hown : s.vm.findClass RJ7 = some m.cls := hown
  refine lv_iload_n hx hb dJ7_checkLength_df160_0 rfl (lv_at hl 1 rfl) ?_
  refine lv_iload_n hx hb dJ7_checkLength_df160_1 rfl (lv_at hl 0 rfl) ?_
  refine lv_icmp_ge (tgt := 37) hx hb dJ7_checkLength_df160_2 (by decide) (fun c_1 => ?_) (fun c_1 => absurd (by decide) c_1)
  exact zRv hx hb hr hlocks rfl rfl (Nat.le_of_ble_eq_true rfl) (Nat.le_of_ble_eq_true rfl) dJ7_checkLength_df160_37

set_option maxHeartbeats 4000000 in
set_option maxRecDepth 100000 in
/-- copyOfRangeByte -/
theorem c_J7_rangeB_18 (l : Launch) (G : zG) (sz : Nat) (va : Nat) (vf : Nat → Int32) (hfv : zFit vf) : Met l yJ7_copyOfRangeByte_39247 wsJ7_copyOfRangeByte_39247 { frames := 1, cells := 1, slots := 26, locals := 26 } (zPc G [.ref va, .int 0, .int 18] [(va, .inl (G.2.1 1, 34, .inl vf))] sz) (zQr G (fun (u : Nat) => True) (fun u => [(va, .inl (G.2.1 1, 34, .inl vf)), (u, .inl (G.2.1 1, 18, .inl (va_cpy vf (fun _ => 0) 0 0 18)))]) (fun u => u) (va_A [(va, .inl (G.2.1 1, 34, .inl vf))] sz)) 1 26 (va_A [(va, .inl (G.2.1 1, 34, .inl vf))] sz) := by
  refine zOfW (Qc := fun A => zQr G (fun (u : Nat) => True) (fun u => [(va, .inl (G.2.1 1, 34, .inl vf)), (u, .inl (G.2.1 1, 18, .inl (va_cpy vf (fun _ => 0) 0 0 18)))]) (fun u => u) A) (fr := fun A => A) (cc := cJ7_copyOfRangeByte_39247) (maxL := 5) (ret := (some (.array .byte))) (by decide) rfl (Nat.le_of_ble_eq_true rfl) ?_
  intro p e s m below meth c hx hb hml hr hlocks hown hin hts A hP hK hD hE hA hS ls hl
  have hl : lv_has ls 5 [(0, .ref va), (1, .int 0), (2, .int 18)] := hl
  have hown : s.vm.findClass RJ7 = some m.cls := hown
  have hP : zP G [(va, .inl (G.2.1 1, 34, .inl vf))] s.heap := hP
  have hD : va_D A [(va, .inl (G.2.1 1, 34, .inl vf))] := hD
  refine lv_iload_n hx hb dJ7_copyOfRangeByte_39247_0 rfl (lv_at hl 1 rfl) ?_
  refine lv_iload_n hx hb dJ7_copyOfRangeByte_39247_1 rfl (lv_at hl 2 rfl) ?_
  refine zCv (va_runS (As := [.int 0, .int 18]) (rest := []) ⟨hx, hb, hml, hown, hts⟩ (c_J7_check_18 l G s.heap.size) (va_cwS 2 hts gJ7_copyOfRangeByte_39247_J7_checkLength_df160 rfl rfl rfl (by decide +kernel) ⟨(Nat.le_of_ble_eq_true rfl), (Nat.le_of_ble_eq_true rfl)⟩) (zPreS hE hS hA hP hD hK (z_pick (n := 1) [] [0] rfl (by decide) rfl rfl)) rfl rfl hl.1 rfl (lv_room (Nat.le_of_ble_eq_true rfl)) dJ7_copyOfRangeByte_39247_2 ⟨(Nat.le_of_ble_eq_true rfl), (Nat.le_of_ble_eq_true rfl)⟩).run ?_
  refine lv_iload_n hx hb dJ7_copyOfRangeByte_39247_5 rfl (lv_at hl 2 rfl) ?_
  refine lv_iload_n hx hb dJ7_copyOfRangeByte_39247_6 rfl (lv_at hl 1 rfl) ?_
  refine lv_isub hx hb dJ7_copyOfRangeByte_39247_7 ?_
  refine zTop (v := 18) (by decide) ?_
  refine lv_istore_n (lv' := [(3, .int 18), (0, .ref va), (1, .int 0), (2, .int 18)]) hx hb dJ7_copyOfRangeByte_39247_8 rfl hl (by decide) rfl (fun ls hl => ?_)
  refine lv_iload_n hx hb dJ7_copyOfRangeByte_39247_9 rfl (lv_at hl 0 rfl) ?_
  refine zNewb (N := 18) hx hb (hts (.arrayClass .byte) (List.mem_of_getElem? (i := 1) (by decide +kernel))) hK hP hD hS hA (by decide) (by decide) (by decide) (Nat.le_of_ble_eq_true rfl) (Nat.le_of_ble_eq_true rfl) dJ7_copyOfRangeByte_39247_10 (fun q_1 H hP hD hS => ?_)
  have hP : zP G [(va, .inl (G.2.1 1, 34, .inl vf)), (q_1, .inl (G.2.1 1, 18, .inl (fun _ => 0)))] H := hP
  have hD : va_D A [(va, .inl (G.2.1 1, 34, .inl vf)), (q_1, .inl (G.2.1 1, 18, .inl (fun _ => 0)))] := hD
  refine lv_astore (lv' := [(4, .ref q_1), (3, .int 18), (0, .ref va), (1, .int 0), (2, .int 18)]) hx hb dJ7_copyOfRangeByte_39247_12 hl (by decide) rfl (fun ls hl => ?_)
  refine lv_aload_n hx hb dJ7_copyOfRangeByte_39247_14 rfl (lv_at hl 2 rfl) ?_
  refine lv_iload_n hx hb dJ7_copyOfRangeByte_39247_15 rfl (lv_at hl 3 rfl) ?_
  refine lv_aload hx hb dJ7_copyOfRangeByte_39247_16 (lv_at hl 0 rfl) ?_
  refine lv_iconst (v := 0) hx hb dJ7_copyOfRangeByte_39247_18 (by decide) ?_
  refine lv_aload_n hx hb dJ7_copyOfRangeByte_39247_19 rfl (lv_at hl 2 rfl) ?_
  refine va_alen (v := 34) hx hb hK hP 0 1 rfl rfl rfl dJ7_copyOfRangeByte_39247_20 ?_
  refine lv_iload_n hx hb dJ7_copyOfRangeByte_39247_21 rfl (lv_at hl 3 rfl) ?_
  refine lv_isub hx hb dJ7_copyOfRangeByte_39247_22 ?_
  refine zTop (v := 34) (by decide) ?_
  refine lv_iload_n hx hb dJ7_copyOfRangeByte_39247_23 rfl (lv_at hl 1 rfl) ?_
  refine va_mmin hx hb (by rw [hml]; exact hl.1.symm) hown (hts (.methodLink "java/util/Arrays" 304 ⟨"java/lang/Math","min","(II)I"⟩) (List.mem_of_getElem? (i := 2) (by decide +kernel))) (hts (.static Lib.Math.min.name) (List.mem_of_getElem? (i := 3) (by decide +kernel))) (hts (.initialized "java/lang/Math") (List.mem_of_getElem? (i := 4) (by decide +kernel))) (hts (.code Lib.Math.min.name Lib.Math.min.code 2 (some .int)) (List.mem_of_getElem? (i := 5) (by decide +kernel))) (Nat.le_of_ble_eq_true rfl) (Nat.le_of_ble_eq_true rfl) (Nat.le_of_ble_eq_true rfl) (Nat.le_of_ble_eq_true rfl) dJ7_copyOfRangeByte_39247_24 ?_
  refine zTop (v := 18) (by decide) ?_
  refine zCopyB hx hb (by rw [hml]; exact hl.1.symm) hown (hts (.methodLink "java/util/Arrays" 150 ⟨"java/lang/System","arraycopy","(Ljava/lang/Object;ILjava/lang/Object;II)V"⟩) (List.mem_of_getElem? (i := 6) (by decide +kernel))) (hts (.native arraycopyName) (List.mem_of_getElem? (i := 7) (by decide +kernel))) (hts (.static arraycopyName) (List.mem_of_getElem? (i := 8) (by decide +kernel))) (hts (.initialized "java/lang/System") (List.mem_of_getElem? (i := 9) (by decide +kernel))) hK hP hD hS 0 1 rfl rfl (a0 := 0) (b0 := 0) (k0 := 18) rfl rfl rfl (by decide) (by decide) (fun i _ => hfv _) (Nat.le_of_ble_eq_true rfl) (Nat.le_of_ble_eq_true rfl) dJ7_copyOfRangeByte_39247_27 (fun H locs hP hD hS => ?_)
  have hP : zP G [(va, .inl (G.2.1 1, 34, .inl vf)), (q_1, .inl (G.2.1 1, 18, .inl (va_cpy vf (fun _ => 0) 0 0 18)))] H := hP
  have hD : va_D A [(va, .inl (G.2.1 1, 34, .inl vf)), (q_1, .inl (G.2.1 1, 18, .inl (va_cpy vf (fun _ => 0) 0 0 18)))] := hD
  refine lv_aload hx hb dJ7_copyOfRangeByte_39247_30 (lv_at hl 0 rfl) ?_
  exact zWr (q_1) hx hb hr hlocks (Or.inr ⟨_, rfl⟩) trivial hP hD hK hS (z_pick (n := 2) [0, 1] [] rfl (by decide) rfl rfl) (Nat.le_of_ble_eq_true rfl) (Nat.le_of_ble_eq_true rfl) dJ7_copyOfRangeByte_39247_32

set_option maxHeartbeats 4000000 in
set_option maxRecDepth 100000 in
/-- copyOfRange -/
theorem c_J7_range_18 (l : Launch) (G : zG) (sz : Nat) (va : Nat) (vf : Nat → Int32) (hfv : zFit vf) : Met l yJ7_copyOfRange_39247 wsJ7_copyOfRange_39247 { frames := 2, cells := 1, slots := 26, locals := 50 } (zPc G [.ref va, .int 0, .int 18] [(va, .inl (G.2.1 1, 34, .inl vf))] sz) (zQr G (fun (u : Nat) => True) (fun u => [(va, .inl (G.2.1 1, 34, .inl vf)), (u, .inl (G.2.1 1, 18, .inl (va_cpy vf (fun _ => 0) 0 0 18)))]) (fun u => u) (va_A [(va, .inl (G.2.1 1, 34, .inl vf))] sz)) 1 26 (va_A [(va, .inl (G.2.1 1, 34, .inl vf))] sz) := by
  refine zOfW (Qc := fun A => zQr G (fun (u : Nat) => True) (fun u => [(va, .inl (G.2.1 1, 34, .inl vf)), (u, .inl (G.2.1 1, 18, .inl (va_cpy vf (fun _ => 0) 0 0 18)))]) (fun u => u) A) (fr := fun A => A) (cc := cJ7_copyOfRange_39247) (maxL := 3) (ret := (some (.array .byte))) (by decide) rfl (Nat.le_of_ble_eq_true rfl) ?_
  intro p e s m below meth c hx hb hml hr hlocks hown hin hts A hP hK hD hE hA hS ls hl
  have hl : lv_has ls 3 [(0, .ref va), (1, .int 0), (2, .int 18)] := hl
  have hown : s.vm.findClass RJ7 = some m.cls := hown
  have hP : zP G [(va, .inl (G.2.1 1, 34, .inl vf))] s.heap := hP
  have hD : va_D A [(va, .inl (G.2.1 1, 34, .inl vf))] := hD
  refine lv_iload_n hx hb dJ7_copyOfRange_39247_0 rfl (lv_at hl 1 rfl) ?_
  refine lv_if_ne (tgt := 10) hx hb dJ7_copyOfRange_39247_1 (by decide) (fun c_1 => absurd (by decide) c_1) (fun c_1 => ?_)
  refine lv_iload_n hx hb dJ7_copyOfRange_39247_4 rfl (lv_at hl 2 rfl) ?_
  refine lv_aload_n hx hb dJ7_copyOfRange_39247_5 rfl (lv_at hl 0 rfl) ?_
  refine va_alen (v := 34) hx hb hK hP 0 1 rfl rfl rfl dJ7_copyOfRange_39247_6 ?_
  refine lv_icmp_eq (tgt := 17) hx hb dJ7_copyOfRange_39247_7 (by decide) (fun c_2 => absurd c_2 (by decide)) (fun c_2 => ?_)
  refine lv_aload_n hx hb dJ7_copyOfRange_39247_10 rfl (lv_at hl 0 rfl) ?_
  refine lv_iload_n hx hb dJ7_copyOfRange_39247_11 rfl (lv_at hl 1 rfl) ?_
  refine lv_iload_n hx hb dJ7_copyOfRange_39247_12 rfl (lv_at hl 2 rfl) ?_
  refine zDr (wr := []) (va_runS (As := [.ref va, .int 0, .int 18]) (rest := []) ⟨hx, hb, hml, hown, hts⟩ (c_J7_rangeB_18 l G s.heap.size va vf hfv) (va_cwS 3 hts gJ7_copyOfRange_39247_J7_copyOfRangeByte_39247 rfl rfl rfl (by decide +kernel) ⟨(Nat.le_of_ble_eq_true rfl), (Nat.le_of_ble_eq_true rfl)⟩) (zPreS hE hS hA hP hD hK (z_pick (n := 1) [0] [] rfl (by decide) rfl rfl)) rfl rfl hl.1 rfl (lv_room (Nat.le_of_ble_eq_true rfl)) dJ7_copyOfRange_39247_13 ⟨(Nat.le_of_ble_eq_true rfl), (Nat.le_of_ble_eq_true rfl)⟩) hP hD hS hA (z_pick (n := 1) [0] [] rfl (by decide) rfl rfl) (fun u_3 H locs hp_4 hP hD hS => ?_)
  obtain ⟨nv_0, rfl⟩ : ∃ z, z = u_3 := ⟨_, rfl⟩
  have hP : zP G [(va, .inl (G.2.1 1, 34, .inl vf)), (nv_0, .inl (G.2.1 1, 18, .inl (va_cpy vf (fun _ => 0) 0 0 18)))] H := hP
  have hD : va_D A [(va, .inl (G.2.1 1, 34, .inl vf)), (nv_0, .inl (G.2.1 1, 18, .inl (va_cpy vf (fun _ => 0) 0 0 18)))] := hD
  exact zWr (nv_0) hx hb hr hlocks (Or.inr ⟨_, rfl⟩) trivial hP hD hK hS (z_pick (n := 2) [0, 1] [] rfl (by decide) rfl rfl) (Nat.le_of_ble_eq_true rfl) (Nat.le_of_ble_eq_true rfl) dJ7_copyOfRange_39247_16

theorem wsi_J0_init_db425_J0 : ∀ w ∈ wsJ00, w ∈ wsJ0_init_db425 := fun w h => List.mem_cons_of_mem _ (List.mem_append_left _ (List.mem_append_right _ h))
set_option maxHeartbeats 4000000 in
set_option maxRecDepth 100000 in
/-- String(AbstractStringBuilder, Void) -/
theorem c_J0_initA_18 (l : Launch) (G : zG) (sz : Nat) (so : Nat) (sb : Nat) (va : Nat) (vf : Nat → Int32) (hfv : zFit vf) : Met l yJ0_init_db425 wsJ0_init_db425 { frames := 3, cells := 1, slots := 26, locals := 72 } (zPc G [.ref so, .ref sb, .null] [(so, .inr (0, [.null, .int 0, .int 0, .int 0])), (sb, .inr (1, [.ref va, .int 0, .int 0, .int (nI 18)])), (va, .inl (G.2.1 1, 34, .inl vf))] sz) (zQv G (fun (u : Nat) => True) (fun u => [(so, .inr (0, [.ref u, .int 0, .int 0, .int 0])), (u, .inl (G.2.1 1, 18, .inl (va_cpy vf (fun _ => 0) 0 0 18)))]) (va_A [(so, .inr (0, [.null, .int 0, .int 0, .int 0])), (sb, .inr (1, [.ref va, .int 0, .int 0, .int (nI 18)])), (va, .inl (G.2.1 1, 34, .inl vf))] sz)) 1 26 (va_A [(so, .inr (0, [.null, .int 0, .int 0, .int 0])), (sb, .inr (1, [.ref va, .int 0, .int 0, .int (nI 18)])), (va, .inl (G.2.1 1, 34, .inl vf))] sz) := by
  refine zOfW (Qc := fun A => zQv G (fun (u : Nat) => True) (fun u => [(so, .inr (0, [.ref u, .int 0, .int 0, .int 0])), (u, .inl (G.2.1 1, 18, .inl (va_cpy vf (fun _ => 0) 0 0 18)))]) A) (fr := fun A => A) (cc := cJ0_init_db425) (maxL := 5) (ret := none) (by decide) rfl (Nat.le_of_ble_eq_true rfl) ?_
  intro p e s m below meth c hx hb hml hr hlocks hown hin hts A hP hK hD hE hA hS ls hl
  have hl : lv_has ls 5 [(0, .ref so), (1, .ref sb), (2, .null)] := hl
  have hown : s.vm.findClass RJ0 = some m.cls := hown
  have hin : meth.name = "<init>" := hin
  have hP : zP G [(so, .inr (0, [.null, .int 0, .int 0, .int 0])), (sb, .inr (1, [.ref va, .int 0, .int 0, .int (nI 18)])), (va, .inl (G.2.1 1, 34, .inl vf))] s.heap := hP
  have hD : va_D A [(so, .inr (0, [.null, .int 0, .int 0, .int 0])), (sb, .inr (1, [.ref va, .int 0, .int 0, .int (nI 18)])), (va, .inl (G.2.1 1, 34, .inl vf))] := hD
  refine lv_aload_n hx hb dJ0_init_db425_0 rfl (lv_at hl 0 rfl) ?_
  refine W.objInit hx hb hown (hts (.methodLink "java/lang/String" 1 ⟨"java/lang/Object","<init>","()V"⟩) (List.mem_of_getElem? (i := 1) (by decide +kernel))) (hts (.instanceMethod objectInit) (List.mem_of_getElem? (i := 2) (by decide +kernel))) (hts (.code objectInit ⟨#[0xb1]⟩ 1 none) (List.mem_of_getElem? (i := 3) (by decide +kernel))) rfl (by rw [hml]; exact hl.1) rfl dJ0_init_db425_1 (Nat.le_of_ble_eq_true rfl) (Nat.le_of_ble_eq_true rfl) ?_
  refine W.eq (g2 := F0 m 4 ls []) rfl ?_
  refine lv_aload_n hx hb dJ0_init_db425_4 rfl (lv_at hl 1 rfl) ?_
  refine zCr (r := va) (va_runU (As := []) (rest := []) ⟨hx, hb, hml, hown, hts⟩ (c_J5_getValue l G s.heap.size sb va 18) (va_cwU 0 hts gJ0_init_db425_J5_getValue_6d5f1_u552J4 rfl rfl rfl rfl (by decide +kernel) ⟨(Nat.le_of_ble_eq_true rfl), (Nat.le_of_ble_eq_true rfl)⟩) (zPreV hE hS hA hP hD hK (z_pick (n := 3) [1] [0, 2] rfl (by decide) rfl rfl) (va_recv hK hP (ci := 1) (q0 := 1) rfl rfl)) rfl rfl hl.1 rfl (lv_room (Nat.le_of_ble_eq_true rfl)) dJ0_init_db425_5 ⟨(Nat.le_of_ble_eq_true rfl), (Nat.le_of_ble_eq_true rfl)⟩).run ?_
  refine lv_astore_n (lv' := [(3, .ref va), (0, .ref so), (1, .ref sb), (2, .null)]) hx hb dJ0_init_db425_8 rfl hl (by decide) rfl (fun ls hl => ?_)
  refine lv_aload_n hx hb dJ0_init_db425_9 rfl (lv_at hl 2 rfl) ?_
  refine zCi (r := nI 18) (va_runU (As := []) (rest := []) ⟨hx, hb, hml, hown, hts⟩ (c_J4_length l G s.heap.size sb va 18) (va_cwO 0 hts gJ0_init_db425_J4_length_8abf5_u549J4 rfl rfl rfl (show Cond.code yJ5_length_8abf5 cJ5_length_8abf5 1 (some .int) ∈ wsJ0_init_db425 from (List.mem_of_getElem? (i := 25) (by decide +kernel))) (by decide +kernel) ⟨(Nat.le_of_ble_eq_true rfl), (Nat.le_of_ble_eq_true rfl)⟩) (zPreV hE hS hA hP hD hK (z_pick (n := 3) [1] [0, 2] rfl (by decide) rfl rfl) (va_recv hK hP (ci := 1) (q0 := 1) rfl rfl)) rfl rfl hl.1 rfl (lv_room (Nat.le_of_ble_eq_true rfl)) dJ0_init_db425_10 ⟨(Nat.le_of_ble_eq_true rfl), (Nat.le_of_ble_eq_true rfl)⟩).run ?_
  refine zTop (v := 18) (by decide) ?_
  refine lv_istore (lv' := [(4, .int 18), (3, .ref va), (0, .ref so), (1, .ref sb), (2, .null)]) hx hb dJ0_init_db425_13 hl (by decide) rfl (fun ls hl => ?_)
  refine lv_aload_n hx hb dJ0_init_db425_15 rfl (lv_at hl 3 rfl) ?_
  refine zCi (r := 1) (va_runU (As := []) (rest := []) ⟨hx, hb, hml, hown, hts⟩ (c_J5_isLatin1 l G s.heap.size sb va 18) (va_cwU 0 hts gJ0_init_db425_J5_isLatin1_aae02_u1047J4 rfl rfl rfl rfl (by decide +kernel) ⟨(Nat.le_of_ble_eq_true rfl), (Nat.le_of_ble_eq_true rfl)⟩) (zPreV hE hS hA hP hD hK (z_pick (n := 3) [1] [0, 2] rfl (by decide) rfl rfl) (va_recv hK hP (ci := 1) (q0 := 1) rfl rfl)) rfl rfl hl.1 rfl (lv_room (Nat.le_of_ble_eq_true rfl)) dJ0_init_db425_16 ⟨(Nat.le_of_ble_eq_true rfl), (Nat.le_of_ble_eq_true rfl)⟩).run ?_
  refine lv_if_eq (tgt := 41) hx hb dJ0_init_db425_19 (by decide) (fun c_1 => absurd c_1 (by decide)) (fun c_1 => ?_)
  refine lv_aload_n hx hb dJ0_init_db425_22 rfl (lv_at hl 2 rfl) ?_
  refine lv_iconst (v := 0) hx hb dJ0_init_db425_23 (by decide) ?_
  refine va_putF (D := G.1) (ci := 0) (v := .int 0) (ty := .byte) (C := RJ0) (T := TJ0) (N := 4) hx hb hts wsi_J0_init_db425_J0 tyJ0 tyJ0_ok nmJ0 hown hK hP hD hS 0 rfl rfl 1 (by decide) (hts (.fieldLink "java/lang/String" 15 "java/lang/String" "coder" "B") (List.mem_of_getElem? (i := 4) (by decide +kernel))) (fun _ h9 => h9) rfl hin rfl (by decide +kernel) rfl rfl (Nat.le_of_ble_eq_true rfl) dJ0_init_db425_24 (fun H locs hP hD hS => ?_)
  have hP : zP G [(so, .inr (0, [.null, .int 0, .int 0, .int 0])), (sb, .inr (1, [.ref va, .int 0, .int 0, .int (nI 18)])), (va, .inl (G.2.1 1, 34, .inl vf))] H := hP
  have hD : va_D A [(so, .inr (0, [.null, .int 0, .int 0, .int 0])), (sb, .inr (1, [.ref va, .int 0, .int 0, .int (nI 18)])), (va, .inl (G.2.1 1, 34, .inl vf))] := hD
  refine lv_aload_n hx hb dJ0_init_db425_27 rfl (lv_at hl 2 rfl) ?_
  refine lv_aload_n hx hb dJ0_init_db425_28 rfl (lv_at hl 1 rfl) ?_
  refine lv_iconst (v := 0) hx hb dJ0_init_db425_29 (by decide) ?_
  refine lv_iload hx hb dJ0_init_db425_30 (lv_at hl 0 rfl) ?_
  refine zDr (wr := [(so, .inr (0, [.null, .int 0, .int 0, .int 0])), (sb, .inr (1, [.ref va, .int 0, .int 0, .int (nI 18)]))]) (va_runS (As := [.ref va, .int 0, .int 18]) (rest := [.ref so]) ⟨hx, hb, hml, hown, hts⟩ (c_J7_range_18 l G H.size va vf hfv) (va_cwS 3 hts gJ0_init_db425_J7_copyOfRange_39247 rfl rfl rfl (by decide +kernel) ⟨(Nat.le_of_ble_eq_true rfl), (Nat.le_of_ble_eq_true rfl)⟩) (zPreS hE hS hA hP hD hK (z_pick (n := 3) [2] [0, 1] rfl (by decide) rfl rfl)) rfl rfl hl.1 rfl (lv_room (Nat.le_of_ble_eq_true rfl)) dJ0_init_db425_32 ⟨(Nat.le_of_ble_eq_true rfl), (Nat.le_of_ble_eq_true rfl)⟩) hP hD hS hA (z_pick (n := 3) [2] [0, 1] rfl (by decide) rfl rfl) (fun u_2 H locs hp_3 hP hD hS => ?_)
  obtain ⟨nv_0, rfl⟩ : ∃ z, z = u_2 := ⟨_, rfl⟩
  have hP : zP G [(va, .inl (G.2.1 1, 34, .inl vf)), (nv_0, .inl (G.2.1 1, 18, .inl (va_cpy vf (fun _ => 0) 0 0 18))), (so, .inr (0, [.null, .int 0, .int 0, .int 0])), (sb, .inr (1, [.ref va, .int 0, .int 0, .int (nI 18)]))] H := hP
  have hD : va_D A [(va, .inl (G.2.1 1, 34, .inl vf)), (nv_0, .inl (G.2.1 1, 18, .inl (va_cpy vf (fun _ => 0) 0 0 18))), (so, .inr (0, [.null, .int 0, .int 0, .int 0])), (sb, .inr (1, [.ref va, .int 0, .int 0, .int (nI 18)]))] := hD
  refine va_putF (D := G.1) (ci := 0) (v := .ref nv_0) (ty := .array .byte) (C := RJ0) (T := TJ0) (N := 4) hx hb hts wsi_J0_init_db425_J0 tyJ0 tyJ0_ok nmJ0 hown hK hP hD hS 2 rfl rfl 0 (by decide) (hts (.fieldLink "java/lang/String" 9 "java/lang/String" "value" "[B") (List.mem_of_getElem? (i := 5) (by decide +kernel))) (fun _ h9 => h9) rfl hin rfl (by decide +kernel) rfl rfl (Nat.le_of_ble_eq_true rfl) dJ0_init_db425_35 (fun H locs hP hD hS => ?_)
  have hP : zP G [(va, .inl (G.2.1 1, 34, .inl vf)), (nv_0, .inl (G.2.1 1, 18, .inl (va_cpy vf (fun _ => 0) 0 0 18))), (so, .inr (0, [.ref nv_0, .int 0, .int 0, .int 0])), (sb, .inr (1, [.ref va, .int 0, .int 0, .int (nI 18)]))] H := hP
  have hD : va_D A [(va, .inl (G.2.1 1, 34, .inl vf)), (nv_0, .inl (G.2.1 1, 18, .inl (va_cpy vf (fun _ => 0) 0 0 18))), (so, .inr (0, [.ref nv_0, .int 0, .int 0, .int 0])), (sb, .inr (1, [.ref va, .int 0, .int 0, .int (nI 18)]))] := hD
  refine lv_goto (tgt := 97) hx hb dJ0_init_db425_38 (by decide) ?_
  exact zWv (nv_0) hx hb hr hlocks trivial hP hD hK hS (z_pick (n := 4) [2, 1] [0, 3] rfl (by decide) rfl rfl) (Nat.le_of_ble_eq_true rfl) (Nat.le_of_ble_eq_true rfl) dJ0_init_db425_97

set_option maxHeartbeats 4000000 in
set_option maxRecDepth 100000 in
/-- String(StringBuilder) -/
theorem c_J0_initB_18 (l : Launch) (G : zG) (sz : Nat) (so : Nat) (sb : Nat) (va : Nat) (vf : Nat → Int32) (hfv : zFit vf) : Met l yJ0_init_81219 wsJ0_init_81219 { frames := 4, cells := 1, slots := 26, locals := 96 } (zPc G [.ref so, .ref sb] [(so, .inr (0, [.null, .int 0, .int 0, .int 0])), (sb, .inr (1, [.ref va, .int 0, .int 0, .int (nI 18)])), (va, .inl (G.2.1 1, 34, .inl vf))] sz) (zQv G (fun (u : Nat) => True) (fun u => [(so, .inr (0, [.ref u, .int 0, .int 0, .int 0])), (u, .inl (G.2.1 1, 18, .inl (va_cpy vf (fun _ => 0) 0 0 18)))]) (va_A [(so, .inr (0, [.null, .int 0, .int 0, .int 0])), (sb, .inr (1, [.ref va, .int 0, .int 0, .int (nI 18)])), (va, .inl (G.2.1 1, 34, .inl vf))] sz)) 1 26 (va_A [(so, .inr (0, [.null, .int 0, .int 0, .int 0])), (sb, .inr (1, [.ref va, .int 0, .int 0, .int (nI 18)])), (va, .inl (G.2.1 1, 34, .inl vf))] sz) := by
  refine zOfW (Qc := fun A => zQv G (fun (u : Nat) => True) (fun u => [(so, .inr (0, [.ref u, .int 0, .int 0, .int 0])), (u, .inl (G.2.1 1, 18, .inl (va_cpy vf (fun _ => 0) 0 0 18)))]) A) (fr := fun A => A) (cc := cJ0_init_81219) (maxL := 2) (ret := none) (by decide) rfl (Nat.le_of_ble_eq_true rfl) ?_
  intro p e s m below meth c hx hb hml hr hlocks hown hin hts A hP hK hD hE hA hS ls hl
  have hl : lv_has ls 2 [(0, .ref so), (1, .ref sb)] := hl
  have hown : s.vm.findClass RJ0 = some m.cls := hown
  have hin : meth.name = "<init>" := hin
  have hP : zP G [(so, .inr (0, [.null, .int 0, .int 0, .int 0])), (sb, .inr (1, [.ref va, .int 0, .int 0, .int (nI 18)])), (va, .inl (G.2.1 1, 34, .inl vf))] s.heap := hP
  have hD : va_D A [(so, .inr (0, [.null, .int 0, .int 0, .int 0])), (sb, .inr (1, [.ref va, .int 0, .int 0, .int (nI 18)])), (va, .inl (G.2.1 1, 34, .inl vf))] := hD
  refine lv_aload_n hx hb dJ0_init_81219_0 rfl (lv_at hl 0 rfl) ?_
  refine lv_aload_n hx hb dJ0_init_81219_1 rfl (lv_at hl 1 rfl) ?_
  refine lv_null hx hb dJ0_init_81219_2 ?_
  refine zDv (wr := []) (va_runI (As := [.ref sb, .null]) (rest := []) ⟨hx, hb, hml, hown, hts⟩ (c_J0_initA_18 l G s.heap.size so sb va vf hfv) (cwI 2 hts gJ0_init_81219_J0_init_db425 rfl rfl rfl (hts (.initialized RJ0) (List.mem_of_getElem? (i := 3) (by decide +kernel))) (hts (.methodLink "java/lang/String" 489 ⟨"java/lang/String","<init>","(Ljava/lang/AbstractStringBuilder;Ljava/lang/Void;)V"⟩) (List.mem_of_getElem? (i := 1) (by decide +kernel))) (hts (.instanceMethod yJ0_init_db425) (List.mem_of_getElem? (i := 2) (by decide +kernel))) rfl (by decide +kernel) ⟨(Nat.le_of_ble_eq_true rfl), (Nat.le_of_ble_eq_true rfl)⟩) (zPreS (As := [.ref so, .ref sb, .null]) hE hS hA hP hD hK (z_pick (n := 3) [0, 1, 2] [] rfl (by decide) rfl rfl)) rfl rfl hl.1 rfl (lv_room (Nat.le_of_ble_eq_true rfl)) dJ0_init_81219_3 ⟨(Nat.le_of_ble_eq_true rfl), (Nat.le_of_ble_eq_true rfl)⟩) hP hD hS hA (z_pick (n := 3) [0, 1, 2] [] rfl (by decide) rfl rfl) (fun u_1 H locs hp_2 hP hD hS => ?_)
  obtain ⟨nv_0, rfl⟩ : ∃ z, z = u_1 := ⟨_, rfl⟩
  have hP : zP G [(so, .inr (0, [.ref nv_0, .int 0, .int 0, .int 0])), (nv_0, .inl (G.2.1 1, 18, .inl (va_cpy vf (fun _ => 0) 0 0 18)))] H := hP
  have hD : va_D A [(so, .inr (0, [.ref nv_0, .int 0, .int 0, .int 0])), (nv_0, .inl (G.2.1 1, 18, .inl (va_cpy vf (fun _ => 0) 0 0 18)))] := hD
  exact zWv (nv_0) hx hb hr hlocks trivial hP hD hK hS (z_pick (n := 2) [0, 1] [] rfl (by decide) rfl rfl) (Nat.le_of_ble_eq_true rfl) (Nat.le_of_ble_eq_true rfl) dJ0_init_81219_6

theorem wsi_J4_toString_0e30d_J0 : ∀ w ∈ wsJ00, w ∈ wsJ4_toString_0e30d := fun w h => List.mem_cons_of_mem _ (List.mem_append_left _ (List.mem_append_right _ h))
set_option maxHeartbeats 4000000 in
set_option maxRecDepth 100000 in
/-- toString -/
theorem c_J4_toString_18 (l : Launch) (G : zG) (sz : Nat) (sb : Nat) (va : Nat) (vf : Nat → Int32) (hfv : zFit vf) : Met l yJ4_toString_0e30d wsJ4_toString_0e30d { frames := 5, cells := 2, slots := 30, locals := 117 } (zPc G [.ref sb] [(sb, .inr (1, [.ref va, .int 0, .int 0, .int (nI 18)])), (va, .inl (G.2.1 1, 34, .inl vf))] sz) (zQr G (fun (u : Nat × Nat) => True) (fun u => [(u.1, .inr (0, [.ref u.2, .int 0, .int 0, .int 0])), (u.2, .inl (G.2.1 1, 18, .inl (va_cpy vf (fun _ => 0) 0 0 18)))]) (fun u => u.1) (va_A [(sb, .inr (1, [.ref va, .int 0, .int 0, .int (nI 18)])), (va, .inl (G.2.1 1, 34, .inl vf))] sz)) 2 30 (va_A [(sb, .inr (1, [.ref va, .int 0, .int 0, .int (nI 18)])), (va, .inl (G.2.1 1, 34, .inl vf))] sz) := by
  refine zOfW (Qc := fun A => zQr G (fun (u : Nat × Nat) => True) (fun u => [(u.1, .inr (0, [.ref u.2, .int 0, .int 0, .int 0])), (u.2, .inl (G.2.1 1, 18, .inl (va_cpy vf (fun _ => 0) 0 0 18)))]) (fun u => u.1) A) (fr := fun A => A) (cc := cJ4_toString_0e30d) (maxL := 1) (ret := (some (.object "java/lang/String"))) (by decide) rfl (Nat.le_of_ble_eq_true rfl) ?_
  intro p e s m below meth c hx hb hml hr hlocks hown hin hts A hP hK hD hE hA hS ls hl
  have hl : lv_has ls 1 [(0, .ref sb)] := hl
  have hown : s.vm.findClass RJ4 = some m.cls := hown
  have hP : zP G [(sb, .inr (1, [.ref va, .int 0, .int 0, .int (nI 18)])), (va, .inl (G.2.1 1, 34, .inl vf))] s.heap := hP
  have hD : va_D A [(sb, .inr (1, [.ref va, .int 0, .int 0, .int (nI 18)])), (va, .inl (G.2.1 1, 34, .inl vf))] := hD
  refine va_new (D := G.1) (ci := 0) (fs := [.null, .int 0, .int 0, .int 0]) (C := RJ0) (T := TJ0) (N := 4) hx hb hts wsi_J4_toString_0e30d_J0 tyJ0 tyJ0_ok hown (hts (.classLink "java/lang/StringBuilder" 18 "java/lang/String") (List.mem_of_getElem? (i := 1) (by decide +kernel))) (hts (.instantiable RJ0 4) (List.mem_of_getElem? (i := 2) (by decide +kernel))) (hts (.initialized RJ0) (List.mem_of_getElem? (i := 3) (by decide +kernel))) hK hP hD hS hA rfl (fun j hj => by rcases (show j = 0 ∨ j = 1 ∨ j = 2 ∨ j = 3 by omega) with rfl | rfl | rfl | rfl <;> rfl) (Nat.le_of_ble_eq_true rfl) (Nat.le_of_ble_eq_true rfl) dJ4_toString_0e30d_0 (fun q_1 H hP hD hS => ?_)
  have hP : zP G [(sb, .inr (1, [.ref va, .int 0, .int 0, .int (nI 18)])), (va, .inl (G.2.1 1, 34, .inl vf)), (q_1, .inr (0, [.null, .int 0, .int 0, .int 0]))] H := hP
  have hD : va_D A [(sb, .inr (1, [.ref va, .int 0, .int 0, .int (nI 18)])), (va, .inl (G.2.1 1, 34, .inl vf)), (q_1, .inr (0, [.null, .int 0, .int 0, .int 0]))] := hD
  refine lv_dup hx hb dJ4_toString_0e30d_3 rfl ?_
  refine lv_aload_n hx hb dJ4_toString_0e30d_4 rfl (lv_at hl 0 rfl) ?_
  refine zDv (wr := []) (va_runI (As := [.ref sb]) (rest := [.ref q_1]) ⟨hx, hb, hml, hown, hts⟩ (c_J0_initB_18 l G H.size q_1 sb va vf hfv) (cwI 1 hts gJ4_toString_0e30d_J0_init_81219 rfl rfl rfl (hts (.initialized RJ0) (List.mem_of_getElem? (i := 3) (by decide +kernel))) (hts (.methodLink "java/lang/StringBuilder" 137 ⟨"java/lang/String","<init>","(Ljava/lang/StringBuilder;)V"⟩) (List.mem_of_getElem? (i := 4) (by decide +kernel))) (hts (.instanceMethod yJ0_init_81219) (List.mem_of_getElem? (i := 5) (by decide +kernel))) rfl (by decide +kernel) ⟨(Nat.le_of_ble_eq_true rfl), (Nat.le_of_ble_eq_true rfl)⟩) (zPreS (As := [.ref q_1, .ref sb]) hE hS hA hP hD hK (z_pick (n := 3) [2, 0, 1] [] rfl (by decide) rfl rfl)) rfl rfl hl.1 rfl (lv_room (Nat.le_of_ble_eq_true rfl)) dJ4_toString_0e30d_5 ⟨(Nat.le_of_ble_eq_true rfl), (Nat.le_of_ble_eq_true rfl)⟩) hP hD hS hA (z_pick (n := 3) [2, 0, 1] [] rfl (by decide) rfl rfl) (fun u_2 H locs hp_3 hP hD hS => ?_)
  obtain ⟨nv_0, rfl⟩ : ∃ z, z = u_2 := ⟨_, rfl⟩
  have hP : zP G [(q_1, .inr (0, [.ref nv_0, .int 0, .int 0, .int 0])), (nv_0, .inl (G.2.1 1, 18, .inl (va_cpy vf (fun _ => 0) 0 0 18)))] H := hP
  have hD : va_D A [(q_1, .inr (0, [.ref nv_0, .int 0, .int 0, .int 0])), (nv_0, .inl (G.2.1 1, 18, .inl (va_cpy vf (fun _ => 0) 0 0 18)))] := hD
  exact zWr (q_1, nv_0) hx hb hr hlocks (Or.inl ⟨_, rfl⟩) trivial hP hD hK hS (z_pick (n := 2) [0, 1] [] rfl (by decide) rfl rfl) (Nat.le_of_ble_eq_true rfl) (Nat.le_of_ble_eq_true rfl) dJ4_toString_0e30d_8

set_option maxHeartbeats 4000000 in
set_option maxRecDepth 100000 in
/-- checkLength -/
theorem c_J7_check_25 (l : Launch) (G : zG) (sz : Nat) : Met l yJ7_checkLength_df160 wsJ7_checkLength_df160 { frames := 0, cells := 0, slots := 0, locals := 0 } (zPc G [.int 0, .int 25] [] sz) (va_Sv (fun _ => True)) 0 0 (fun _ => False) := by
  refine zOfW (Qc := fun _ => va_Sv (fun _ => True)) (fr := fun _ _ => False) (cc := cJ7_checkLength_df160) (maxL := 2) (ret := none) (by decide) rfl (Nat.le_of_ble_eq_true rfl) ?_
  intro p e s m below meth c hx hb hml hr hlocks hown hin hts A hP hK hD hE hA hS ls hl
  have hl : lv_has ls 2 [(0, .int 0), (1, .int 25)] := hl
  have hown : s.vm.findClass RJ7 = some m.cls := hown
  refine lv_iload_n hx hb dJ7_checkLength_df160_0 rfl (lv_at hl 1 rfl) ?_
  refine lv_iload_n hx hb dJ7_checkLength_df160_1 rfl (lv_at hl 0 rfl) ?_
  refine lv_icmp_ge (tgt := 37) hx hb dJ7_checkLength_df160_2 (by decide) (fun c_1 => ?_) (fun c_1 => absurd (by decide) c_1)
  exact zRv hx hb hr hlocks rfl rfl (Nat.le_of_ble_eq_true rfl) (Nat.le_of_ble_eq_true rfl) dJ7_checkLength_df160_37

set_option maxHeartbeats 4000000 in
set_option maxRecDepth 100000 in
/-- copyOfRangeByte -/
theorem c_J7_rangeB_25 (l : Launch) (G : zG) (sz : Nat) (va : Nat) (vf : Nat → Int32) (hfv : zFit vf) : Met l yJ7_copyOfRangeByte_39247 wsJ7_copyOfRangeByte_39247 { frames := 1, cells := 1, slots := 26, locals := 26 } (zPc G [.ref va, .int 0, .int 25] [(va, .inl (G.2.1 1, 34, .inl vf))] sz) (zQr G (fun (u : Nat) => True) (fun u => [(va, .inl (G.2.1 1, 34, .inl vf)), (u, .inl (G.2.1 1, 25, .inl (va_cpy vf (fun _ => 0) 0 0 25)))]) (fun u => u) (va_A [(va, .inl (G.2.1 1, 34, .inl vf))] sz)) 1 26 (va_A [(va, .inl (G.2.1 1, 34, .inl vf))] sz) := by
  refine zOfW (Qc := fun A => zQr G (fun (u : Nat) => True) (fun u => [(va, .inl (G.2.1 1, 34, .inl vf)), (u, .inl (G.2.1 1, 25, .inl (va_cpy vf (fun _ => 0) 0 0 25)))]) (fun u => u) A) (fr := fun A => A) (cc := cJ7_copyOfRangeByte_39247) (maxL := 5) (ret := (some (.array .byte))) (by decide) rfl (Nat.le_of_ble_eq_true rfl) ?_
  intro p e s m below meth c hx hb hml hr hlocks hown hin hts A hP hK hD hE hA hS ls hl
  have hl : lv_has ls 5 [(0, .ref va), (1, .int 0), (2, .int 25)] := hl
  have hown : s.vm.findClass RJ7 = some m.cls := hown
  have hP : zP G [(va, .inl (G.2.1 1, 34, .inl vf))] s.heap := hP
  have hD : va_D A [(va, .inl (G.2.1 1, 34, .inl vf))] := hD
  refine lv_iload_n hx hb dJ7_copyOfRangeByte_39247_0 rfl (lv_at hl 1 rfl) ?_
  refine lv_iload_n hx hb dJ7_copyOfRangeByte_39247_1 rfl (lv_at hl 2 rfl) ?_
  refine zCv (va_runS (As := [.int 0, .int 25]) (rest := []) ⟨hx, hb, hml, hown, hts⟩ (c_J7_check_25 l G s.heap.size) (va_cwS 2 hts gJ7_copyOfRangeByte_39247_J7_checkLength_df160 rfl rfl rfl (by decide +kernel) ⟨(Nat.le_of_ble_eq_true rfl), (Nat.le_of_ble_eq_true rfl)⟩) (zPreS hE hS hA hP hD hK (z_pick (n := 1) [] [0] rfl (by decide) rfl rfl)) rfl rfl hl.1 rfl (lv_room (Nat.le_of_ble_eq_true rfl)) dJ7_copyOfRangeByte_39247_2 ⟨(Nat.le_of_ble_eq_true rfl), (Nat.le_of_ble_eq_true rfl)⟩).run ?_
  refine lv_iload_n hx hb dJ7_copyOfRangeByte_39247_5 rfl (lv_at hl 2 rfl) ?_
  refine lv_iload_n hx hb dJ7_copyOfRangeByte_39247_6 rfl (lv_at hl 1 rfl) ?_
  refine lv_isub hx hb dJ7_copyOfRangeByte_39247_7 ?_
  refine zTop (v := 25) (by decide) ?_
  refine lv_istore_n (lv' := [(3, .int 25), (0, .ref va), (1, .int 0), (2, .int 25)]) hx hb dJ7_copyOfRangeByte_39247_8 rfl hl (by decide) rfl (fun ls hl => ?_)
  refine lv_iload_n hx hb dJ7_copyOfRangeByte_39247_9 rfl (lv_at hl 0 rfl) ?_
  refine zNewb (N := 25) hx hb (hts (.arrayClass .byte) (List.mem_of_getElem? (i := 1) (by decide +kernel))) hK hP hD hS hA (by decide) (by decide) (by decide) (Nat.le_of_ble_eq_true rfl) (Nat.le_of_ble_eq_true rfl) dJ7_copyOfRangeByte_39247_10 (fun q_1 H hP hD hS => ?_)
  have hP : zP G [(va, .inl (G.2.1 1, 34, .inl vf)), (q_1, .inl (G.2.1 1, 25, .inl (fun _ => 0)))] H := hP
  have hD : va_D A [(va, .inl (G.2.1 1, 34, .inl vf)), (q_1, .inl (G.2.1 1, 25, .inl (fun _ => 0)))] := hD
  refine lv_astore (lv' := [(4, .ref q_1), (3, .int 25), (0, .ref va), (1, .int 0), (2, .int 25)]) hx hb dJ7_copyOfRangeByte_39247_12 hl (by decide) rfl (fun ls hl => ?_)
  refine lv_aload_n hx hb dJ7_copyOfRangeByte_39247_14 rfl (lv_at hl 2 rfl) ?_
  refine lv_iload_n hx hb dJ7_copyOfRangeByte_39247_15 rfl (lv_at hl 3 rfl) ?_
  refine lv_aload hx hb dJ7_copyOfRangeByte_39247_16 (lv_at hl 0 rfl) ?_
  refine lv_iconst (v := 0) hx hb dJ7_copyOfRangeByte_39247_18 (by decide) ?_
  refine lv_aload_n hx hb dJ7_copyOfRangeByte_39247_19 rfl (lv_at hl 2 rfl) ?_
  refine va_alen (v := 34) hx hb hK hP 0 1 rfl rfl rfl dJ7_copyOfRangeByte_39247_20 ?_
  refine lv_iload_n hx hb dJ7_copyOfRangeByte_39247_21 rfl (lv_at hl 3 rfl) ?_
  refine lv_isub hx hb dJ7_copyOfRangeByte_39247_22 ?_
  refine zTop (v := 34) (by decide) ?_
  refine lv_iload_n hx hb dJ7_copyOfRangeByte_39247_23 rfl (lv_at hl 1 rfl) ?_
  refine va_mmin hx hb (by rw [hml]; exact hl.1.symm) hown (hts (.methodLink "java/util/Arrays" 304 ⟨"java/lang/Math","min","(II)I"⟩) (List.mem_of_getElem? (i := 2) (by decide +kernel))) (hts (.static Lib.Math.min.name) (List.mem_of_getElem? (i := 3) (by decide +kernel))) (hts (.initialized "java/lang/Math") (List.mem_of_getElem? (i := 4) (by decide +kernel))) (hts (.code Lib.Math.min.name Lib.Math.min.code 2 (some .int)) (List.mem_of_getElem? (i := 5) (by decide +kernel))) (Nat.le_of_ble_eq_true rfl) (Nat.le_of_ble_eq_true rfl) (Nat.le_of_ble_eq_true rfl) (Nat.le_of_ble_eq_true rfl) dJ7_copyOfRangeByte_39247_24 ?_
  refine zTop (v := 25) (by decide) ?_
  refine zCopyB hx hb (by rw [hml]; exact hl.1.symm) hown (hts (.methodLink "java/util/Arrays" 150 ⟨"java/lang/System","arraycopy","(Ljava/lang/Object;ILjava/lang/Object;II)V"⟩) (List.mem_of_getElem? (i := 6) (by decide +kernel))) (hts (.native arraycopyName) (List.mem_of_getElem? (i := 7) (by decide +kernel))) (hts (.static arraycopyName) (List.mem_of_getElem? (i := 8) (by decide +kernel))) (hts (.initialized "java/lang/System") (List.mem_of_getElem? (i := 9) (by decide +kernel))) hK hP hD hS 0 1 rfl rfl (a0 := 0) (b0 := 0) (k0 := 25) rfl rfl rfl (by decide) (by decide) (fun i _ => hfv _) (Nat.le_of_ble_eq_true rfl) (Nat.le_of_ble_eq_true rfl) dJ7_copyOfRangeByte_39247_27 (fun H locs hP hD hS => ?_)
  have hP : zP G [(va, .inl (G.2.1 1, 34, .inl vf)), (q_1, .inl (G.2.1 1, 25, .inl (va_cpy vf (fun _ => 0) 0 0 25)))] H := hP
  have hD : va_D A [(va, .inl (G.2.1 1, 34, .inl vf)), (q_1, .inl (G.2.1 1, 25, .inl (va_cpy vf (fun _ => 0) 0 0 25)))] := hD
  refine lv_aload hx hb dJ7_copyOfRangeByte_39247_30 (lv_at hl 0 rfl) ?_
  exact zWr (q_1) hx hb hr hlocks (Or.inr ⟨_, rfl⟩) trivial hP hD hK hS (z_pick (n := 2) [0, 1] [] rfl (by decide) rfl rfl) (Nat.le_of_ble_eq_true rfl) (Nat.le_of_ble_eq_true rfl) dJ7_copyOfRangeByte_39247_32

set_option maxHeartbeats 4000000 in
set_option maxRecDepth 100000 in
/-- copyOfRange -/
theorem c_J7_range_25 (l : Launch) (G : zG) (sz : Nat) (va : Nat) (vf : Nat → Int32) (hfv : zFit vf) : Met l yJ7_copyOfRange_39247 wsJ7_copyOfRange_39247 { frames := 2, cells := 1, slots := 26, locals := 50 } (zPc G [.ref va, .int 0, .int 25] [(va, .inl (G.2.1 1, 34, .inl vf))] sz) (zQr G (fun (u : Nat) => True) (fun u => [(va, .inl (G.2.1 1, 34, .inl vf)), (u, .inl (G.2.1 1, 25, .inl (va_cpy vf (fun _ => 0) 0 0 25)))]) (fun u => u) (va_A [(va, .inl (G.2.1 1, 34, .inl vf))] sz)) 1 26 (va_A [(va, .inl (G.2.1 1, 34, .inl vf))] sz) := by
  refine zOfW (Qc := fun A => zQr G (fun (u : Nat) => True) (fun u => [(va, .inl (G.2.1 1, 34, .inl vf)), (u, .inl (G.2.1 1, 25, .inl (va_cpy vf (fun _ => 0) 0 0 25)))]) (fun u => u) A) (fr := fun A => A) (cc := cJ7_copyOfRange_39247) (maxL := 3) (ret := (some (.array .byte))) (by decide) rfl (Nat.le_of_ble_eq_true rfl) ?_
  intro p e s m below meth c hx hb hml hr hlocks hown hin hts A hP hK hD hE hA hS ls hl
  have hl : lv_has ls 3 [(0, .ref va), (1, .int 0), (2, .int 25)] := hl
  have hown : s.vm.findClass RJ7 = some m.cls := hown
  have hP : zP G [(va, .inl (G.2.1 1, 34, .inl vf))] s.heap := hP
  have hD : va_D A [(va, .inl (G.2.1 1, 34, .inl vf))] := hD
  refine lv_iload_n hx hb dJ7_copyOfRange_39247_0 rfl (lv_at hl 1 rfl) ?_
  refine lv_if_ne (tgt := 10) hx hb dJ7_copyOfRange_39247_1 (by decide) (fun c_1 => absurd (by decide) c_1) (fun c_1 => ?_)
  refine lv_iload_n hx hb dJ7_copyOfRange_39247_4 rfl (lv_at hl 2 rfl) ?_
  refine lv_aload_n hx hb dJ7_copyOfRange_39247_5 rfl (lv_at hl 0 rfl) ?_
  refine va_alen (v := 34) hx hb hK hP 0 1 rfl rfl rfl dJ7_copyOfRange_39247_6 ?_
  refine lv_icmp_eq (tgt := 17) hx hb dJ7_copyOfRange_39247_7 (by decide) (fun c_2 => absurd c_2 (by decide)) (fun c_2 => ?_)
  refine lv_aload_n hx hb dJ7_copyOfRange_39247_10 rfl (lv_at hl 0 rfl) ?_
  refine lv_iload_n hx hb dJ7_copyOfRange_39247_11 rfl (lv_at hl 1 rfl) ?_
  refine lv_iload_n hx hb dJ7_copyOfRange_39247_12 rfl (lv_at hl 2 rfl) ?_
  refine zDr (wr := []) (va_runS (As := [.ref va, .int 0, .int 25]) (rest := []) ⟨hx, hb, hml, hown, hts⟩ (c_J7_rangeB_25 l G s.heap.size va vf hfv) (va_cwS 3 hts gJ7_copyOfRange_39247_J7_copyOfRangeByte_39247 rfl rfl rfl (by decide +kernel) ⟨(Nat.le_of_ble_eq_true rfl), (Nat.le_of_ble_eq_true rfl)⟩) (zPreS hE hS hA hP hD hK (z_pick (n := 1) [0] [] rfl (by decide) rfl rfl)) rfl rfl hl.1 rfl (lv_room (Nat.le_of_ble_eq_true rfl)) dJ7_copyOfRange_39247_13 ⟨(Nat.le_of_ble_eq_true rfl), (Nat.le_of_ble_eq_true rfl)⟩) hP hD hS hA (z_pick (n := 1) [0] [] rfl (by decide) rfl rfl) (fun u_3 H locs hp_4 hP hD hS => ?_)
  obtain ⟨nv_0, rfl⟩ : ∃ z, z = u_3 := ⟨_, rfl⟩
  have hP : zP G [(va, .inl (G.2.1 1, 34, .inl vf)), (nv_0, .inl (G.2.1 1, 25, .inl (va_cpy vf (fun _ => 0) 0 0 25)))] H := hP
  have hD : va_D A [(va, .inl (G.2.1 1, 34, .inl vf)), (nv_0, .inl (G.2.1 1, 25, .inl (va_cpy vf (fun _ => 0) 0 0 25)))] := hD
  exact zWr (nv_0) hx hb hr hlocks (Or.inr ⟨_, rfl⟩) trivial hP hD hK hS (z_pick (n := 2) [0, 1] [] rfl (by decide) rfl rfl) (Nat.le_of_ble_eq_true rfl) (Nat.le_of_ble_eq_true rfl) dJ7_copyOfRange_39247_16

set_option maxHeartbeats 4000000 in
set_option maxRecDepth 100000 in
/-- String(AbstractStringBuilder, Void) -/
theorem c_J0_initA_25 (l : Launch) (G : zG) (sz : Nat) (so : Nat) (sb : Nat) (va : Nat) (vf : Nat → Int32) (hfv : zFit vf) : Met l yJ0_init_db425 wsJ0_init_db425 { frames := 3, cells := 1, slots := 26, locals := 72 } (zPc G [.ref so, .ref sb, .null] [(so, .inr (0, [.null, .int 0, .int 0, .int 0])), (sb, .inr (1, [.ref va, .int 0, .int 0, .int (nI 25)])), (va, .inl (G.2.1 1, 34, .inl vf))] sz) (zQv G (fun (u : Nat) => True) (fun u => [(so, .inr (0, [.ref u, .int 0, .int 0, .int 0])), (u, .inl (G.2.1 1, 25, .inl (va_cpy vf (fun _ => 0) 0 0 25)))]) (va_A [(so, .inr (0, [.null, .int 0, .int 0, .int 0])), (sb, .inr (1, [.ref va, .int 0, .int 0, .int (nI 25)])), (va, .inl (G.2.1 1, 34, .inl vf))] sz)) 1 26 (va_A [(so, .inr (0, [.null, .int 0, .int 0, .int 0])), (sb, .inr (1, [.ref va, .int 0, .int 0, .int (nI 25)])), (va, .inl (G.2.1 1, 34, .inl vf))] sz) := by
  refine zOfW (Qc := fun A => zQv G (fun (u : Nat) => True) (fun u => [(so, .inr (0, [.ref u, .int 0, .int 0, .int 0])), (u, .inl (G.2.1 1, 25, .inl (va_cpy vf (fun _ => 0) 0 0 25)))]) A) (fr := fun A => A) (cc := cJ0_init_db425) (maxL := 5) (ret := none) (by decide) rfl (Nat.le_of_ble_eq_true rfl) ?_
  intro p e s m below meth c hx hb hml hr hlocks hown hin hts A hP hK hD hE hA hS ls hl
  have hl : lv_has ls 5 [(0, .ref so), (1, .ref sb), (2, .null)] := hl
  have hown : s.vm.findClass RJ0 = some m.cls := hown
  have hin : meth.name = "<init>" := hin
  have hP : zP G [(so, .inr (0, [.null, .int 0, .int 0, .int 0])), (sb, .inr (1, [.ref va, .int 0, .int 0, .int (nI 25)])), (va, .inl (G.2.1 1, 34, .inl vf))] s.heap := hP
  have hD : va_D A [(so, .inr (0, [.null, .int 0, .int 0, .int 0])), (sb, .inr (1, [.ref va, .int 0, .int 0, .int (nI 25)])), (va, .inl (G.2.1 1, 34, .inl vf))] := hD
  refine lv_aload_n hx hb dJ0_init_db425_0 rfl (lv_at hl 0 rfl) ?_
  refine W.objInit hx hb hown (hts (.methodLink "java/lang/String" 1 ⟨"java/lang/Object","<init>","()V"⟩) (List.mem_of_getElem? (i := 1) (by decide +kernel))) (hts (.instanceMethod objectInit) (List.mem_of_getElem? (i := 2) (by decide +kernel))) (hts (.code objectInit ⟨#[0xb1]⟩ 1 none) (List.mem_of_getElem? (i := 3) (by decide +kernel))) rfl (by rw [hml]; exact hl.1) rfl dJ0_init_db425_1 (Nat.le_of_ble_eq_true rfl) (Nat.le_of_ble_eq_true rfl) ?_
  refine W.eq (g2 := F0 m 4 ls []) rfl ?_
  refine lv_aload_n hx hb dJ0_init_db425_4 rfl (lv_at hl 1 rfl) ?_
  refine zCr (r := va) (va_runU (As := []) (rest := []) ⟨hx, hb, hml, hown, hts⟩ (c_J5_getValue l G s.heap.size sb va 25) (va_cwU 0 hts gJ0_init_db425_J5_getValue_6d5f1_u552J4 rfl rfl rfl rfl (by decide +kernel) ⟨(Nat.le_of_ble_eq_true rfl), (Nat.le_of_ble_eq_true rfl)⟩) (zPreV hE hS hA hP hD hK (z_pick (n := 3) [1] [0, 2] rfl (by decide) rfl rfl) (va_recv hK hP (ci := 1) (q0 := 1) rfl rfl)) rfl rfl hl.1 rfl (lv_room (Nat.le_of_ble_eq_true rfl)) dJ0_init_db425_5 ⟨(Nat.le_of_ble_eq_true rfl), (Nat.le_of_ble_eq_true rfl)⟩).run ?_
  refine lv_astore_n (lv' := [(3, .ref va), (0, .ref so), (1, .ref sb), (2, .null)]) hx hb dJ0_init_db425_8 rfl hl (by decide) rfl (fun ls hl => ?_)
  refine lv_aload_n hx hb dJ0_init_db425_9 rfl (lv_at hl 2 rfl) ?_
  refine zCi (r := nI 25) (va_runU (As := []) (rest := []) ⟨hx, hb, hml, hown, hts⟩ (c_J4_length l G s.heap.size sb va 25) (va_cwO 0 hts gJ0_init_db425_J4_length_8abf5_u549J4 rfl rfl rfl (show Cond.code yJ5_length_8abf5 cJ5_length_8abf5 1 (some .int) ∈ wsJ0_init_db425 from (List.mem_of_getElem? (i := 25) (by decide +kernel))) (by decide +kernel) ⟨(Nat.le_of_ble_eq_true rfl), (Nat.le_of_ble_eq_true rfl)⟩) (zPreV hE hS hA hP hD hK (z_pick (n := 3) [1] [0, 2] rfl (by decide) rfl rfl) (va_recv hK hP (ci := 1) (q0 := 1) rfl rfl)) rfl rfl hl.1 rfl (lv_room (Nat.le_of_ble_eq_true rfl)) dJ0_init_db425_10 ⟨(Nat.le_of_ble_eq_true rfl), (Nat.le_of_ble_eq_true rfl)⟩).run ?_
  refine zTop (v := 25) (by decide) ?_
  refine lv_istore (lv' := [(4, .int 25), (3, .ref va), (0, .ref so), (1, .ref sb), (2, .null)]) hx hb dJ0_init_db425_13 hl (by decide) rfl (fun ls hl => ?_)
  refine lv_aload_n hx hb dJ0_init_db425_15 rfl (lv_at hl 3 rfl) ?_
  refine zCi (r := 1) (va_runU (As := []) (rest := []) ⟨hx, hb, hml, hown, hts⟩ (c_J5_isLatin1 l G s.heap.size sb va 25) (va_cwU 0 hts gJ0_init_db425_J5_isLatin1_aae02_u1047J4 rfl rfl rfl rfl (by decide +kernel) ⟨(Nat.le_of_ble_eq_true rfl), (Nat.le_of_ble_eq_true rfl)⟩) (zPreV hE hS hA hP hD hK (z_pick (n := 3) [1] [0, 2] rfl (by decide) rfl rfl) (va_recv hK hP (ci := 1) (q0 := 1) rfl rfl)) rfl rfl hl.1 rfl (lv_room (Nat.le_of_ble_eq_true rfl)) dJ0_init_db425_16 ⟨(Nat.le_of_ble_eq_true rfl), (Nat.le_of_ble_eq_true rfl)⟩).run ?_
  refine lv_if_eq (tgt := 41) hx hb dJ0_init_db425_19 (by decide) (fun c_1 => absurd c_1 (by decide)) (fun c_1 => ?_)
  refine lv_aload_n hx hb dJ0_init_db425_22 rfl (lv_at hl 2 rfl) ?_
  refine lv_iconst (v := 0) hx hb dJ0_init_db425_23 (by decide) ?_
  refine va_putF (D := G.1) (ci := 0) (v := .int 0) (ty := .byte) (C := RJ0) (T := TJ0) (N := 4) hx hb hts wsi_J0_init_db425_J0 tyJ0 tyJ0_ok nmJ0 hown hK hP hD hS 0 rfl rfl 1 (by decide) (hts (.fieldLink "java/lang/String" 15 "java/lang/String" "coder" "B") (List.mem_of_getElem? (i := 4) (by decide +kernel))) (fun _ h9 => h9) rfl hin rfl (by decide +kernel) rfl rfl (Nat.le_of_ble_eq_true rfl) dJ0_init_db425_24 (fun H locs hP hD hS => ?_)
  have hP : zP G [(so, .inr (0, [.null, .int 0, .int 0, .int 0])), (sb, .inr (1, [.ref va, .int 0, .int 0, .int (nI 25)])), (va, .inl (G.2.1 1, 34, .inl vf))] H := hP
  have hD : va_D A [(so, .inr (0, [.null, .int 0, .int 0, .int 0])), (sb, .inr (1, [.ref va, .int 0, .int 0, .int (nI 25)])), (va, .inl (G.2.1 1, 34, .inl vf))] := hD
  refine lv_aload_n hx hb dJ0_init_db425_27 rfl (lv_at hl 2 rfl) ?_
  refine lv_aload_n hx hb dJ0_init_db425_28 rfl (lv_at hl 1 rfl) ?_
  refine lv_iconst (v := 0) hx hb dJ0_init_db425_29 (by decide) ?_
  refine lv_iload hx hb dJ0_init_db425_30 (lv_at hl 0 rfl) ?_
  refine zDr (wr := [(so, .inr (0, [.null, .int 0, .int 0, .int 0])), (sb, .inr (1, [.ref va, .int 0, .int 0, .int (nI 25)]))]) (va_runS (As := [.ref va, .int 0, .int 25]) (rest := [.ref so]) ⟨hx, hb, hml, hown, hts⟩ (c_J7_range_25 l G H.size va vf hfv) (va_cwS 3 hts gJ0_init_db425_J7_copyOfRange_39247 rfl rfl rfl (by decide +kernel) ⟨(Nat.le_of_ble_eq_true rfl), (Nat.le_of_ble_eq_true rfl)⟩) (zPreS hE hS hA hP hD hK (z_pick (n := 3) [2] [0, 1] rfl (by decide) rfl rfl)) rfl rfl hl.1 rfl (lv_room (Nat.le_of_ble_eq_true rfl)) dJ0_init_db425_32 ⟨(Nat.le_of_ble_eq_true rfl), (Nat.le_of_ble_eq_true rfl)⟩) hP hD hS hA (z_pick (n := 3) [2] [0, 1] rfl (by decide) rfl rfl) (fun u_2 H locs hp_3 hP hD hS => ?_)
  obtain ⟨nv_0, rfl⟩ : ∃ z, z = u_2 := ⟨_, rfl⟩
  have hP : zP G [(va, .inl (G.2.1 1, 34, .inl vf)), (nv_0, .inl (G.2.1 1, 25, .inl (va_cpy vf (fun _ => 0) 0 0 25))), (so, .inr (0, [.null, .int 0, .int 0, .int 0])), (sb, .inr (1, [.ref va, .int 0, .int 0, .int (nI 25)]))] H := hP
  have hD : va_D A [(va, .inl (G.2.1 1, 34, .inl vf)), (nv_0, .inl (G.2.1 1, 25, .inl (va_cpy vf (fun _ => 0) 0 0 25))), (so, .inr (0, [.null, .int 0, .int 0, .int 0])), (sb, .inr (1, [.ref va, .int 0, .int 0, .int (nI 25)]))] := hD
  refine va_putF (D := G.1) (ci := 0) (v := .ref nv_0) (ty := .array .byte) (C := RJ0) (T := TJ0) (N := 4) hx hb hts wsi_J0_init_db425_J0 tyJ0 tyJ0_ok nmJ0 hown hK hP hD hS 2 rfl rfl 0 (by decide) (hts (.fieldLink "java/lang/String" 9 "java/lang/String" "value" "[B") (List.mem_of_getElem? (i := 5) (by decide +kernel))) (fun _ h9 => h9) rfl hin rfl (by decide +kernel) rfl rfl (Nat.le_of_ble_eq_true rfl) dJ0_init_db425_35 (fun H locs hP hD hS => ?_)
  have hP : zP G [(va, .inl (G.2.1 1, 34, .inl vf)), (nv_0, .inl (G.2.1 1, 25, .inl (va_cpy vf (fun _ => 0) 0 0 25))), (so, .inr (0, [.ref nv_0, .int 0, .int 0, .int 0])), (sb, .inr (1, [.ref va, .int 0, .int 0, .int (nI 25)]))] H := hP
  have hD : va_D A [(va, .inl (G.2.1 1, 34, .inl vf)), (nv_0, .inl (G.2.1 1, 25, .inl (va_cpy vf (fun _ => 0) 0 0 25))), (so, .inr (0, [.ref nv_0, .int 0, .int 0, .int 0])), (sb, .inr (1, [.ref va, .int 0, .int 0, .int (nI 25)]))] := hD
  refine lv_goto (tgt := 97) hx hb dJ0_init_db425_38 (by decide) ?_
  exact zWv (nv_0) hx hb hr hlocks trivial hP hD hK hS (z_pick (n := 4) [2, 1] [0, 3] rfl (by decide) rfl rfl) (Nat.le_of_ble_eq_true rfl) (Nat.le_of_ble_eq_true rfl) dJ0_init_db425_97

set_option maxHeartbeats 4000000 in
set_option maxRecDepth 100000 in
/-- String(StringBuilder) -/
theorem c_J0_initB_25 (l : Launch) (G : zG) (sz : Nat) (so : Nat) (sb : Nat) (va : Nat) (vf : Nat → Int32) (hfv : zFit vf) : Met l yJ0_init_81219 wsJ0_init_81219 { frames := 4, cells := 1, slots := 26, locals := 96 } (zPc G [.ref so, .ref sb] [(so, .inr (0, [.null, .int 0, .int 0, .int 0])), (sb, .inr (1, [.ref va, .int 0, .int 0, .int (nI 25)])), (va, .inl (G.2.1 1, 34, .inl vf))] sz) (zQv G (fun (u : Nat) => True) (fun u => [(so, .inr (0, [.ref u, .int 0, .int 0, .int 0])), (u, .inl (G.2.1 1, 25, .inl (va_cpy vf (fun _ => 0) 0 0 25)))]) (va_A [(so, .inr (0, [.null, .int 0, .int 0, .int 0])), (sb, .inr (1, [.ref va, .int 0, .int 0, .int (nI 25)])), (va, .inl (G.2.1 1, 34, .inl vf))] sz)) 1 26 (va_A [(so, .inr (0, [.null, .int 0, .int 0, .int 0])), (sb, .inr (1, [.ref va, .int 0, .int 0, .int (nI 25)])), (va, .inl (G.2.1 1, 34, .inl vf))] sz) := by
  refine zOfW (Qc := fun A => zQv G (fun (u : Nat) => True) (fun u => [(so, .inr (0, [.ref u, .int 0, .int 0, .int 0])), (u, .inl (G.2.1 1, 25, .inl (va_cpy vf (fun _ => 0) 0 0 25)))]) A) (fr := fun A => A) (cc := cJ0_init_81219) (maxL := 2) (ret := none) (by decide) rfl (Nat.le_of_ble_eq_true rfl) ?_
  intro p e s m below meth c hx hb hml hr hlocks hown hin hts A hP hK hD hE hA hS ls hl
  have hl : lv_has ls 2 [(0, .ref so), (1, .ref sb)] := hl
  have hown : s.vm.findClass RJ0 = some m.cls := hown
  have hin : meth.name = "<init>" := hin
  have hP : zP G [(so, .inr (0, [.null, .int 0, .int 0, .int 0])), (sb, .inr (1, [.ref va, .int 0, .int 0, .int (nI 25)])), (va, .inl (G.2.1 1, 34, .inl vf))] s.heap := hP
  have hD : va_D A [(so, .inr (0, [.null, .int 0, .int 0, .int 0])), (sb, .inr (1, [.ref va, .int 0, .int 0, .int (nI 25)])), (va, .inl (G.2.1 1, 34, .inl vf))] := hD
  refine lv_aload_n hx hb dJ0_init_81219_0 rfl (lv_at hl 0 rfl) ?_
  refine lv_aload_n hx hb dJ0_init_81219_1 rfl (lv_at hl 1 rfl) ?_
  refine lv_null hx hb dJ0_init_81219_2 ?_
  refine zDv (wr := []) (va_runI (As := [.ref sb, .null]) (rest := []) ⟨hx, hb, hml, hown, hts⟩ (c_J0_initA_25 l G s.heap.size so sb va vf hfv) (cwI 2 hts gJ0_init_81219_J0_init_db425 rfl rfl rfl (hts (.initialized RJ0) (List.mem_of_getElem? (i := 3) (by decide +kernel))) (hts (.methodLink "java/lang/String" 489 ⟨"java/lang/String","<init>","(Ljava/lang/AbstractStringBuilder;Ljava/lang/Void;)V"⟩) (List.mem_of_getElem? (i := 1) (by decide +kernel))) (hts (.instanceMethod yJ0_init_db425) (List.mem_of_getElem? (i := 2) (by decide +kernel))) rfl (by decide +kernel) ⟨(Nat.le_of_ble_eq_true rfl), (Nat.le_of_ble_eq_true rfl)⟩) (zPreS (As := [.ref so, .ref sb, .null]) hE hS hA hP hD hK (z_pick (n := 3) [0, 1, 2] [] rfl (by decide) rfl rfl)) rfl rfl hl.1 rfl (lv_room (Nat.le_of_ble_eq_true rfl)) dJ0_init_81219_3 ⟨(Nat.le_of_ble_eq_true rfl), (Nat.le_of_ble_eq_true rfl)⟩) hP hD hS hA (z_pick (n := 3) [0, 1, 2] [] rfl (by decide) rfl rfl) (fun u_1 H locs hp_2 hP hD hS => ?_)
  obtain ⟨nv_0, rfl⟩ : ∃ z, z = u_1 := ⟨_, rfl⟩
  have hP : zP G [(so, .inr (0, [.ref nv_0, .int 0, .int 0, .int 0])), (nv_0, .inl (G.2.1 1, 25, .inl (va_cpy vf (fun _ => 0) 0 0 25)))] H := hP
  have hD : va_D A [(so, .inr (0, [.ref nv_0, .int 0, .int 0, .int 0])), (nv_0, .inl (G.2.1 1, 25, .inl (va_cpy vf (fun _ => 0) 0 0 25)))] := hD
  exact zWv (nv_0) hx hb hr hlocks trivial hP hD hK hS (z_pick (n := 2) [0, 1] [] rfl (by decide) rfl rfl) (Nat.le_of_ble_eq_true rfl) (Nat.le_of_ble_eq_true rfl) dJ0_init_81219_6

set_option maxHeartbeats 4000000 in
set_option maxRecDepth 100000 in
/-- toString -/
theorem c_J4_toString_25 (l : Launch) (G : zG) (sz : Nat) (sb : Nat) (va : Nat) (vf : Nat → Int32) (hfv : zFit vf) : Met l yJ4_toString_0e30d wsJ4_toString_0e30d { frames := 5, cells := 2, slots := 30, locals := 117 } (zPc G [.ref sb] [(sb, .inr (1, [.ref va, .int 0, .int 0, .int (nI 25)])), (va, .inl (G.2.1 1, 34, .inl vf))] sz) (zQr G (fun (u : Nat × Nat) => True) (fun u => [(u.1, .inr (0, [.ref u.2, .int 0, .int 0, .int 0])), (u.2, .inl (G.2.1 1, 25, .inl (va_cpy vf (fun _ => 0) 0 0 25)))]) (fun u => u.1) (va_A [(sb, .inr (1, [.ref va, .int 0, .int 0, .int (nI 25)])), (va, .inl (G.2.1 1, 34, .inl vf))] sz)) 2 30 (va_A [(sb, .inr (1, [.ref va, .int 0, .int 0, .int (nI 25)])), (va, .inl (G.2.1 1, 34, .inl vf))] sz) := by
  refine zOfW (Qc := fun A => zQr G (fun (u : Nat × Nat) => True) (fun u => [(u.1, .inr (0, [.ref u.2, .int 0, .int 0, .int 0])), (u.2, .inl (G.2.1 1, 25, .inl (va_cpy vf (fun _ => 0) 0 0 25)))]) (fun u => u.1) A) (fr := fun A => A) (cc := cJ4_toString_0e30d) (maxL := 1) (ret := (some (.object "java/lang/String"))) (by decide) rfl (Nat.le_of_ble_eq_true rfl) ?_
  intro p e s m below meth c hx hb hml hr hlocks hown hin hts A hP hK hD hE hA hS ls hl
  have hl : lv_has ls 1 [(0, .ref sb)] := hl
  have hown : s.vm.findClass RJ4 = some m.cls := hown
  have hP : zP G [(sb, .inr (1, [.ref va, .int 0, .int 0, .int (nI 25)])), (va, .inl (G.2.1 1, 34, .inl vf))] s.heap := hP
  have hD : va_D A [(sb, .inr (1, [.ref va, .int 0, .int 0, .int (nI 25)])), (va, .inl (G.2.1 1, 34, .inl vf))] := hD
  refine va_new (D := G.1) (ci := 0) (fs := [.null, .int 0, .int 0, .int 0]) (C := RJ0) (T := TJ0) (N := 4) hx hb hts wsi_J4_toString_0e30d_J0 tyJ0 tyJ0_ok hown (hts (.classLink "java/lang/StringBuilder" 18 "java/lang/String") (List.mem_of_getElem? (i := 1) (by decide +kernel))) (hts (.instantiable RJ0 4) (List.mem_of_getElem? (i := 2) (by decide +kernel))) (hts (.initialized RJ0) (List.mem_of_getElem? (i := 3) (by decide +kernel))) hK hP hD hS hA rfl (fun j hj => by rcases (show j = 0 ∨ j = 1 ∨ j = 2 ∨ j = 3 by omega) with rfl | rfl | rfl | rfl <;> rfl) (Nat.le_of_ble_eq_true rfl) (Nat.le_of_ble_eq_true rfl) dJ4_toString_0e30d_0 (fun q_1 H hP hD hS => ?_)
  have hP : zP G [(sb, .inr (1, [.ref va, .int 0, .int 0, .int (nI 25)])), (va, .inl (G.2.1 1, 34, .inl vf)), (q_1, .inr (0, [.null, .int 0, .int 0, .int 0]))] H := hP
  have hD : va_D A [(sb, .inr (1, [.ref va, .int 0, .int 0, .int (nI 25)])), (va, .inl (G.2.1 1, 34, .inl vf)), (q_1, .inr (0, [.null, .int 0, .int 0, .int 0]))] := hD
  refine lv_dup hx hb dJ4_toString_0e30d_3 rfl ?_
  refine lv_aload_n hx hb dJ4_toString_0e30d_4 rfl (lv_at hl 0 rfl) ?_
  refine zDv (wr := []) (va_runI (As := [.ref sb]) (rest := [.ref q_1]) ⟨hx, hb, hml, hown, hts⟩ (c_J0_initB_25 l G H.size q_1 sb va vf hfv) (cwI 1 hts gJ4_toString_0e30d_J0_init_81219 rfl rfl rfl (hts (.initialized RJ0) (List.mem_of_getElem? (i := 3) (by decide +kernel))) (hts (.methodLink "java/lang/StringBuilder" 137 ⟨"java/lang/String","<init>","(Ljava/lang/StringBuilder;)V"⟩) (List.mem_of_getElem? (i := 4) (by decide +kernel))) (hts (.instanceMethod yJ0_init_81219) (List.mem_of_getElem? (i := 5) (by decide +kernel))) rfl (by decide +kernel) ⟨(Nat.le_of_ble_eq_true rfl), (Nat.le_of_ble_eq_true rfl)⟩) (zPreS (As := [.ref q_1, .ref sb]) hE hS hA hP hD hK (z_pick (n := 3) [2, 0, 1] [] rfl (by decide) rfl rfl)) rfl rfl hl.1 rfl (lv_room (Nat.le_of_ble_eq_true rfl)) dJ4_toString_0e30d_5 ⟨(Nat.le_of_ble_eq_true rfl), (Nat.le_of_ble_eq_true rfl)⟩) hP hD hS hA (z_pick (n := 3) [2, 0, 1] [] rfl (by decide) rfl rfl) (fun u_2 H locs hp_3 hP hD hS => ?_)
  obtain ⟨nv_0, rfl⟩ : ∃ z, z = u_2 := ⟨_, rfl⟩
  have hP : zP G [(q_1, .inr (0, [.ref nv_0, .int 0, .int 0, .int 0])), (nv_0, .inl (G.2.1 1, 25, .inl (va_cpy vf (fun _ => 0) 0 0 25)))] H := hP
  have hD : va_D A [(q_1, .inr (0, [.ref nv_0, .int 0, .int 0, .int 0])), (nv_0, .inl (G.2.1 1, 25, .inl (va_cpy vf (fun _ => 0) 0 0 25)))] := hD
  exact zWr (q_1, nv_0) hx hb hr hlocks (Or.inl ⟨_, rfl⟩) trivial hP hD hK hS (z_pick (n := 2) [0, 1] [] rfl (by decide) rfl rfl) (Nat.le_of_ble_eq_true rfl) (Nat.le_of_ble_eq_true rfl) dJ4_toString_0e30d_8

set_option maxHeartbeats 4000000 in
set_option maxRecDepth 100000 in
/-- checkLength -/
theorem c_J7_check_26 (l : Launch) (G : zG) (sz : Nat) : Met l yJ7_checkLength_df160 wsJ7_checkLength_df160 { frames := 0, cells := 0, slots := 0, locals := 0 } (zPc G [.int 0, .int 26] [] sz) (va_Sv (fun _ => True)) 0 0 (fun _ => False) := by
  refine zOfW (Qc := fun _ => va_Sv (fun _ => True)) (fr := fun _ _ => False) (cc := cJ7_checkLength_df160) (maxL := 2) (ret := none) (by decide) rfl (Nat.le_of_ble_eq_true rfl) ?_
  intro p e s m below meth c hx hb hml hr hlocks hown hin hts A hP hK hD hE hA hS ls hl
  have hl : lv_has ls 2 [(0, .int 0), (1, .int 26)] := hl
  have hown : s.vm.findClass RJ7 = some m.cls := hown
  refine lv_iload_n hx hb dJ7_checkLength_df160_0 rfl (lv_at hl 1 rfl) ?_
  refine lv_iload_n hx hb dJ7_checkLength_df160_1 rfl (lv_at hl 0 rfl) ?_
  refine lv_icmp_ge (tgt := 37) hx hb dJ7_checkLength_df160_2 (by decide) (fun c_1 => ?_) (fun c_1 => absurd (by decide) c_1)
  exact zRv hx hb hr hlocks rfl rfl (Nat.le_of_ble_eq_true rfl) (Nat.le_of_ble_eq_true rfl) dJ7_checkLength_df160_37

set_option maxHeartbeats 4000000 in
set_option maxRecDepth 100000 in
/-- copyOfRangeByte -/
theorem c_J7_rangeB_26 (l : Launch) (G : zG) (sz : Nat) (va : Nat) (vf : Nat → Int32) (hfv : zFit vf) : Met l yJ7_copyOfRangeByte_39247 wsJ7_copyOfRangeByte_39247 { frames := 1, cells := 1, slots := 26, locals := 26 } (zPc G [.ref va, .int 0, .int 26] [(va, .inl (G.2.1 1, 34, .inl vf))] sz) (zQr G (fun (u : Nat) => True) (fun u => [(va, .inl (G.2.1 1, 34, .inl vf)), (u, .inl (G.2.1 1, 26, .inl (va_cpy vf (fun _ => 0) 0 0 26)))]) (fun u => u) (va_A [(va, .inl (G.2.1 1, 34, .inl vf))] sz)) 1 26 (va_A [(va, .inl (G.2.1 1, 34, .inl vf))] sz) := by
  refine zOfW (Qc := fun A => zQr G (fun (u : Nat) => True) (fun u => [(va, .inl (G.2.1 1, 34, .inl vf)), (u, .inl (G.2.1 1, 26, .inl (va_cpy vf (fun _ => 0) 0 0 26)))]) (fun u => u) A) (fr := fun A => A) (cc := cJ7_copyOfRangeByte_39247) (maxL := 5) (ret := (some (.array .byte))) (by decide) rfl (Nat.le_of_ble_eq_true rfl) ?_
  intro p e s m below meth c hx hb hml hr hlocks hown hin hts A hP hK hD hE hA hS ls hl
  have hl : lv_has ls 5 [(0, .ref va), (1, .int 0), (2, .int 26)] := hl
  have hown : s.vm.findClass RJ7 = some m.cls := hown
  have hP : zP G [(va, .inl (G.2.1 1, 34, .inl vf))] s.heap := hP
  have hD : va_D A [(va, .inl (G.2.1 1, 34, .inl vf))] := hD
  refine lv_iload_n hx hb dJ7_copyOfRangeByte_39247_0 rfl (lv_at hl 1 rfl) ?_
  refine lv_iload_n hx hb dJ7_copyOfRangeByte_39247_1 rfl (lv_at hl 2 rfl) ?_
  refine zCv (va_runS (As := [.int 0, .int 26]) (rest := []) ⟨hx, hb, hml, hown, hts⟩ (c_J7_check_26 l G s.heap.size) (va_cwS 2 hts gJ7_copyOfRangeByte_39247_J7_checkLength_df160 rfl rfl rfl (by decide +kernel) ⟨(Nat.le_of_ble_eq_true rfl), (Nat.le_of_ble_eq_true rfl)⟩) (zPreS hE hS hA hP hD hK (z_pick (n := 1) [] [0] rfl (by decide) rfl rfl)) rfl rfl hl.1 rfl (lv_room (Nat.le_of_ble_eq_true rfl)) dJ7_copyOfRangeByte_39247_2 ⟨(Nat.le_of_ble_eq_true rfl), (Nat.le_of_ble_eq_true rfl)⟩).run ?_
  refine lv_iload_n hx hb dJ7_copyOfRangeByte_39247_5 rfl (lv_at hl 2 rfl) ?_
  refine lv_iload_n hx hb dJ7_copyOfRangeByte_39247_6 rfl (lv_at hl 1 rfl) ?_
  refine lv_isub hx hb dJ7_copyOfRangeByte_39247_7 ?_
  refine zTop (v := 26) (by decide) ?_
  refine lv_istore_n (lv' := [(3, .int 26), (0, .ref va), (1, .int 0), (2, .int 26)]) hx hb dJ7_copyOfRangeByte_39247_8 rfl hl (by decide) rfl (fun ls hl => ?_)
  refine lv_iload_n hx hb dJ7_copyOfRangeByte_39247_9 rfl (lv_at hl 0 rfl) ?_
  refine zNewb (N := 26) hx hb (hts (.arrayClass .byte) (List.mem_of_getElem? (i := 1) (by decide +kernel))) hK hP hD hS hA (by decide) (by decide) (by decide) (Nat.le_of_ble_eq_true rfl) (Nat.le_of_ble_eq_true rfl) dJ7_copyOfRangeByte_39247_10 (fun q_1 H hP hD hS => ?_)
  have hP : zP G [(va, .inl (G.2.1 1, 34, .inl vf)), (q_1, .inl (G.2.1 1, 26, .inl (fun _ => 0)))] H := hP
  have hD : va_D A [(va, .inl (G.2.1 1, 34, .inl vf)), (q_1, .inl (G.2.1 1, 26, .inl (fun _ => 0)))] := hD
  refine lv_astore (lv' := [(4, .ref q_1), (3, .int 26), (0, .ref va), (1, .int 0), (2, .int 26)]) hx hb dJ7_copyOfRangeByte_39247_12 hl (by decide) rfl (fun ls hl => ?_)
  refine lv_aload_n hx hb dJ7_copyOfRangeByte_39247_14 rfl (lv_at hl 2 rfl) ?_
  refine lv_iload_n hx hb dJ7_copyOfRangeByte_39247_15 rfl (lv_at hl 3 rfl) ?_
  refine lv_aload hx hb dJ7_copyOfRangeByte_39247_16 (lv_at hl 0 rfl) ?_
  refine lv_iconst (v := 0) hx hb dJ7_copyOfRangeByte_39247_18 (by decide) ?_
  refine lv_aload_n hx hb dJ7_copyOfRangeByte_39247_19 rfl (lv_at hl 2 rfl) ?_
  refine va_alen (v := 34) hx hb hK hP 0 1 rfl rfl rfl dJ7_copyOfRangeByte_39247_20 ?_
  refine lv_iload_n hx hb dJ7_copyOfRangeByte_39247_21 rfl (lv_at hl 3 rfl) ?_
  refine lv_isub hx hb dJ7_copyOfRangeByte_39247_22 ?_
  refine zTop (v := 34) (by decide) ?_
  refine lv_iload_n hx hb dJ7_copyOfRangeByte_39247_23 rfl (lv_at hl 1 rfl) ?_
  refine va_mmin hx hb (by rw [hml]; exact hl.1.symm) hown (hts (.methodLink "java/util/Arrays" 304 ⟨"java/lang/Math","min","(II)I"⟩) (List.mem_of_getElem? (i := 2) (by decide +kernel))) (hts (.static Lib.Math.min.name) (List.mem_of_getElem? (i := 3) (by decide +kernel))) (hts (.initialized "java/lang/Math") (List.mem_of_getElem? (i := 4) (by decide +kernel))) (hts (.code Lib.Math.min.name Lib.Math.min.code 2 (some .int)) (List.mem_of_getElem? (i := 5) (by decide +kernel))) (Nat.le_of_ble_eq_true rfl) (Nat.le_of_ble_eq_true rfl) (Nat.le_of_ble_eq_true rfl) (Nat.le_of_ble_eq_true rfl) dJ7_copyOfRangeByte_39247_24 ?_
  refine zTop (v := 26) (by decide) ?_
  refine zCopyB hx hb (by rw [hml]; exact hl.1.symm) hown (hts (.methodLink "java/util/Arrays" 150 ⟨"java/lang/System","arraycopy","(Ljava/lang/Object;ILjava/lang/Object;II)V"⟩) (List.mem_of_getElem? (i := 6) (by decide +kernel))) (hts (.native arraycopyName) (List.mem_of_getElem? (i := 7) (by decide +kernel))) (hts (.static arraycopyName) (List.mem_of_getElem? (i := 8) (by decide +kernel))) (hts (.initialized "java/lang/System") (List.mem_of_getElem? (i := 9) (by decide +kernel))) hK hP hD hS 0 1 rfl rfl (a0 := 0) (b0 := 0) (k0 := 26) rfl rfl rfl (by decide) (by decide) (fun i _ => hfv _) (Nat.le_of_ble_eq_true rfl) (Nat.le_of_ble_eq_true rfl) dJ7_copyOfRangeByte_39247_27 (fun H locs hP hD hS => ?_)
  have hP : zP G [(va, .inl (G.2.1 1, 34, .inl vf)), (q_1, .inl (G.2.1 1, 26, .inl (va_cpy vf (fun _ => 0) 0 0 26)))] H := hP
  have hD : va_D A [(va, .inl (G.2.1 1, 34, .inl vf)), (q_1, .inl (G.2.1 1, 26, .inl (va_cpy vf (fun _ => 0) 0 0 26)))] := hD
  refine lv_aload hx hb dJ7_copyOfRangeByte_39247_30 (lv_at hl 0 rfl) ?_
  exact zWr (q_1) hx hb hr hlocks (Or.inr ⟨_, rfl⟩) trivial hP hD hK hS (z_pick (n := 2) [0, 1] [] rfl (by decide) rfl rfl) (Nat.le_of_ble_eq_true rfl) (Nat.le_of_ble_eq_true rfl) dJ7_copyOfRangeByte_39247_32

set_option maxHeartbeats 4000000 in
set_option maxRecDepth 100000 in
/-- copyOfRange -/
theorem c_J7_range_26 (l : Launch) (G : zG) (sz : Nat) (va : Nat) (vf : Nat → Int32) (hfv : zFit vf) : Met l yJ7_copyOfRange_39247 wsJ7_copyOfRange_39247 { frames := 2, cells := 1, slots := 26, locals := 50 } (zPc G [.ref va, .int 0, .int 26] [(va, .inl (G.2.1 1, 34, .inl vf))] sz) (zQr G (fun (u : Nat) => True) (fun u => [(va, .inl (G.2.1 1, 34, .inl vf)), (u, .inl (G.2.1 1, 26, .inl (va_cpy vf (fun _ => 0) 0 0 26)))]) (fun u => u) (va_A [(va, .inl (G.2.1 1, 34, .inl vf))] sz)) 1 26 (va_A [(va, .inl (G.2.1 1, 34, .inl vf))] sz) := by
  refine zOfW (Qc := fun A => zQr G (fun (u : Nat) => True) (fun u => [(va, .inl (G.2.1 1, 34, .inl vf)), (u, .inl (G.2.1 1, 26, .inl (va_cpy vf (fun _ => 0) 0 0 26)))]) (fun u => u) A) (fr := fun A => A) (cc := cJ7_copyOfRange_39247) (maxL := 3) (ret := (some (.array .byte))) (by decide) rfl (Nat.le_of_ble_eq_true rfl) ?_
  intro p e s m below meth c hx hb hml hr hlocks hown hin hts A hP hK hD hE hA hS ls hl
  have hl : lv_has ls 3 [(0, .ref va), (1, .int 0), (2, .int 26)] := hl
  have hown : s.vm.findClass RJ7 = some m.cls := hown
  have hP : zP G [(va, .inl (G.2.1 1, 34, .inl vf))] s.heap := hP
  have hD : va_D A [(va, .inl (G.2.1 1, 34, .inl vf))] := hD
  refine lv_iload_n hx hb dJ7_copyOfRange_39247_0 rfl (lv_at hl 1 rfl) ?_
  refine lv_if_ne (tgt := 10) hx hb dJ7_copyOfRange_39247_1 (by decide) (fun c_1 => absurd (by decide) c_1) (fun c_1 => ?_)
  refine lv_iload_n hx hb dJ7_copyOfRange_39247_4 rfl (lv_at hl 2 rfl) ?_
  refine lv_aload_n hx hb dJ7_copyOfRange_39247_5 rfl (lv_at hl 0 rfl) ?_
  refine va_alen (v := 34) hx hb hK hP 0 1 rfl rfl rfl dJ7_copyOfRange_39247_6 ?_
  refine lv_icmp_eq (tgt := 17) hx hb dJ7_copyOfRange_39247_7 (by decide) (fun c_2 => absurd c_2 (by decide)) (fun c_2 => ?_)
  refine lv_aload_n hx hb dJ7_copyOfRange_39247_10 rfl (lv_at hl 0 rfl) ?_
  refine lv_iload_n hx hb dJ7_copyOfRange_39247_11 rfl (lv_at hl 1 rfl) ?_
  refine lv_iload_n hx hb dJ7_copyOfRange_39247_12 rfl (lv_at hl 2 rfl) ?_
  refine zDr (wr := []) (va_runS (As := [.ref va, .int 0, .int 26]) (rest := []) ⟨hx, hb, hml, hown, hts⟩ (c_J7_rangeB_26 l G s.heap.size va vf hfv) (va_cwS 3 hts gJ7_copyOfRange_39247_J7_copyOfRangeByte_39247 rfl rfl rfl (by decide +kernel) ⟨(Nat.le_of_ble_eq_true rfl), (Nat.le_of_ble_eq_true rfl)⟩) (zPreS hE hS hA hP hD hK (z_pick (n := 1) [0] [] rfl (by decide) rfl rfl)) rfl rfl hl.1 rfl (lv_room (Nat.le_of_ble_eq_true rfl)) dJ7_copyOfRange_39247_13 ⟨(Nat.le_of_ble_eq_true rfl), (Nat.le_of_ble_eq_true rfl)⟩) hP hD hS hA (z_pick (n := 1) [0] [] rfl (by decide) rfl rfl) (fun u_3 H locs hp_4 hP hD hS => ?_)
  obtain ⟨nv_0, rfl⟩ : ∃ z, z = u_3 := ⟨_, rfl⟩
  have hP : zP G [(va, .inl (G.2.1 1, 34, .inl vf)), (nv_0, .inl (G.2.1 1, 26, .inl (va_cpy vf (fun _ => 0) 0 0 26)))] H := hP
  have hD : va_D A [(va, .inl (G.2.1 1, 34, .inl vf)), (nv_0, .inl (G.2.1 1, 26, .inl (va_cpy vf (fun _ => 0) 0 0 26)))] := hD
  exact zWr (nv_0) hx hb hr hlocks (Or.inr ⟨_, rfl⟩) trivial hP hD hK hS (z_pick (n := 2) [0, 1] [] rfl (by decide) rfl rfl) (Nat.le_of_ble_eq_true rfl) (Nat.le_of_ble_eq_true rfl) dJ7_copyOfRange_39247_16

set_option maxHeartbeats 4000000 in
set_option maxRecDepth 100000 in
/-- String(AbstractStringBuilder, Void) -/
theorem c_J0_initA_26 (l : Launch) (G : zG) (sz : Nat) (so : Nat) (sb : Nat) (va : Nat) (vf : Nat → Int32) (hfv : zFit vf) : Met l yJ0_init_db425 wsJ0_init_db425 { frames := 3, cells := 1, slots := 26, locals := 72 } (zPc G [.ref so, .ref sb, .null] [(so, .inr (0, [.null, .int 0, .int 0, .int 0])), (sb, .inr (1, [.ref va, .int 0, .int 0, .int (nI 26)])), (va, .inl (G.2.1 1, 34, .inl vf))] sz) (zQv G (fun (u : Nat) => True) (fun u => [(so, .inr (0, [.ref u, .int 0, .int 0, .int 0])), (u, .inl (G.2.1 1, 26, .inl (va_cpy vf (fun _ => 0) 0 0 26)))]) (va_A [(so, .inr (0, [.null, .int 0, .int 0, .int 0])), (sb, .inr (1, [.ref va, .int 0, .int 0, .int (nI 26)])), (va, .inl (G.2.1 1, 34, .inl vf))] sz)) 1 26 (va_A [(so, .inr (0, [.null, .int 0, .int 0, .int 0])), (sb, .inr (1, [.ref va, .int 0, .int 0, .int (nI 26)])), (va, .inl (G.2.1 1, 34, .inl vf))] sz) := by
  refine zOfW (Qc := fun A => zQv G (fun (u : Nat) => True) (fun u => [(so, .inr (0, [.ref u, .int 0, .int 0, .int 0])), (u, .inl (G.2.1 1, 26, .inl (va_cpy vf (fun _ => 0) 0 0 26)))]) A) (fr := fun A => A) (cc := cJ0_init_db425) (maxL := 5) (ret := none) (by decide) rfl (Nat.le_of_ble_eq_true rfl) ?_
  intro p e s m below meth c hx hb hml hr hlocks hown hin hts A hP hK hD hE hA hS ls hl
  have hl : lv_has ls 5 [(0, .ref so), (1, .ref sb), (2, .null)] := hl
  have hown : s.vm.findClass RJ0 = some m.cls := hown
  have hin : meth.name = "<init>" := hin
  have hP : zP G [(so, .inr (0, [.null, .int 0, .int 0, .int 0])), (sb, .inr (1, [.ref va, .int 0, .int 0, .int (nI 26)])), (va, .inl (G.2.1 1, 34, .inl vf))] s.heap := hP
  have hD : va_D A [(so, .inr (0, [.null, .int 0, .int 0, .int 0])), (sb, .inr (1, [.ref va, .int 0, .int 0, .int (nI 26)])), (va, .inl (G.2.1 1, 34, .inl vf))] := hD
  refine lv_aload_n hx hb dJ0_init_db425_0 rfl (lv_at hl 0 rfl) ?_
  refine W.objInit hx hb hown (hts (.methodLink "java/lang/String" 1 ⟨"java/lang/Object","<init>","()V"⟩) (List.mem_of_getElem? (i := 1) (by decide +kernel))) (hts (.instanceMethod objectInit) (List.mem_of_getElem? (i := 2) (by decide +kernel))) (hts (.code objectInit ⟨#[0xb1]⟩ 1 none) (List.mem_of_getElem? (i := 3) (by decide +kernel))) rfl (by rw [hml]; exact hl.1) rfl dJ0_init_db425_1 (Nat.le_of_ble_eq_true rfl) (Nat.le_of_ble_eq_true rfl) ?_
  refine W.eq (g2 := F0 m 4 ls []) rfl ?_
  refine lv_aload_n hx hb dJ0_init_db425_4 rfl (lv_at hl 1 rfl) ?_
  refine zCr (r := va) (va_runU (As := []) (rest := []) ⟨hx, hb, hml, hown, hts⟩ (c_J5_getValue l G s.heap.size sb va 26) (va_cwU 0 hts gJ0_init_db425_J5_getValue_6d5f1_u552J4 rfl rfl rfl rfl (by decide +kernel) ⟨(Nat.le_of_ble_eq_true rfl), (Nat.le_of_ble_eq_true rfl)⟩) (zPreV hE hS hA hP hD hK (z_pick (n := 3) [1] [0, 2] rfl (by decide) rfl rfl) (va_recv hK hP (ci := 1) (q0 := 1) rfl rfl)) rfl rfl hl.1 rfl (lv_room (Nat.le_of_ble_eq_true rfl)) dJ0_init_db425_5 ⟨(Nat.le_of_ble_eq_true rfl), (Nat.le_of_ble_eq_true rfl)⟩).run ?_
  refine lv_astore_n (lv' := [(3, .ref va), (0, .ref so), (1, .ref sb), (2, .null)]) hx hb dJ0_init_db425_8 rfl hl (by decide) rfl (fun ls hl => ?_)
  refine lv_aload_n hx hb dJ0_init_db425_9 rfl (lv_at hl 2 rfl) ?_
  refine zCi (r := nI 26) (va_runU (As := []) (rest := []) ⟨hx, hb, hml, hown, hts⟩ (c_J4_length l G s.heap.size sb va 26) (va_cwO 0 hts gJ0_init_db425_J4_length_8abf5_u549J4 rfl rfl rfl (show Cond.code yJ5_length_8abf5 cJ5_length_8abf5 1 (some .int) ∈ wsJ0_init_db425 from (List.mem_of_getElem? (i := 25) (by decide +kernel))) (by decide +kernel) ⟨(Nat.le_of_ble_eq_true rfl), (Nat.le_of_ble_eq_true rfl)⟩) (zPreV hE hS hA hP hD hK (z_pick (n := 3) [1] [0, 2] rfl (by decide) rfl rfl) (va_recv hK hP (ci := 1) (q0 := 1) rfl rfl)) rfl rfl hl.1 rfl (lv_room (Nat.le_of_ble_eq_true rfl)) dJ0_init_db425_10 ⟨(Nat.le_of_ble_eq_true rfl), (Nat.le_of_ble_eq_true rfl)⟩).run ?_
  refine zTop (v := 26) (by decide) ?_
  refine lv_istore (lv' := [(4, .int 26), (3, .ref va), (0, .ref so), (1, .ref sb), (2, .null)]) hx hb dJ0_init_db425_13 hl (by decide) rfl (fun ls hl => ?_)
  refine lv_aload_n hx hb dJ0_init_db425_15 rfl (lv_at hl 3 rfl) ?_
  refine zCi (r := 1) (va_runU (As := []) (rest := []) ⟨hx, hb, hml, hown, hts⟩ (c_J5_isLatin1 l G s.heap.size sb va 26) (va_cwU 0 hts gJ0_init_db425_J5_isLatin1_aae02_u1047J4 rfl rfl rfl rfl (by decide +kernel) ⟨(Nat.le_of_ble_eq_true rfl), (Nat.le_of_ble_eq_true rfl)⟩) (zPreV hE hS hA hP hD hK (z_pick (n := 3) [1] [0, 2] rfl (by decide) rfl rfl) (va_recv hK hP (ci := 1) (q0 := 1) rfl rfl)) rfl rfl hl.1 rfl (lv_room (Nat.le_of_ble_eq_true rfl)) dJ0_init_db425_16 ⟨(Nat.le_of_ble_eq_true rfl), (Nat.le_of_ble_eq_true rfl)⟩).run ?_
  refine lv_if_eq (tgt := 41) hx hb dJ0_init_db425_19 (by decide) (fun c_1 => absurd c_1 (by decide)) (fun c_1 => ?_)
  refine lv_aload_n hx hb dJ0_init_db425_22 rfl (lv_at hl 2 rfl) ?_
  refine lv_iconst (v := 0) hx hb dJ0_init_db425_23 (by decide) ?_
  refine va_putF (D := G.1) (ci := 0) (v := .int 0) (ty := .byte) (C := RJ0) (T := TJ0) (N := 4) hx hb hts wsi_J0_init_db425_J0 tyJ0 tyJ0_ok nmJ0 hown hK hP hD hS 0 rfl rfl 1 (by decide) (hts (.fieldLink "java/lang/String" 15 "java/lang/String" "coder" "B") (List.mem_of_getElem? (i := 4) (by decide +kernel))) (fun _ h9 => h9) rfl hin rfl (by decide +kernel) rfl rfl (Nat.le_of_ble_eq_true rfl) dJ0_init_db425_24 (fun H locs hP hD hS => ?_)
  have hP : zP G [(so, .inr (0, [.null, .int 0, .int 0, .int 0])), (sb, .inr (1, [.ref va, .int 0, .int 0, .int (nI 26)])), (va, .inl (G.2.1 1, 34, .inl vf))] H := hP
  have hD : va_D A [(so, .inr (0, [.null, .int 0, .int 0, .int 0])), (sb, .inr (1, [.ref va, .int 0, .int 0, .int (nI 26)])), (va, .inl (G.2.1 1, 34, .inl vf))] := hD
  refine lv_aload_n hx hb dJ0_init_db425_27 rfl (lv_at hl 2 rfl) ?_
  refine lv_aload_n hx hb dJ0_init_db425_28 rfl (lv_at hl 1 rfl) ?_
  refine lv_iconst (v := 0) hx hb dJ0_init_db425_29 (by decide) ?_
  refine lv_iload hx hb dJ0_init_db425_30 (lv_at hl 0 rfl) ?_
  refine zDr (wr := [(so, .inr (0, [.null, .int 0, .int 0, .int 0])), (sb, .inr (1, [.ref va, .int 0, .int 0, .int (nI 26)]))]) (va_runS (As := [.ref va, .int 0, .int 26]) (rest := [.ref so]) ⟨hx, hb, hml, hown, hts⟩ (c_J7_range_26 l G H.size va vf hfv) (va_cwS 3 hts gJ0_init_db425_J7_copyOfRange_39247 rfl rfl rfl (by decide +kernel) ⟨(Nat.le_of_ble_eq_true rfl), (Nat.le_of_ble_eq_true rfl)⟩) (zPreS hE hS hA hP hD hK (z_pick (n := 3) [2] [0, 1] rfl (by decide) rfl rfl)) rfl rfl hl.1 rfl (lv_room (Nat.le_of_ble_eq_true rfl)) dJ0_init_db425_32 ⟨(Nat.le_of_ble_eq_true rfl), (Nat.le_of_ble_eq_true rfl)⟩) hP hD hS hA (z_pick (n := 3) [2] [0, 1] rfl (by decide) rfl rfl) (fun u_2 H locs hp_3 hP hD hS => ?_)
  obtain ⟨nv_0, rfl⟩ : ∃ z, z = u_2 := ⟨_, rfl⟩
  have hP : zP G [(va, .inl (G.2.1 1, 34, .inl vf)), (nv_0, .inl (G.2.1 1, 26, .inl (va_cpy vf (fun _ => 0) 0 0 26))), (so, .inr (0, [.null, .int 0, .int 0, .int 0])), (sb, .inr (1, [.ref va, .int 0, .int 0, .int (nI 26)]))] H := hP
  have hD : va_D A [(va, .inl (G.2.1 1, 34, .inl vf)), (nv_0, .inl (G.2.1 1, 26, .inl (va_cpy vf (fun _ => 0) 0 0 26))), (so, .inr (0, [.null, .int 0, .int 0, .int 0])), (sb, .inr (1, [.ref va, .int 0, .int 0, .int (nI 26)]))] := hD
  refine va_putF (D := G.1) (ci := 0) (v := .ref nv_0) (ty := .array .byte) (C := RJ0) (T := TJ0) (N := 4) hx hb hts wsi_J0_init_db425_J0 tyJ0 tyJ0_ok nmJ0 hown hK hP hD hS 2 rfl rfl 0 (by decide) (hts (.fieldLink "java/lang/String" 9 "java/lang/String" "value" "[B") (List.mem_of_getElem? (i := 5) (by decide +kernel))) (fun _ h9 => h9) rfl hin rfl (by decide +kernel) rfl rfl (Nat.le_of_ble_eq_true rfl) dJ0_init_db425_35 (fun H locs hP hD hS => ?_)
  have hP : zP G [(va, .inl (G.2.1 1, 34, .inl vf)), (nv_0, .inl (G.2.1 1, 26, .inl (va_cpy vf (fun _ => 0) 0 0 26))), (so, .inr (0, [.ref nv_0, .int 0, .int 0, .int 0])), (sb, .inr (1, [.ref va, .int 0, .int 0, .int (nI 26)]))] H := hP
  have hD : va_D A [(va, .inl (G.2.1 1, 34, .inl vf)), (nv_0, .inl (G.2.1 1, 26, .inl (va_cpy vf (fun _ => 0) 0 0 26))), (so, .inr (0, [.ref nv_0, .int 0, .int 0, .int 0])), (sb, .inr (1, [.ref va, .int 0, .int 0, .int (nI 26)]))] := hD
  refine lv_goto (tgt := 97) hx hb dJ0_init_db425_38 (by decide) ?_
  exact zWv (nv_0) hx hb hr hlocks trivial hP hD hK hS (z_pick (n := 4) [2, 1] [0, 3] rfl (by decide) rfl rfl) (Nat.le_of_ble_eq_true rfl) (Nat.le_of_ble_eq_true rfl) dJ0_init_db425_97

set_option maxHeartbeats 4000000 in
set_option maxRecDepth 100000 in
/-- String(StringBuilder) -/
theorem c_J0_initB_26 (l : Launch) (G : zG) (sz : Nat) (so : Nat) (sb : Nat) (va : Nat) (vf : Nat → Int32) (hfv : zFit vf) : Met l yJ0_init_81219 wsJ0_init_81219 { frames := 4, cells := 1, slots := 26, locals := 96 } (zPc G [.ref so, .ref sb] [(so, .inr (0, [.null, .int 0, .int 0, .int 0])), (sb, .inr (1, [.ref va, .int 0, .int 0, .int (nI 26)])), (va, .inl (G.2.1 1, 34, .inl vf))] sz) (zQv G (fun (u : Nat) => True) (fun u => [(so, .inr (0, [.ref u, .int 0, .int 0, .int 0])), (u, .inl (G.2.1 1, 26, .inl (va_cpy vf (fun _ => 0) 0 0 26)))]) (va_A [(so, .inr (0, [.null, .int 0, .int 0, .int 0])), (sb, .inr (1, [.ref va, .int 0, .int 0, .int (nI 26)])), (va, .inl (G.2.1 1, 34, .inl vf))] sz)) 1 26 (va_A [(so, .inr (0, [.null, .int 0, .int 0, .int 0])), (sb, .inr (1, [.ref va, .int 0, .int 0, .int (nI 26)])), (va, .inl (G.2.1 1, 34, .inl vf))] sz) := by
  refine zOfW (Qc := fun A => zQv G (fun (u : Nat) => True) (fun u => [(so, .inr (0, [.ref u, .int 0, .int 0, .int 0])), (u, .inl (G.2.1 1, 26, .inl (va_cpy vf (fun _ => 0) 0 0 26)))]) A) (fr := fun A => A) (cc := cJ0_init_81219) (maxL := 2) (ret := none) (by decide) rfl (Nat.le_of_ble_eq_true rfl) ?_
  intro p e s m below meth c hx hb hml hr hlocks hown hin hts A hP hK hD hE hA hS ls hl
  have hl : lv_has ls 2 [(0, .ref so), (1, .ref sb)] := hl
  have hown : s.vm.findClass RJ0 = some m.cls := hown
  have hin : meth.name = "<init>" := hin
  have hP : zP G [(so, .inr (0, [.null, .int 0, .int 0, .int 0])), (sb, .inr (1, [.ref va, .int 0, .int 0, .int (nI 26)])), (va, .inl (G.2.1 1, 34, .inl vf))] s.heap := hP
  have hD : va_D A [(so, .inr (0, [.null, .int 0, .int 0, .int 0])), (sb, .inr (1, [.ref va, .int 0, .int 0, .int (nI 26)])), (va, .inl (G.2.1 1, 34, .inl vf))] := hD
  refine lv_aload_n hx hb dJ0_init_81219_0 rfl (lv_at hl 0 rfl) ?_
  refine lv_aload_n hx hb dJ0_init_81219_1 rfl (lv_at hl 1 rfl) ?_
  refine lv_null hx hb dJ0_init_81219_2 ?_
  refine zDv (wr := []) (va_runI (As := [.ref sb, .null]) (rest := []) ⟨hx, hb, hml, hown, hts⟩ (c_J0_initA_26 l G s.heap.size so sb va vf hfv) (cwI 2 hts gJ0_init_81219_J0_init_db425 rfl rfl rfl (hts (.initialized RJ0) (List.mem_of_getElem? (i := 3) (by decide +kernel))) (hts (.methodLink "java/lang/String" 489 ⟨"java/lang/String","<init>","(Ljava/lang/AbstractStringBuilder;Ljava/lang/Void;)V"⟩) (List.mem_of_getElem? (i := 1) (by decide +kernel))) (hts (.instanceMethod yJ0_init_db425) (List.mem_of_getElem? (i := 2) (by decide +kernel))) rfl (by decide +kernel) ⟨(Nat.le_of_ble_eq_true rfl), (Nat.le_of_ble_eq_true rfl)⟩) (zPreS (As := [.ref so, .ref sb, .null]) hE hS hA hP hD hK (z_pick (n := 3) [0, 1, 2] [] rfl (by decide) rfl rfl)) rfl rfl hl.1 rfl (lv_room (Nat.le_of_ble_eq_true rfl)) dJ0_init_81219_3 ⟨(Nat.le_of_ble_eq_true rfl), (Nat.le_of_ble_eq_true rfl)⟩) hP hD hS hA (z_pick (n := 3) [0, 1, 2] [] rfl (by decide) rfl rfl) (fun u_1 H locs hp_2 hP hD hS => ?_)
  obtain ⟨nv_0, rfl⟩ : ∃ z, z = u_1 := ⟨_, rfl⟩
  have hP : zP G [(so, .inr (0, [.ref nv_0, .int 0, .int 0, .int 0])), (nv_0, .inl (G.2.1 1, 26, .inl (va_cpy vf (fun _ => 0) 0 0 26)))] H := hP
  have hD : va_D A [(so, .inr (0, [.ref nv_0, .int 0, .int 0, .int 0])), (nv_0, .inl (G.2.1 1, 26, .inl (va_cpy vf (fun _ => 0) 0 0 26)))] := hD
  exact zWv (nv_0) hx hb hr hlocks trivial hP hD hK hS (z_pick (n := 2) [0, 1] [] rfl (by decide) rfl rfl) (Nat.le_of_ble_eq_true rfl) (Nat.le_of_ble_eq_true rfl) dJ0_init_81219_6

set_option maxHeartbeats 4000000 in
set_option maxRecDepth 100000 in
/-- toString -/
theorem c_J4_toString_26 (l : Launch) (G : zG) (sz : Nat) (sb : Nat) (va : Nat) (vf : Nat → Int32) (hfv : zFit vf) : Met l yJ4_toString_0e30d wsJ4_toString_0e30d { frames := 5, cells := 2, slots := 30, locals := 117 } (zPc G [.ref sb] [(sb, .inr (1, [.ref va, .int 0, .int 0, .int (nI 26)])), (va, .inl (G.2.1 1, 34, .inl vf))] sz) (zQr G (fun (u : Nat × Nat) => True) (fun u => [(u.1, .inr (0, [.ref u.2, .int 0, .int 0, .int 0])), (u.2, .inl (G.2.1 1, 26, .inl (va_cpy vf (fun _ => 0) 0 0 26)))]) (fun u => u.1) (va_A [(sb, .inr (1, [.ref va, .int 0, .int 0, .int (nI 26)])), (va, .inl (G.2.1 1, 34, .inl vf))] sz)) 2 30 (va_A [(sb, .inr (1, [.ref va, .int 0, .int 0, .int (nI 26)])), (va, .inl (G.2.1 1, 34, .inl vf))] sz) := by
  refine zOfW (Qc := fun A => zQr G (fun (u : Nat × Nat) => True) (fun u => [(u.1, .inr (0, [.ref u.2, .int 0, .int 0, .int 0])), (u.2, .inl (G.2.1 1, 26, .inl (va_cpy vf (fun _ => 0) 0 0 26)))]) (fun u => u.1) A) (fr := fun A => A) (cc := cJ4_toString_0e30d) (maxL := 1) (ret := (some (.object "java/lang/String"))) (by decide) rfl (Nat.le_of_ble_eq_true rfl) ?_
  intro p e s m below meth c hx hb hml hr hlocks hown hin hts A hP hK hD hE hA hS ls hl
  have hl : lv_has ls 1 [(0, .ref sb)] := hl
  have hown : s.vm.findClass RJ4 = some m.cls := hown
  have hP : zP G [(sb, .inr (1, [.ref va, .int 0, .int 0, .int (nI 26)])), (va, .inl (G.2.1 1, 34, .inl vf))] s.heap := hP
  have hD : va_D A [(sb, .inr (1, [.ref va, .int 0, .int 0, .int (nI 26)])), (va, .inl (G.2.1 1, 34, .inl vf))] := hD
  refine va_new (D := G.1) (ci := 0) (fs := [.null, .int 0, .int 0, .int 0]) (C := RJ0) (T := TJ0) (N := 4) hx hb hts wsi_J4_toString_0e30d_J0 tyJ0 tyJ0_ok hown (hts (.classLink "java/lang/StringBuilder" 18 "java/lang/String") (List.mem_of_getElem? (i := 1) (by decide +kernel))) (hts (.instantiable RJ0 4) (List.mem_of_getElem? (i := 2) (by decide +kernel))) (hts (.initialized RJ0) (List.mem_of_getElem? (i := 3) (by decide +kernel))) hK hP hD hS hA rfl (fun j hj => by rcases (show j = 0 ∨ j = 1 ∨ j = 2 ∨ j = 3 by omega) with rfl | rfl | rfl | rfl <;> rfl) (Nat.le_of_ble_eq_true rfl) (Nat.le_of_ble_eq_true rfl) dJ4_toString_0e30d_0 (fun q_1 H hP hD hS => ?_)
  have hP : zP G [(sb, .inr (1, [.ref va, .int 0, .int 0, .int (nI 26)])), (va, .inl (G.2.1 1, 34, .inl vf)), (q_1, .inr (0, [.null, .int 0, .int 0, .int 0]))] H := hP
  have hD : va_D A [(sb, .inr (1, [.ref va, .int 0, .int 0, .int (nI 26)])), (va, .inl (G.2.1 1, 34, .inl vf)), (q_1, .inr (0, [.null, .int 0, .int 0, .int 0]))] := hD
  refine lv_dup hx hb dJ4_toString_0e30d_3 rfl ?_
  refine lv_aload_n hx hb dJ4_toString_0e30d_4 rfl (lv_at hl 0 rfl) ?_
  refine zDv (wr := []) (va_runI (As := [.ref sb]) (rest := [.ref q_1]) ⟨hx, hb, hml, hown, hts⟩ (c_J0_initB_26 l G H.size q_1 sb va vf hfv) (cwI 1 hts gJ4_toString_0e30d_J0_init_81219 rfl rfl rfl (hts (.initialized RJ0) (List.mem_of_getElem? (i := 3) (by decide +kernel))) (hts (.methodLink "java/lang/StringBuilder" 137 ⟨"java/lang/String","<init>","(Ljava/lang/StringBuilder;)V"⟩) (List.mem_of_getElem? (i := 4) (by decide +kernel))) (hts (.instanceMethod yJ0_init_81219) (List.mem_of_getElem? (i := 5) (by decide +kernel))) rfl (by decide +kernel) ⟨(Nat.le_of_ble_eq_true rfl), (Nat.le_of_ble_eq_true rfl)⟩) (zPreS (As := [.ref q_1, .ref sb]) hE hS hA hP hD hK (z_pick (n := 3) [2, 0, 1] [] rfl (by decide) rfl rfl)) rfl rfl hl.1 rfl (lv_room (Nat.le_of_ble_eq_true rfl)) dJ4_toString_0e30d_5 ⟨(Nat.le_of_ble_eq_true rfl), (Nat.le_of_ble_eq_true rfl)⟩) hP hD hS hA (z_pick (n := 3) [2, 0, 1] [] rfl (by decide) rfl rfl) (fun u_2 H locs hp_3 hP hD hS => ?_)
  obtain ⟨nv_0, rfl⟩ : ∃ z, z = u_2 := ⟨_, rfl⟩
  have hP : zP G [(q_1, .inr (0, [.ref nv_0, .int 0, .int 0, .int 0])), (nv_0, .inl (G.2.1 1, 26, .inl (va_cpy vf (fun _ => 0) 0 0 26)))] H := hP
  have hD : va_D A [(q_1, .inr (0, [.ref nv_0, .int 0, .int 0, .int 0])), (nv_0, .inl (G.2.1 1, 26, .inl (va_cpy vf (fun _ => 0) 0 0 26)))] := hD
  exact zWr (q_1, nv_0) hx hb hr hlocks (Or.inl ⟨_, rfl⟩) trivial hP hD hK hS (z_pick (n := 2) [0, 1] [] rfl (by decide) rfl rfl) (Nat.le_of_ble_eq_true rfl) (Nat.le_of_ble_eq_true rfl) dJ4_toString_0e30d_8
