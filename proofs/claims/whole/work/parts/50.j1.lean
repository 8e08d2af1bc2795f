theorem z_shr0 (x : Int32) : x >>> ((0 : Int32) &&& 31) = x := by
  rw [show ((0 : Int32) &&& 31) = 0 by decide]
  exact Int32.shiftRight_zero
theorem z_shl0 (x : Int32) : x <<< ((0 : Int32) &&& 31) = x := by
  rw [show ((0 : Int32) &&& 31) = 0 by decide]
  exact Int32.shiftLeft_zero
/-- the bytes of a text constant -/
def zL (i j : Nat) : Int32 := (zsb.getD i []).getD j 0
theorem z_gq {C n d : String} {A : Nat → Prop} {U : State} {H : Heap} (h : va_Zq C n d A U H) : ∃ fq : Option Nat, va_Z C n d (va_rf fq) A U H := by
  rcases h with h | ⟨t, h⟩
  · exact ⟨none, h⟩
  · exact ⟨some t, h⟩
theorem zL_fit (i j : Nat) : fits .byte (.int (zL i j)) = true := by
  unfold zL
  have key : ∀ l ∈ zsb, ∀ x ∈ l, fits .byte (.int x) = true := by decide
  rw [List.getD_eq_getElem?_getD, List.getD_eq_getElem?_getD]
  cases h : (zsb[i]?.getD [])[j]? with
  | none => rfl
  | some x =>
    cases h2 : zsb[i]? with
    | none => rw [h2] at h; simp at h
    | some l2 =>
      rw [h2] at h
      exact key l2 (List.mem_of_getElem? h2) x (List.mem_of_getElem? h)
/-- rows of bytes that fit -/
def zFit (f : Nat → Int32) : Prop := ∀ j, fits .byte (.int (f j)) = true
theorem zFit.zero : zFit (fun _ => 0) := fun _ => rfl
theorem zFit.cpy {f g : Nat → Int32} {a b n : Nat} (hf : zFit f) (hg : zFit g) : zFit (va_cpy f g a b n) := by
  intro j
  unfold va_cpy
  split
  · exact hf _
  · exact hg _
theorem zFit.put {f : Nat → Int32} {k : Nat} {x : Int32} (hf : zFit f) (hx : fits .byte (.int x) = true) : zFit (upd f k x) := by
  intro j
  by_cases h : j = k
  · subst h
    rw [pk_us]
    exact hx
  · rw [pk_un h]
    exact hf _
section ZC
variable {p : Program} {l : Launch} {e : Env} {R : Room} {s : State} {m : MethodId} {args : Array Value} {below : List Frame} {meth : Method} {c : Code} {H : Heap} {locs : List Loc} {cells slots : Nat} {Q : State → Prop}
variable {cc : ByteArray} {pc a : Nat} {ls : Array Slot} {rest : List Value} {G : zG} {A : Nat → Prop} {ws : va_W}
theorem zCopyB (hx : p.tables.exec = Jvm.exec) (hb : c.code = cc) (hml : c.maxLocals = ls.size) {own : String} {index : Nat} (hown : s.vm.findClass own = some m.cls) (hlink : (Cond.methodLink own index arraycopyName).before args s = true) (hnat : (Cond.native arraycopyName).before args s = true) (hstat : (Cond.static arraycopyName).before args s = true) (hini : (Cond.initialized "java/lang/System").before args s = true)
    (hK : zK G s) (hP : zP G ws H) (hD : va_D A ws) (hS : va_S A s.heap H locs) (q0 q1 : Nat) {src n0 n1 : Nat} {f g : Nat → Int32} (ha0 : ws[q0]? = some (src, .inl (G.2.1 1, n0, .inl f))) (ha1 : ws[q1]? = some (a, .inl (G.2.1 1, n1, .inl g)))
    {a0 b0 k0 : Nat} {sp dp n : Int32} (e1 : sp = nI a0) (e2 : dp = nI b0) (e3 : n = nI k0) (h4 : a0 + k0 ≤ n0 ∧ n0 < 2 ^ 31) (h5 : b0 + k0 ≤ n1 ∧ n1 < 2 ^ 31) (hfit : ∀ i, i < k0 → fits .byte (.int (f (a0 + i))) = true)
    (hframes : 1 ≤ R.frames) (hlocals : (rest.map fun v => v.category).sum + (nativeFrameWords "java/lang/System" "arraycopy" 5 + 11) ≤ R.locals) (hdg : decode cc pc = .ok (.invokestatic index, 3))
    (kk : ∀ (H1 : Heap) (locs1 : List Loc), zP G (ws.set q1 (a, .inl (G.2.1 1, n1, .inl (va_cpy f g a0 b0 k0)))) H1 → va_D A (ws.set q1 (a, .inl (G.2.1 1, n1, .inl (va_cpy f g a0 b0 k0)))) → va_S A s.heap H1 locs1 → W p l e R s m args below meth c H1 locs1 cells slots Q (F0 m (pc + 3) ls rest)) : W p l e R s m args below meth c H locs cells slots Q (F0 m pc ls (.int n :: .int dp :: .ref a :: .int sp :: .ref src :: rest)) := by
  subst e1
  subst e2
  subst e3
  have c1 : (nI a0).toNatClampNeg = a0 := nI_clamp (by omega)
  have c2 : (nI b0).toNatClampNeg = b0 := nI_clamp (by omega)
  have c3 : (nI k0).toNatClampNeg = k0 := nI_clamp (by omega)
  refine va_copyi hx hb hml hown hlink hnat hstat hini hK hP hD hS q0 q1 1 1 (ty := .byte) ha0 ha1 rfl rfl rfl (nI_pos (by omega)) (nI_pos (by omega)) (nI_pos (by omega)) (by rw [c1, c3]; exact h4.1) (by rw [c2, c3]; exact h5.1) (by rw [c1, c3]; exact hfit) hframes hlocals hdg ?_
  rw [c1, c2, c3]
  exact kk
theorem zCopyT (hx : p.tables.exec = Jvm.exec) (hb : c.code = cc) (hml : c.maxLocals = ls.size) {own : String} {index : Nat} (hown : s.vm.findClass own = some m.cls) (hlink : (Cond.methodLink own index arraycopyName).before args s = true) (hnat : (Cond.native arraycopyName).before args s = true) (hstat : (Cond.static arraycopyName).before args s = true) (hini : (Cond.initialized "java/lang/System").before args s = true)
    (hK : zK G s) (hP : zP G ws H) (hD : va_D A ws) (hS : va_S A s.heap H locs) {src n0 : Nat} {f : Nat → Int32} (hX : va_T .byte src n0 (fun j => .int (f j)) A s s.heap) (q1 : Nat) {n1 : Nat} {g : Nat → Int32} (ha1 : ws[q1]? = some (a, .inl (G.2.1 1, n1, .inl g)))
    {a0 b0 k0 : Nat} {sp dp n : Int32} (e1 : sp = nI a0) (e2 : dp = nI b0) (e3 : n = nI k0) (h4 : a0 + k0 ≤ n0 ∧ n0 < 2 ^ 31) (h5 : b0 + k0 ≤ n1 ∧ n1 < 2 ^ 31) (hfit : ∀ i, i < k0 → fits .byte (.int (f (a0 + i))) = true)
    (hframes : 1 ≤ R.frames) (hlocals : (rest.map fun v => v.category).sum + (nativeFrameWords "java/lang/System" "arraycopy" 5 + 11) ≤ R.locals) (hdg : decode cc pc = .ok (.invokestatic index, 3))
    (kk : ∀ (H1 : Heap) (locs1 : List Loc), zP G (ws.set q1 (a, .inl (G.2.1 1, n1, .inl (va_cpy f g a0 b0 k0)))) H1 → va_D A (ws.set q1 (a, .inl (G.2.1 1, n1, .inl (va_cpy f g a0 b0 k0)))) → va_S A s.heap H1 locs1 → W p l e R s m args below meth c H1 locs1 cells slots Q (F0 m (pc + 3) ls rest)) : W p l e R s m args below meth c H locs cells slots Q (F0 m pc ls (.int n :: .int dp :: .ref a :: .int sp :: .ref src :: rest)) := by
  subst e1
  subst e2
  subst e3
  have c1 : (nI a0).toNatClampNeg = a0 := nI_clamp (by omega)
  have c2 : (nI b0).toNatClampNeg = b0 := nI_clamp (by omega)
  have c3 : (nI k0).toNatClampNeg = k0 := nI_clamp (by omega)
  refine vk_copyt hx hb hml hown hlink hnat hstat hini hK hP hD hS hX q1 1 ha1 rfl (nI_pos (by omega)) (nI_pos (by omega)) (nI_pos (by omega)) (by rw [c1, c3]; exact h4.1) (by rw [c2, c3]; exact h5.1) (by rw [c1, c3]; exact hfit) hframes hlocals hdg ?_
  rw [c1, c2, c3]
  exact kk
end ZC

set_option maxHeartbeats 4000000 in
set_option maxRecDepth 100000 in
/-- String.coder() of a constant -/
theorem c_J0_coder_L (l : Launch) (G : zG) (sz : Nat) (li : Nat) (hll : li < 4) : Met l yJ0_coder_7d493 wsJ0_coder_7d493 { frames := 0, cells := 0, slots := 0, locals := 0 } (zPc G [.ref (G.2.2 (10 + li))] [] sz) (vp_Si (fun z => z = 0)) 0 0 (fun _ => False) := by
  refine zOfW (Qc := fun _ => vp_Si (fun z => z = 0)) (fr := fun _ _ => False) (cc := cJ0_coder_7d493) (maxL := 1) (ret := (some .byte)) (by decide) rfl (Nat.le_of_ble_eq_true rfl) ?_
  intro p e s m below meth c hx hb hml hr hlocks hown hin hts A hP hK hD hE hA hS ls hl
  have hl : lv_has ls 1 [(0, .ref (G.2.2 (10 + li)))] := hl
  have hown : s.vm.findClass RJ0 = some m.cls := hown
  refine va_gets (v := .int 1) hx hb hE.2.2.2.2.2.2.2.2.1 hS hown (hts (.fieldLink "java/lang/String" 38 "java/lang/String" "COMPACT_STRINGS" "Z") (List.mem_of_getElem? (i := 1) (by decide +kernel))) (fun _ h9 => h9) dJ0_coder_7d493_0 ?_
  refine lv_if_eq (tgt := 13) hx hb dJ0_coder_7d493_3 (by decide) (fun c_1 => absurd c_1 (by decide)) (fun c_1 => ?_)
  refine lv_aload_n hx hb dJ0_coder_7d493_6 rfl (lv_at hl 0 rfl) ?_
  refine vk_getf (v := .int 0) hx hb (hE.2.2.2.2.2.2.2.2.2.2.2.2.1.1 li hll).2.1 hS hown (hts (.fieldLink "java/lang/String" 15 "java/lang/String" "coder" "B") (List.mem_of_getElem? (i := 2) (by decide +kernel))) (fun _ h9 => h9) dJ0_coder_7d493_7 ?_
  refine lv_goto (tgt := 14) hx hb dJ0_coder_7d493_10 (by decide) ?_
  exact zRi hx hb hr hlocks rfl rfl rfl rfl (Nat.le_of_ble_eq_true rfl) (Nat.le_of_ble_eq_true rfl) dJ0_coder_7d493_14

set_option maxHeartbeats 4000000 in
set_option maxRecDepth 100000 in
/-- String.length() of a constant -/
theorem c_J0_length_L (l : Launch) (G : zG) (sz : Nat) (li : Nat) (hll : li < 4) (ln : Nat) (hln : zsl.getD li 0 = ln) : Met l yJ0_length_8abf5 wsJ0_length_8abf5 { frames := 1, cells := 0, slots := 0, locals := 20 } (zPc G [.ref (G.2.2 (10 + li))] [] sz) (vp_Si (fun z => z = nI ln)) 0 0 (fun _ => False) := by
  refine zOfW (Qc := fun _ => vp_Si (fun z => z = nI ln)) (fr := fun _ _ => False) (cc := cJ0_length_8abf5) (maxL := 1) (ret := (some .int)) (by decide) rfl (Nat.le_of_ble_eq_true rfl) ?_
  intro p e s m below meth c hx hb hml hr hlocks hown hin hts A hP hK hD hE hA hS ls hl
  have hl : lv_has ls 1 [(0, .ref (G.2.2 (10 + li)))] := hl
  have hown : s.vm.findClass RJ0 = some m.cls := hown
  refine lv_aload_n hx hb dJ0_length_8abf5_0 rfl (lv_at hl 0 rfl) ?_
  refine vk_getf (v := .ref (G.2.2 (20 + li))) hx hb (hE.2.2.2.2.2.2.2.2.2.2.2.2.1.1 li hll).2.2.1 hS hown (hts (.fieldLink "java/lang/String" 9 "java/lang/String" "value" "[B") (List.mem_of_getElem? (i := 1) (by decide +kernel))) (fun _ h9 => h9) dJ0_length_8abf5_1 ?_
  refine va_tlen (v := nI ln) hx hb (hE.2.2.2.2.2.2.2.2.2.2.2.2.1.1 li hll).2.2.2 hS (by rw [hln]; rfl) dJ0_length_8abf5_4 ?_
  refine lv_aload_n hx hb dJ0_length_8abf5_5 rfl (lv_at hl 0 rfl) ?_
  refine zCi (r := 0) (va_runV (As := []) (rest := [.int (nI ln)]) ⟨hx, hb, hml, hown, hts⟩ (c_J0_coder_L l G s.heap.size li hll) (cwV 0 hts gJ0_length_8abf5_J0_coder_7d493 rfl rfl rfl (by decide +kernel) ⟨(Nat.le_of_ble_eq_true rfl), (Nat.le_of_ble_eq_true rfl)⟩) (zPreV hE hS hA hP hD hK (z_pick (n := 0) [] [] rfl (by decide) rfl rfl) (vk_recv hE.2.2.2.2.2.2.2.2.2.2.2.2.1 (i := li) hll hS)) rfl rfl hl.1 rfl (lv_room (Nat.le_of_ble_eq_true rfl)) dJ0_length_8abf5_6 ⟨(Nat.le_of_ble_eq_true rfl), (Nat.le_of_ble_eq_true rfl)⟩).run ?_
  refine lv_ishr hx hb dJ0_length_8abf5_9 ?_
  refine zTop (v := nI ln) (z_shr0 _) ?_
  exact zRi hx hb hr hlocks rfl rfl rfl rfl (Nat.le_of_ble_eq_true rfl) (Nat.le_of_ble_eq_true rfl) dJ0_length_8abf5_10

theorem wsi_J5_inflateIfNeededFor_a7421_J4 : ∀ w ∈ wsJ40, w ∈ wsJ5_inflateIfNeededFor_a7421 := fun w h => List.mem_cons_of_mem _ (List.mem_append_left _ (List.mem_append_right _ h))
set_option maxHeartbeats 4000000 in
set_option maxRecDepth 100000 in
/-- inflateIfNeededFor a constant -/
theorem c_J5_inflate_L (l : Launch) (G : zG) (sz : Nat) (sb : Nat) (va : Nat) (cn : Nat) (li : Nat) (hll : li < 4) : Met l yJ5_inflateIfNeededFor_a7421 wsJ5_inflateIfNeededFor_a7421 { frames := 1, cells := 0, slots := 0, locals := 20 } (zPc G [.ref sb, .ref (G.2.2 (10 + li))] [(sb, .inr (1, [.ref va, .int 0, .int 0, .int (nI cn)]))] sz) (va_Sv (fun _ => True)) 0 0 (fun _ => False) := by
  refine zOfW (Qc := fun _ => va_Sv (fun _ => True)) (fr := fun _ _ => False) (cc := cJ5_inflateIfNeededFor_a7421) (maxL := 2) (ret := none) (by decide) rfl (Nat.le_of_ble_eq_true rfl) ?_
  intro p e s m below meth c hx hb hml hr hlocks hown hin hts A hP hK hD hE hA hS ls hl
  have hl : lv_has ls 2 [(0, .ref sb), (1, .ref (G.2.2 (10 + li)))] := hl
  have hown : s.vm.findClass RJ5 = some m.cls := hown
  have hP : zP G [(sb, .inr (1, [.ref va, .int 0, .int 0, .int (nI cn)]))] s.heap := hP
  have hD : va_D A [(sb, .inr (1, [.ref va, .int 0, .int 0, .int (nI cn)]))] := hD
  refine va_gets (v := .int 1) hx hb hE.2.2.2.2.2.2.2.2.1 hS hown (hts (.fieldLink "java/lang/AbstractStringBuilder" 18 "java/lang/String" "COMPACT_STRINGS" "Z") (List.mem_of_getElem? (i := 1) (by decide +kernel))) (fun _ h9 => h9) dJ5_inflateIfNeededFor_a7421_0 ?_
  refine lv_if_eq (tgt := 21) hx hb dJ5_inflateIfNeededFor_a7421_3 (by decide) (fun c_1 => absurd c_1 (by decide)) (fun c_1 => ?_)
  refine lv_aload_n hx hb dJ5_inflateIfNeededFor_a7421_6 rfl (lv_at hl 0 rfl) ?_
  refine va_get (D := G.1) (ci := 1) (v := .int 0) (C := RJ4) (T := TJ4) (N := 4) hx hb hts wsi_J5_inflateIfNeededFor_a7421_J4 hown hK hP 0 rfl rfl 1 (by decide) (hts (.fieldLink "java/lang/AbstractStringBuilder" 22 "java/lang/AbstractStringBuilder" "coder" "B") (List.mem_of_getElem? (i := 2) (by decide +kernel))) (fun _ h9 => h9) rfl dJ5_inflateIfNeededFor_a7421_7 ?_
  refine lv_aload_n hx hb dJ5_inflateIfNeededFor_a7421_10 rfl (lv_at hl 1 rfl) ?_
  refine zCi (r := 0) (va_runV (As := []) (rest := [.int 0]) ⟨hx, hb, hml, hown, hts⟩ (c_J0_coder_L l G s.heap.size li hll) (cwV 0 hts gJ5_inflateIfNeededFor_a7421_J0_coder_7d493 rfl rfl rfl (by decide +kernel) ⟨(Nat.le_of_ble_eq_true rfl), (Nat.le_of_ble_eq_true rfl)⟩) (zPreV hE hS hA hP hD hK (z_pick (n := 1) [] [0] rfl (by decide) rfl rfl) (vk_recv hE.2.2.2.2.2.2.2.2.2.2.2.2.1 (i := li) hll hS)) rfl rfl hl.1 rfl (lv_room (Nat.le_of_ble_eq_true rfl)) dJ5_inflateIfNeededFor_a7421_11 ⟨(Nat.le_of_ble_eq_true rfl), (Nat.le_of_ble_eq_true rfl)⟩).run ?_
  refine lv_icmp_eq (tgt := 21) hx hb dJ5_inflateIfNeededFor_a7421_14 (by decide) (fun c_2 => ?_) (fun c_2 => absurd (by decide) c_2)
  exact zRv hx hb hr hlocks rfl rfl (Nat.le_of_ble_eq_true rfl) (Nat.le_of_ble_eq_true rfl) dJ5_inflateIfNeededFor_a7421_21

set_option maxHeartbeats 4000000 in
set_option maxRecDepth 100000 in
/-- String.getBytes of a constant -/
theorem c_J0_getBytes_L (l : Launch) (G : zG) (sz : Nat) (va : Nat) (vn : Nat) (vf : Nat → Int32) (li : Nat) (hll : li < 4) (ln : Nat) (hln : zsl.getD li 0 = ln) (cn : Nat) (hcn : cn + ln ≤ vn) (hvn : vn < 2 ^ 30) : Met l yJ0_getBytes_840e7 wsJ0_getBytes_840e7 { frames := 1, cells := 0, slots := 0, locals := 26 } (zPc G [.ref (G.2.2 (10 + li)), .ref va, .int (nI cn), .int 0] [(va, .inl (G.2.1 1, vn, .inl vf))] sz) (zQv G (fun (u : Unit) => True) (fun u => [(va, .inl (G.2.1 1, vn, .inl (va_cpy (zL li) vf 0 cn ln)))]) (va_A [(va, .inl (G.2.1 1, vn, .inl vf))] sz)) 0 0 (va_A [(va, .inl (G.2.1 1, vn, .inl vf))] sz) := by
  refine zOfW (Qc := fun A => zQv G (fun (u : Unit) => True) (fun u => [(va, .inl (G.2.1 1, vn, .inl (va_cpy (zL li) vf 0 cn ln)))]) A) (fr := fun A => A) (cc := cJ0_getBytes_840e7) (maxL := 4) (ret := none) (by decide) rfl (Nat.le_of_ble_eq_true rfl) ?_
  intro p e s m below meth c hx hb hml hr hlocks hown hin hts A hP hK hD hE hA hS ls hl
  have hl : lv_has ls 4 [(0, .ref (G.2.2 (10 + li))), (1, .ref va), (2, .int (nI cn)), (3, .int 0)] := hl
  have hown : s.vm.findClass RJ0 = some m.cls := hown
  have hP : zP G [(va, .inl (G.2.1 1, vn, .inl vf))] s.heap := hP
  have hD : va_D A [(va, .inl (G.2.1 1, vn, .inl vf))] := hD
  refine lv_aload_n hx hb dJ0_getBytes_840e7_0 rfl (lv_at hl 0 rfl) ?_
  refine zCi (r := 0) (va_runV (As := []) (rest := []) ⟨hx, hb, hml, hown, hts⟩ (c_J0_coder_L l G s.heap.size li hll) (cwV 0 hts gJ0_getBytes_840e7_J0_coder_7d493 rfl rfl rfl (by decide +kernel) ⟨(Nat.le_of_ble_eq_true rfl), (Nat.le_of_ble_eq_true rfl)⟩) (zPreV hE hS hA hP hD hK (z_pick (n := 1) [] [0] rfl (by decide) rfl rfl) (vk_recv hE.2.2.2.2.2.2.2.2.2.2.2.2.1 (i := li) hll hS)) rfl rfl hl.1 rfl (lv_room (Nat.le_of_ble_eq_true rfl)) dJ0_getBytes_840e7_1 ⟨(Nat.le_of_ble_eq_true rfl), (Nat.le_of_ble_eq_true rfl)⟩).run ?_
  refine lv_iload_n hx hb dJ0_getBytes_840e7_4 rfl (lv_at hl 3 rfl) ?_
  refine lv_icmp_ne (tgt := 28) hx hb dJ0_getBytes_840e7_5 (by decide) (fun c_1 => absurd (by decide) c_1) (fun c_1 => ?_)
  refine lv_aload_n hx hb dJ0_getBytes_840e7_8 rfl (lv_at hl 0 rfl) ?_
  refine vk_getf (v := .ref (G.2.2 (20 + li))) hx hb (hE.2.2.2.2.2.2.2.2.2.2.2.2.1.1 li hll).2.2.1 hS hown (hts (.fieldLink "java/lang/String" 9 "java/lang/String" "value" "[B") (List.mem_of_getElem? (i := 1) (by decide +kernel))) (fun _ h9 => h9) dJ0_getBytes_840e7_9 ?_
  refine lv_iconst (v := 0) hx hb dJ0_getBytes_840e7_12 (by decide) ?_
  refine lv_aload_n hx hb dJ0_getBytes_840e7_13 rfl (lv_at hl 1 rfl) ?_
  refine lv_iload_n hx hb dJ0_getBytes_840e7_14 rfl (lv_at hl 2 rfl) ?_
  refine lv_iload_n hx hb dJ0_getBytes_840e7_15 rfl (lv_at hl 3 rfl) ?_
  refine lv_ishl hx hb dJ0_getBytes_840e7_16 ?_
  refine zTop (v := nI cn) (z_shl0 _) ?_
  refine lv_aload_n hx hb dJ0_getBytes_840e7_17 rfl (lv_at hl 0 rfl) ?_
  refine vk_getf (v := .ref (G.2.2 (20 + li))) hx hb (hE.2.2.2.2.2.2.2.2.2.2.2.2.1.1 li hll).2.2.1 hS hown (hts (.fieldLink "java/lang/String" 9 "java/lang/String" "value" "[B") (List.mem_of_getElem? (i := 1) (by decide +kernel))) (fun _ h9 => h9) dJ0_getBytes_840e7_18 ?_
  refine va_tlen (v := nI ln) hx hb (hE.2.2.2.2.2.2.2.2.2.2.2.2.1.1 li hll).2.2.2 hS (by rw [hln]; rfl) dJ0_getBytes_840e7_21 ?_
  refine zCopyT (f := (zL li)) hx hb (by rw [hml]; exact hl.1.symm) hown (hts (.methodLink "java/lang/String" 212 ⟨"java/lang/System","arraycopy","(Ljava/lang/Object;ILjava/lang/Object;II)V"⟩) (List.mem_of_getElem? (i := 2) (by decide +kernel))) (hts (.native arraycopyName) (List.mem_of_getElem? (i := 3) (by decide +kernel))) (hts (.static arraycopyName) (List.mem_of_getElem? (i := 4) (by decide +kernel))) (hts (.initialized "java/lang/System") (List.mem_of_getElem? (i := 5) (by decide +kernel))) hK hP hD hS (hE.2.2.2.2.2.2.2.2.2.2.2.2.1.1 li hll).2.2.2 0 rfl (a0 := 0) (b0 := cn) (k0 := ln) rfl rfl rfl (by rw [hln]; omega) (by omega) (fun i _ => zL_fit _ _) (Nat.le_of_ble_eq_true rfl) (Nat.le_of_ble_eq_true rfl) dJ0_getBytes_840e7_22 (fun H locs hP hD hS => ?_)
  have hP : zP G [(va, .inl (G.2.1 1, vn, .inl (va_cpy (zL li) vf 0 cn ln)))] H := hP
  have hD : va_D A [(va, .inl (G.2.1 1, vn, .inl (va_cpy (zL li) vf 0 cn ln)))] := hD
  refine lv_goto (tgt := 43) hx hb dJ0_getBytes_840e7_25 (by decide) ?_
  exact zWv () hx hb hr hlocks trivial hP hD hK hS (z_pick (n := 1) [0] [] rfl (by decide) rfl rfl) (Nat.le_of_ble_eq_true rfl) (Nat.le_of_ble_eq_true rfl) dJ0_getBytes_840e7_43

theorem wsi_J5_putStringAt_47b60_J4 : ∀ w ∈ wsJ40, w ∈ wsJ5_putStringAt_47b60 := fun w h => List.mem_cons_of_mem _ (List.mem_append_left _ (List.mem_append_right _ h))
set_option maxHeartbeats 4000000 in
set_option maxRecDepth 100000 in
/-- putStringAt of a constant -/
theorem c_J5_putString_L (l : Launch) (G : zG) (sz : Nat) (sb : Nat) (va : Nat) (cn : Nat) (vn : Nat) (vf : Nat → Int32) (li : Nat) (hll : li < 4) (ln : Nat) (hln : zsl.getD li 0 = ln) (hcn : cn + ln ≤ vn) (hvn : vn < 2 ^ 30) : Met l yJ5_putStringAt_47b60 wsJ5_putStringAt_47b60 { frames := 2, cells := 0, slots := 0, locals := 49 } (zPc G [.ref sb, .int (nI cn), .ref (G.2.2 (10 + li))] [(sb, .inr (1, [.ref va, .int 0, .int 0, .int (nI cn)])), (va, .inl (G.2.1 1, vn, .inl vf))] sz) (zQv G (fun (u : Unit) => True) (fun u => [(sb, .inr (1, [.ref va, .int 0, .int 0, .int (nI cn)])), (va, .inl (G.2.1 1, vn, .inl (va_cpy (zL li) vf 0 cn ln)))]) (va_A [(sb, .inr (1, [.ref va, .int 0, .int 0, .int (nI cn)])), (va, .inl (G.2.1 1, vn, .inl vf))] sz)) 0 0 (va_A [(sb, .inr (1, [.ref va, .int 0, .int 0, .int (nI cn)])), (va, .inl (G.2.1 1, vn, .inl vf))] sz) := by
  refine zOfW (Qc := fun A => zQv G (fun (u : Unit) => True) (fun u => [(sb, .inr (1, [.ref va, .int 0, .int 0, .int (nI cn)])), (va, .inl (G.2.1 1, vn, .inl (va_cpy (zL li) vf 0 cn ln)))]) A) (fr := fun A => A) (cc := cJ5_putStringAt_47b60) (maxL := 3) (ret := none) (by decide) rfl (Nat.le_of_ble_eq_true rfl) ?_
  intro p e s m below meth c hx hb hml hr hlocks hown hin hts A hP hK hD hE hA hS ls hl
  have hl : lv_has ls 3 [(0, .ref sb), (1, .int (nI cn)), (2, .ref (G.2.2 (10 + li)))] := hl
  have hown : s.vm.findClass RJ5 = some m.cls := hown
  have hP : zP G [(sb, .inr (1, [.ref va, .int 0, .int 0, .int (nI cn)])), (va, .inl (G.2.1 1, vn, .inl vf))] s.heap := hP
  have hD : va_D A [(sb, .inr (1, [.ref va, .int 0, .int 0, .int (nI cn)])), (va, .inl (G.2.1 1, vn, .inl vf))] := hD
  refine lv_aload_n hx hb dJ5_putStringAt_47b60_0 rfl (lv_at hl 0 rfl) ?_
  refine lv_aload_n hx hb dJ5_putStringAt_47b60_1 rfl (lv_at hl 2 rfl) ?_
  refine zCv (va_runU (As := [.ref (G.2.2 (10 + li))]) (rest := []) ⟨hx, hb, hml, hown, hts⟩ (c_J5_inflate_L l G s.heap.size sb va cn li hll) (va_cwU 1 hts gJ5_putStringAt_47b60_J5_inflateIfNeededFor_a7421_u397J4 rfl rfl rfl rfl (by decide +kernel) ⟨(Nat.le_of_ble_eq_true rfl), (Nat.le_of_ble_eq_true rfl)⟩) (zPreV hE hS hA hP hD hK (z_pick (n := 2) [0] [1] rfl (by decide) rfl rfl) (va_recv hK hP (ci := 1) (q0 := 0) rfl rfl)) rfl rfl hl.1 rfl (lv_room (Nat.le_of_ble_eq_true rfl)) dJ5_putStringAt_47b60_2 ⟨(Nat.le_of_ble_eq_true rfl), (Nat.le_of_ble_eq_true rfl)⟩).run ?_
  refine lv_aload_n hx hb dJ5_putStringAt_47b60_5 rfl (lv_at hl 2 rfl) ?_
  refine lv_aload_n hx hb dJ5_putStringAt_47b60_6 rfl (lv_at hl 0 rfl) ?_
  refine va_get (D := G.1) (ci := 1) (v := .ref va) (C := RJ4) (T := TJ4) (N := 4) hx hb hts wsi_J5_putStringAt_47b60_J4 hown hK hP 0 rfl rfl 0 (by decide) (hts (.fieldLink "java/lang/AbstractStringBuilder" 15 "java/lang/AbstractStringBuilder" "value" "[B") (List.mem_of_getElem? (i := 1) (by decide +kernel))) (fun _ h9 => h9) rfl dJ5_putStringAt_47b60_7 ?_
  refine lv_iload_n hx hb dJ5_putStringAt_47b60_10 rfl (lv_at hl 1 rfl) ?_
  refine lv_aload_n hx hb dJ5_putStringAt_47b60_11 rfl (lv_at hl 0 rfl) ?_
  refine va_get (D := G.1) (ci := 1) (v := .int 0) (C := RJ4) (T := TJ4) (N := 4) hx hb hts wsi_J5_putStringAt_47b60_J4 hown hK hP 0 rfl rfl 1 (by decide) (hts (.fieldLink "java/lang/AbstractStringBuilder" 22 "java/lang/AbstractStringBuilder" "coder" "B") (List.mem_of_getElem? (i := 2) (by decide +kernel))) (fun _ h9 => h9) rfl dJ5_putStringAt_47b60_12 ?_
  refine zDv (wr := [(sb, .inr (1, [.ref va, .int 0, .int 0, .int (nI cn)]))]) (va_runV (As := [.ref va, .int (nI cn), .int 0]) (rest := []) ⟨hx, hb, hml, hown, hts⟩ (c_J0_getBytes_L l G s.heap.size va vn vf li hll ln hln cn (by assumption) (by assumption)) (cwV 3 hts gJ5_putStringAt_47b60_J0_getBytes_840e7 rfl rfl rfl (by decide +kernel) ⟨(Nat.le_of_ble_eq_true rfl), (Nat.le_of_ble_eq_true rfl)⟩) (zPreV hE hS hA hP hD hK (z_pick (n := 2) [1] [0] rfl (by decide) rfl rfl) (vk_recv hE.2.2.2.2.2.2.2.2.2.2.2.2.1 (i := li) hll hS)) rfl rfl hl.1 rfl (lv_room (Nat.le_of_ble_eq_true rfl)) dJ5_putStringAt_47b60_15 ⟨(Nat.le_of_ble_eq_true rfl), (Nat.le_of_ble_eq_true rfl)⟩) hP hD hS hA (z_pick (n := 2) [1] [0] rfl (by decide) rfl rfl) (fun u_1 H locs hp_2 hP hD hS => ?_)
  have hP : zP G [(va, .inl (G.2.1 1, vn, .inl (va_cpy (zL li) vf 0 cn ln))), (sb, .inr (1, [.ref va, .int 0, .int 0, .int (nI cn)]))] H := hP
  have hD : va_D A [(va, .inl (G.2.1 1, vn, .inl (va_cpy (zL li) vf 0 cn ln))), (sb, .inr (1, [.ref va, .int 0, .int 0, .int (nI cn)]))] := hD
  exact zWv () hx hb hr hlocks trivial hP hD hK hS (z_pick (n := 2) [1, 0] [] rfl (by decide) rfl rfl) (Nat.le_of_ble_eq_true rfl) (Nat.le_of_ble_eq_true rfl) dJ5_putStringAt_47b60_18

theorem wsi_J5_isLatin1_aae02_J4 : ∀ w ∈ wsJ40, w ∈ wsJ5_isLatin1_aae02 := fun w h => List.mem_cons_of_mem _ (List.mem_append_right _ h)
set_option maxHeartbeats 4000000 in
set_option maxRecDepth 100000 in
/-- isLatin1 -/
theorem c_J5_isLatin1 (l : Launch) (G : zG) (sz : Nat) (sb : Nat) (va : Nat) (cn : Nat) : Met l yJ5_isLatin1_aae02 wsJ5_isLatin1_aae02 { frames := 0, cells := 0, slots := 0, locals := 0 } (zPc G [.ref sb] [(sb, .inr (1, [.ref va, .int 0, .int 0, .int (nI cn)]))] sz) (vp_Si (fun z => z = 1)) 0 0 (fun _ => False) := by
  refine zOfW (Qc := fun _ => vp_Si (fun z => z = 1)) (fr := fun _ _ => False) (cc := cJ5_isLatin1_aae02) (maxL := 1) (ret := (some .boolean)) (by decide) rfl (Nat.le_of_ble_eq_true rfl) ?_
  intro p e s m below meth c hx hb hml hr hlocks hown hin hts A hP hK hD hE hA hS ls hl
  have hl : lv_has ls 1 [(0, .ref sb)] := hl
  have hown : s.vm.findClass RJ5 = some m.cls := hown
  have hP : zP G [(sb, .inr (1, [.ref va, .int 0, .int 0, .int (nI cn)]))] s.heap := hP
  have hD : va_D A [(sb, .inr (1, [.ref va, .int 0, .int 0, .int (nI cn)]))] := hD
  refine va_gets (v := .int 1) hx hb hE.2.2.2.2.2.2.2.2.1 hS hown (hts (.fieldLink "java/lang/AbstractStringBuilder" 18 "java/lang/String" "COMPACT_STRINGS" "Z") (List.mem_of_getElem? (i := 1) (by decide +kernel))) (fun _ h9 => h9) dJ5_isLatin1_aae02_0 ?_
  refine lv_if_eq (tgt := 17) hx hb dJ5_isLatin1_aae02_3 (by decide) (fun c_1 => absurd c_1 (by decide)) (fun c_1 => ?_)
  refine lv_aload_n hx hb dJ5_isLatin1_aae02_6 rfl (lv_at hl 0 rfl) ?_
  refine va_get (D := G.1) (ci := 1) (v := .int 0) (C := RJ4) (T := TJ4) (N := 4) hx hb hts wsi_J5_isLatin1_aae02_J4 hown hK hP 0 rfl rfl 1 (by decide) (hts (.fieldLink "java/lang/AbstractStringBuilder" 22 "java/lang/AbstractStringBuilder" "coder" "B") (List.mem_of_getElem? (i := 2) (by decide +kernel))) (fun _ h9 => h9) rfl dJ5_isLatin1_aae02_7 ?_
  refine lv_if_ne (tgt := 17) hx hb dJ5_isLatin1_aae02_10 (by decide) (fun c_2 => absurd (by decide) c_2) (fun c_2 => ?_)
  refine lv_iconst (v := 1) hx hb dJ5_isLatin1_aae02_13 (by decide) ?_
  refine lv_goto (tgt := 18) hx hb dJ5_isLatin1_aae02_14 (by decide) ?_
  exact zRi hx hb hr hlocks rfl rfl rfl rfl (Nat.le_of_ble_eq_true rfl) (Nat.le_of_ble_eq_true rfl) dJ5_isLatin1_aae02_18

set_option maxHeartbeats 4000000 in
set_option maxRecDepth 100000 in
/-- canEncode -/
theorem c_J1_canEncode (l : Launch) (G : zG) (sz : Nat) : Met l yJ1_canEncode_fc78d wsJ1_canEncode_fc78d { frames := 0, cells := 0, slots := 0, locals := 0 } (zPc G [.int 46] [] sz) (vp_Si (fun z => z = 1)) 0 0 (fun _ => False) := by
  refine zOfW (Qc := fun _ => vp_Si (fun z => z = 1)) (fr := fun _ _ => False) (cc := cJ1_canEncode_fc78d) (maxL := 1) (ret := (some .boolean)) (by decide) rfl (Nat.le_of_ble_eq_true rfl) ?_
  intro p e s m below meth c hx hb hml hr hlocks hown hin hts A hP hK hD hE hA hS ls hl
  have hl : lv_has ls 1 [(0, .int 46)] := hl
  have hown : s.vm.findClass RJ1 = some m.cls := hown
  refine lv_iload_n hx hb dJ1_canEncode_fc78d_0 rfl (lv_at hl 0 rfl) ?_
  refine lv_sipush (v := 255) hx hb dJ1_canEncode_fc78d_1 (by decide) ?_
  refine lv_icmp_gt (tgt := 11) hx hb dJ1_canEncode_fc78d_4 (by decide) (fun c_1 => absurd c_1 (by decide)) (fun c_1 => ?_)
  refine lv_iconst (v := 1) hx hb dJ1_canEncode_fc78d_7 (by decide) ?_
  refine lv_goto (tgt := 12) hx hb dJ1_canEncode_fc78d_8 (by decide) ?_
  exact zRi hx hb hr hlocks rfl rfl rfl rfl (Nat.le_of_ble_eq_true rfl) (Nat.le_of_ble_eq_true rfl) dJ1_canEncode_fc78d_12

theorem wsi_J5_getValue_6d5f1_J4 : ∀ w ∈ wsJ40, w ∈ wsJ5_getValue_6d5f1 := fun w h => List.mem_cons_of_mem _ (List.mem_append_right _ h)
set_option maxHeartbeats 4000000 in
set_option maxRecDepth 100000 in
/-- getValue -/
theorem c_J5_getValue (l : Launch) (G : zG) (sz : Nat) (sb : Nat) (va : Nat) (cn : Nat) : Met l yJ5_getValue_6d5f1 wsJ5_getValue_6d5f1 { frames := 0, cells := 0, slots := 0, locals := 0 } (zPc G [.ref sb] [(sb, .inr (1, [.ref va, .int 0, .int 0, .int (nI cn)]))] sz) (va_Sr (fun k => k = va) (fun k => .ref k)) 0 0 (fun _ => False) := by
  refine zOfW (Qc := fun _ => va_Sr (fun k => k = va) (fun k => .ref k)) (fr := fun _ _ => False) (cc := cJ5_getValue_6d5f1) (maxL := 1) (ret := (some (.array .byte))) (by decide) rfl (Nat.le_of_ble_eq_true rfl) ?_
  intro p e s m below meth c hx hb hml hr hlocks hown hin hts A hP hK hD hE hA hS ls hl
  have hl : lv_has ls 1 [(0, .ref sb)] := hl
  have hown : s.vm.findClass RJ5 = some m.cls := hown
  have hP : zP G [(sb, .inr (1, [.ref va, .int 0, .int 0, .int (nI cn)]))] s.heap := hP
  have hD : va_D A [(sb, .inr (1, [.ref va, .int 0, .int 0, .int (nI cn)]))] := hD
  refine lv_aload_n hx hb dJ5_getValue_6d5f1_0 rfl (lv_at hl 0 rfl) ?_
  refine va_get (D := G.1) (ci := 1) (v := .ref va) (C := RJ4) (T := TJ4) (N := 4) hx hb hts wsi_J5_getValue_6d5f1_J4 hown hK hP 0 rfl rfl 0 (by decide) (hts (.fieldLink "java/lang/AbstractStringBuilder" 15 "java/lang/AbstractStringBuilder" "value" "[B") (List.mem_of_getElem? (i := 1) (by decide +kernel))) (fun _ h9 => h9) rfl dJ5_getValue_6d5f1_1 ?_
  exact zRr hx hb hr hlocks (Or.inr ⟨_, rfl⟩) rfl rfl rfl (Nat.le_of_ble_eq_true rfl) (Nat.le_of_ble_eq_true rfl) dJ5_getValue_6d5f1_4

theorem wsi_J5_length_8abf5_J4 : ∀ w ∈ wsJ40, w ∈ wsJ5_length_8abf5 := fun w h => List.mem_cons_of_mem _ (List.mem_append_right _ h)
set_option maxHeartbeats 4000000 in
set_option maxRecDepth 100000 in
/-- length -/
theorem c_J5_length (l : Launch) (G : zG) (sz : Nat) (sb : Nat) (va : Nat) (cn : Nat) : Met l yJ5_length_8abf5 wsJ5_length_8abf5 { frames := 0, cells := 0, slots := 0, locals := 0 } (zPc G [.ref sb] [(sb, .inr (1, [.ref va, .int 0, .int 0, .int (nI cn)]))] sz) (vp_Si (fun z => z = nI cn)) 0 0 (fun _ => False) := by
  refine zOfW (Qc := fun _ => vp_Si (fun z => z = nI cn)) (fr := fun _ _ => False) (cc := cJ5_length_8abf5) (maxL := 1) (ret := (some .int)) (by decide) rfl (Nat.le_of_ble_eq_true rfl) ?_
  intro p e s m below meth c hx hb hml hr hlocks hown hin hts A hP hK hD hE hA hS ls hl
  have hl : lv_has ls 1 [(0, .ref sb)] := hl
  have hown : s.vm.findClass RJ5 = some m.cls := hown
  have hP : zP G [(sb, .inr (1, [.ref va, .int 0, .int 0, .int (nI cn)]))] s.heap := hP
  have hD : va_D A [(sb, .inr (1, [.ref va, .int 0, .int 0, .int (nI cn)]))] := hD
  refine lv_aload_n hx hb dJ5_length_8abf5_0 rfl (lv_at hl 0 rfl) ?_
  refine va_get (D := G.1) (ci := 1) (v := .int (nI cn)) (C := RJ4) (T := TJ4) (N := 4) hx hb hts wsi_J5_length_8abf5_J4 hown hK hP 0 rfl rfl 3 (by decide) (hts (.fieldLink "java/lang/AbstractStringBuilder" 79 "java/lang/AbstractStringBuilder" "count" "I") (List.mem_of_getElem? (i := 1) (by decide +kernel))) (fun _ h9 => h9) rfl dJ5_length_8abf5_1 ?_
  exact zRi hx hb hr hlocks rfl rfl rfl rfl (Nat.le_of_ble_eq_true rfl) (Nat.le_of_ble_eq_true rfl) dJ5_length_8abf5_4

set_option maxHeartbeats 4000000 in
set_option maxRecDepth 100000 in
/-- length -/
theorem c_J4_length (l : Launch) (G : zG) (sz : Nat) (sb : Nat) (va : Nat) (cn : Nat) : Met l yJ4_length_8abf5 wsJ4_length_8abf5 { frames := 1, cells := 0, slots := 0, locals := 20 } (zPc G [.ref sb] [(sb, .inr (1, [.ref va, .int 0, .int 0, .int (nI cn)]))] sz) (vp_Si (fun z => z = nI cn)) 0 0 (fun _ => False) := by
  refine zOfW (Qc := fun _ => vp_Si (fun z => z = nI cn)) (fr := fun _ _ => False) (cc := cJ4_length_8abf5) (maxL := 1) (ret := (some .int)) (by decide) rfl (Nat.le_of_ble_eq_true rfl) ?_
  intro p e s m below meth c hx hb hml hr hlocks hown hin hts A hP hK hD hE hA hS ls hl
  have hl : lv_has ls 1 [(0, .ref sb)] := hl
  have hown : s.vm.findClass RJ4 = some m.cls := hown
  have hP : zP G [(sb, .inr (1, [.ref va, .int 0, .int 0, .int (nI cn)]))] s.heap := hP
  have hD : va_D A [(sb, .inr (1, [.ref va, .int 0, .int 0, .int (nI cn)]))] := hD
  refine lv_aload_n hx hb dJ4_length_8abf5_0 rfl (lv_at hl 0 rfl) ?_
  refine zCi (r := nI cn) (va_runSU (hK.1 1 _ rfl).2 (As := []) (rest := []) ⟨hx, hb, hml, hown, hts⟩ (c_J5_length l G s.heap.size sb va cn) (va_cwSU 0 hts gJ4_length_8abf5_J5_length_8abf5_s343 rfl rfl rfl (by decide +kernel) ⟨(Nat.le_of_ble_eq_true rfl), (Nat.le_of_ble_eq_true rfl)⟩) (zPreV hE hS hA hP hD hK (z_pick (n := 1) [0] [] rfl (by decide) rfl rfl) (va_recv hK hP (ci := 1) (q0 := 0) rfl rfl)) rfl rfl hl.1 rfl (lv_room (Nat.le_of_ble_eq_true rfl)) dJ4_length_8abf5_1 ⟨(Nat.le_of_ble_eq_true rfl), (Nat.le_of_ble_eq_true rfl)⟩).run ?_
  exact zRi hx hb hr hlocks rfl rfl rfl rfl (Nat.le_of_ble_eq_true rfl) (Nat.le_of_ble_eq_true rfl) dJ4_length_8abf5_4
