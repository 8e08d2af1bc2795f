/-! ===== the law's loop ===== -/
theorem zSw12 (x : Int32) : x = 0 ∨ x = 1 ∨ x = 2 ∨ x = 3 ∨ x = 4 ∨ x = 5 ∨ x = 6 ∨ x = 7 ∨ x = 8 ∨ x = 9 ∨ x = 10 ∨ x = 11 ∨ x = 12 ∨ (x.toInt < 0 ∨ 12 < x.toInt) := by
  simp only [← Int32.toInt_inj]
  have e : (0 : Int32).toInt = 0 ∧ (1 : Int32).toInt = 1 ∧ (2 : Int32).toInt = 2 ∧ (3 : Int32).toInt = 3 ∧ (4 : Int32).toInt = 4 ∧ (5 : Int32).toInt = 5 ∧ (6 : Int32).toInt = 6 ∧ (7 : Int32).toInt = 7 ∧ (8 : Int32).toInt = 8 ∧ (9 : Int32).toInt = 9 ∧ (10 : Int32).toInt = 10 ∧ (11 : Int32).toInt = 11 ∧ (12 : Int32).toInt = 12 := by decide
  omega
section ZL
variable {p : Program} {l : Launch} {e : Env} {s : State} {m : MethodId} {args : Array Value} {below : List Frame} {meth : Method} {c : Code} {Q : State → Prop} {G : zG} {A : Nat → Prop} {b L : Nat} {xs : Nat → Int32} {ad : Nat → Nat}
set_option maxHeartbeats 8000000 in
set_option maxRecDepth 100000 in
/-- the loop, with d turns to go at the most -/
theorem z_loop (hl9 : l.stackTraces = false) (hx : p.tables.exec = Jvm.exec) (hb : c.code = cL_law) (hml : c.maxLocals = 7) (hown : s.vm.findClass RL = some m.cls) (hts : ∀ w ∈ wsL_law, w.before args s = true) (hX : va_X b L xs s s.heap) (hbl : b < s.heap.size) (hbA : ¬ A b) (hK : zK G s) (hE : zE G A s s.heap) (hA : ∀ q : Nat, s.heap.size ≤ q → A q) (hL : L ≤ 2560)
    (fin : ∀ (H : Heap) (locs : List Loc) (ls : Array Slot) (cells slots : Nat), va_S A s.heap H locs → cells ≤ 601024 → slots ≤ 7293034 → W p l e room_1 s m args below meth c H locs cells slots Q (F0 m 872 ls [])) :
    ∀ (d k : Nat), L < 5 * (k + d) + 5 → 5 * k ≤ 2560 → ∀ (n ct : Nat) (nb dy md pp mp po mo mt : Int32) (bh : Nat → Option Nat) (t0 t1 t2 t3 t4 ff : Nat → Int32) (og : Nat → Int64) (tk bt bl bd yy bs bm lf lc gn pr bo : Nat → Int32) (be : Nat → ZB) (bf : Nat → Nat → Int32) (sx : Nat → va_W),
      zRl G k n ct nb dy md pp mp po mo bh t0 t1 t2 t3 t4 be bf sx tk bt bl bd yy bs bm lf lc gn pr bo → ∀ (H : Heap) (locs : List Loc) (ls : Array Slot) (cells slots : Nat), cells + 10 * d ≤ 601024 → slots + 400 * d ≤ 7293034 → zP G (zWd G ad n ct nb dy md pp mp po mo mt bh t0 t1 t2 t3 t4 ff og tk bt bl bd yy bs bm lf lc gn pr bo ++ zTl G be bf sx n) H → va_D A (zWd G ad n ct nb dy md pp mp po mo mt bh t0 t1 t2 t3 t4 ff og tk bt bl bd yy bs bm lf lc gn pr bo ++ zTl G be bf sx n) → va_S A s.heap H locs → lv_has ls 7 [(0, .ref b), (1, .ref (ad 0)), (2, .ref (ad 10)), (3, .ref (ad 9)), (4, .int (nI (5 * k)))] →
      W p l e room_1 s m args below meth c H locs cells slots Q (F0 m 23 ls []) := by
  intro d
  induction d with
  | zero =>
    intro k hd hk n ct nb dy md pp mp po mo mt bh t0 t1 t2 t3 t4 ff og tk bt bl bd yy bs bm lf lc gn pr bo be bf sx hR H locs ls cells slots hcc hss hP hD hS hl
    refine lv_iload hx hb dL_law_23 (lv_at hl 4 rfl) ?_
    refine lv_aload_n hx hb dL_law_25 rfl (lv_at hl 0 rfl) ?_
    refine va_slen hx hb hX hbl hbA hS dL_law_26 ?_
    refine lv_iconst (v := 5) hx hb dL_law_27 (by decide) ?_
    refine lv_isub hx hb dL_law_28 ?_
    refine lv_icmp_gt (tgt := 872) hx hb dL_law_29 (by decide) (fun _ => ?_) (fun hc => ?_)
    · exact fin _ _ _ _ _ hS (by omega) (by omega)
    · have e1 : (Int32.ofNat L - 5 : Int32).toInt = (L : Int) - 5 := pk_sub_toInt (a := L) (b := 5) (by omega) (by decide)
      rw [Int32.lt_iff_toInt_lt, e1, nI_toInt (by omega)] at hc
      omega
  | succ d ih =>
    intro k hd hk n ct nb dy md pp mp po mo mt bh t0 t1 t2 t3 t4 ff og tk bt bl bd yy bs bm lf lc gn pr bo be bf sx hR H locs ls cells slots hcc hss hP hD hS hl
    refine lv_iload hx hb dL_law_23 (lv_at hl 4 rfl) ?_
    refine lv_aload_n hx hb dL_law_25 rfl (lv_at hl 0 rfl) ?_
    refine va_slen hx hb hX hbl hbA hS dL_law_26 ?_
    refine lv_iconst (v := 5) hx hb dL_law_27 (by decide) ?_
    refine lv_isub hx hb dL_law_28 ?_
    refine lv_icmp_gt (tgt := 872) hx hb dL_law_29 (by decide) (fun _ => ?_) (fun hc => ?_)
    · exact fin _ _ _ _ _ hS (by omega) (by omega)
    have e1 : (Int32.ofNat L - 5 : Int32).toInt = (L : Int) - 5 := pk_sub_toInt (a := L) (b := 5) (by omega) (by decide)
    rw [Int32.lt_iff_toInt_lt, e1, nI_toInt (by omega)] at hc
    have hkL : 5 * k + 5 ≤ L := by omega
    refine lv_aload_n hx hb dL_law_32 rfl (lv_at hl 0 rfl) ?_
    refine lv_iload hx hb dL_law_33 (lv_at hl 4 rfl) ?_
    refine zSld hx hb hX hbl hbA hS (j := 5 * k) rfl (by omega) (by omega) dL_law_35 ?_
    refine lv_bipush (v := 15) hx hb dL_law_36 (by decide) ?_
    refine lv_iand hx hb dL_law_38 ?_
    obtain ⟨x, hxx⟩ : ∃ x, x = xs (5 * k) &&& 15 := ⟨_, rfl⟩
    refine zTop (v := x) hxx.symm ?_
    have kn : zKn p l e s m args below meth c (cells + 10) (slots + 400) Q G A ad b k := by
      intro n ct nb dy md pp mp po mo mt bh t0 t1 t2 t3 t4 ff og tk bt bl bd yy bs bm lf lc gn pr bo be bf sx hR H locs ls hP hD hS hl
      refine lv_iinc (k := 4) (x := nI (5 * k)) (v := nI (5 * (k + 1))) (lv' := [(4, .int (nI (5 * (k + 1)))), (0, .ref b), (1, .ref (ad 0)), (2, .ref (ad 10)), (3, .ref (ad 9))]) hx hb dL_law_866 hl rfl (nI_add (5 * k) 5) (by decide) rfl (fun ls hl => ?_)
      refine lv_goto (tgt := 23) hx hb dL_law_869 (by decide) ?_
      exact ih (k + 1) (by omega) (by omega) n ct nb dy md pp mp po mo mt bh t0 t1 t2 t3 t4 ff og tk bt bl bd yy bs bm lf lc gn pr bo be bf sx hR H locs ls (cells + 10) (slots + 400) (by omega) (by omega) hP hD hS (lv_sub hl [1, 2, 3, 4, 0] rfl)
    obtain ⟨⟨h1, h2, h3, r1, r2, r3, r4⟩, h5⟩ := id hR
    subst r1
    subst r2
    subst r3
    subst r4
    rcases zSw12 x with rfl | rfl | rfl | rfl | rfl | rfl | rfl | rfl | rfl | rfl | rfl | rfl | rfl | co
    · refine lv_tableIn (tgt := 104) hx hb dL_law_39 (by decide) (by decide) rfl (by decide) ?_
      exact st_brew hR hl9 hx hb hml hown hts hX hbl hbA hK hE hA hkL hL (by omega) (by omega) hP hD hS hl kn
    · refine lv_tableIn (tgt := 196) hx hb dL_law_39 (by decide) (by decide) rfl (by decide) ?_
      exact st_pass hR hl9 hx hb hml hown hts hX hbl hbA hK hE hA hkL hL (by omega) (by omega) hP hD hS hl kn
    · refine lv_tableIn (tgt := 252) hx hb dL_law_39 (by decide) (by decide) rfl (by decide) ?_
      exact st_print hR hl9 hx hb hml hown hts hX hbl hbA hK hE hA hkL hL (by omega) (by omega) hP hD hS hl kn
    · refine lv_tableIn (tgt := 320) hx hb dL_law_39 (by decide) (by decide) rfl (by decide) ?_
      exact st_label hR hl9 hx hb hml hown hts hX hbl hbA hK hE hA hkL hL (by omega) (by omega) hP hD hS hl kn
    · refine lv_tableIn (tgt := 388) hx hb dL_law_39 (by decide) (by decide) rfl (by decide) ?_
      exact st_bottle hR hl9 hx hb hml hown hts hX hbl hbA hK hE hA hkL hL (by omega) (by omega) hP hD hS hl kn
    · refine lv_tableIn (tgt := 456) hx hb dL_law_39 (by decide) (by decide) rfl (by decide) ?_
      exact st_measure hR hl9 hx hb hml hown hts hX hbl hbA hK hE hA hkL hL (by omega) (by omega) hP hD hS hl kn
    · refine lv_tableIn (tgt := 524) hx hb dL_law_39 (by decide) (by decide) rfl (by decide) ?_
      exact st_blend hR hl9 hx hb hml hown hts hX hbl hbA hK hE hA hkL hL (by omega) (by omega) hP hD hS hl kn
    · refine lv_tableIn (tgt := 604) hx hb dL_law_39 (by decide) (by decide) rfl (by decide) ?_
      exact st_ofBrew hR hl9 hx hb hml hown hts hX hbl hbA hK hE hA hkL hL (by omega) (by omega) hP hD hS hl kn
    · refine lv_tableIn (tgt := 672) hx hb dL_law_39 (by decide) (by decide) rfl (by decide) ?_
      exact st_classAnew hR hl9 hx hb hml hown hts hX hbl hbA hK hE hA hkL hL (by omega) (by omega) hP hD hS hl kn
    · refine lv_tableIn (tgt := 728) hx hb dL_law_39 (by decide) (by decide) rfl (by decide) ?_
      exact st_inTank hR hl9 hx hb hml hown hts hX hbl hbA hK hE hA hkL hL (by omega) (by omega) hP hD hS hl kn
    · refine lv_tableIn (tgt := 784) hx hb dL_law_39 (by decide) (by decide) rfl (by decide) ?_
      exact st_paid hR hl9 hx hb hml hown hts hX hbl hbA hK hE hA hkL hL (by omega) (by omega) hP hD hS hl kn
    · refine lv_tableIn (tgt := 797) hx hb dL_law_39 (by decide) (by decide) rfl (by decide) ?_
      exact st_owed hR hl9 hx hb hml hown hts hX hbl hbA hK hE hA hkL hL (by omega) (by omega) hP hD hS hl kn
    · refine lv_tableIn (tgt := 810) hx hb dL_law_39 (by decide) (by decide) rfl (by decide) ?_
      exact st_pay hR hl9 hx hb hml hown hts hX hbl hbA hK hE hA hkL hL (by omega) (by omega) hP hD hS hl kn
    · refine lv_tableOut (tgt := 866) hx hb dL_law_39 co (by decide) ?_
      exact W.widen (k := cells + 10) (n := slots + 400) (by omega) (by omega) (kn _ _ _ _ _ _ _ _ _ mt _ _ _ _ _ _ ff og _ _ _ _ _ _ _ _ _ _ _ _ _ _ _ hR.mono H locs ls hP hD hS hl)
end ZL
