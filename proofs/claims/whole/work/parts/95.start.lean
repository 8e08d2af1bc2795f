/-! THE CLAIM OUT OF ONE WALK OF THE LAW'S BODY. Your part is whole_start (and what it stands on); all else here is the same for every law, but numbers. -/
def R_law : String := "CellarschedulerLaw"
def lw_P (b : Addr) (xs : List Int32) (args : Array Value) (s : State) : Prop := args = #[.ref b] ∧ s.IntsAt b xs ∧ xs.length ≤ 2560 ∧ (Jvm.Cond.and given_1 narrow_1).before args s = true
def lw_Q (_ : Array Value) (s : State) (o : Outcome) (t : State) : Prop := o = .returned (some (.int 1)) ∧ Framed s o t [] 601024 7293034
def lw_Z (below : List Frame) (a : Array Value) (s : State) : State → Prop := fun t => ∃ o, t.status = .running ∧ Ended t below o ∧ lw_Q a s o t
/-- the law's own end, with 1 on the stack, nothing written that was there before, its room as the claim has it -/
theorem lw_ret {p : Program} {l : Launch} {e : Env} {s : State} {m : MethodId} {below : List Frame} {meth : Method} {c : Code} {b : Nat} (hx : p.tables.exec = Jvm.exec) (hb : c.code = code) (hr : meth.sig.returnType = ret) (hlocks : meth.locks = false) {pc : Nat} {H : Heap} {ls : Array Slot} (hdg : decode code pc = .ok (.ireturn, 1)) : W p l e room_1 s m #[Value.ref b] below meth c H [] 601024 7293034 (lw_Z below #[Value.ref b] s) (F0 m pc ls [.int 1]) := by
  intro T hT X
  obtain ⟨fs, hret, hrun, hended, hW, hframe⟩ := X.leave (v := some (.int 1)) (hlocks := hlocks) (fun h => by rw [hr] at h; cases h)
  have hmeth' : T.vm.method? m = some meth := X.method'
  refine ⟨T.setFrames fs, ?_, .returned (some (.int 1)), hrun, hended, rfl, ⟨_, rfl⟩, hW, hframe⟩
  jvm_step X.here [X.here.top, hx, hb, hdg, hmeth', hr, ret, narrow_b1]
  (try refine ⟨rfl, ?_⟩); (try refine ⟨rfl, ?_⟩)
  first | (intro acts; rw [hret _ acts rfl rfl rfl]) | rw [hret _ _ rfl rfl rfl]
  exact Steps.refl _
/-- what holds at the law's entry: the machine, the code, the tables' words (any of lw_tbl by 'hts w (by decide +kernel)'), the script of L ints xs at the cell b, what the Statement gives of the start (any of its parts by flat_of_before) -/
def lw_At (p : Program) (s : State) (m : MethodId) (meth : Method) (c : Code) (b L : Nat) (xs : Nat → Int32) : Prop :=
  p.tables.exec = Jvm.exec ∧ c.code = code ∧ meth.sig.returnType = ret ∧ c.maxLocals = 7 ∧ s.vm.findClass R_law = some m.cls ∧ (∀ w ∈ lw_tbl, w.before #[Value.ref b] s = true) ∧ va_X b L xs s s.heap ∧ b < s.heap.size ∧ meth.locks = false ∧ (Jvm.Cond.and given_1 narrow_1).before #[Value.ref b] s = true
set_option maxHeartbeats 8000000 in
set_option maxRecDepth 100000 in
/-- YOUR PART: from the entry, for every script of at most 2560 ints, the law comes to its end with true ('hflags': the launch's flags, for a law that throws: no stack traces) -/
theorem whole_start {p : Program} {e : Env} {s : State} {m : MethodId} {below : List Frame} {meth : Method} {c : Code} (l : Launch) (hflags : l.flags = flags0) {b L : Nat} {xs : Nat → Int32} (hL : L ≤ 2560) (C0 : lw_At p s m meth c b L xs) : W p l e room_1 s m #[Value.ref b] below meth c s.heap [] 0 0 (lw_Z below #[Value.ref b] s) (entryFrame m ([Value.ref b] : List Value).toArray 7) := by
  obtain ⟨hx, hb, hr, hml, hown, hts0, hX, hbl, hlocks, hgv⟩ := id C0
  have hb : c.code = cL_law := hb
  have hown : s.vm.findClass RL = some m.cls := hown
  have hts : ∀ w ∈ wsL_law, w.before #[Value.ref b] s = true := fun w hw => hts0 w (wsL_law_in w hw)
  obtain ⟨A, hAe⟩ : ∃ A : Nat → Prop, A = fun q => s.heap.size ≤ q := ⟨_, rfl⟩
  have hA : ∀ q : Nat, s.heap.size ≤ q → A q := fun q h => by rw [hAe]; exact h
  have hAn : ∀ q : Nat, q < s.heap.size → ¬ A q := fun q h => by rw [hAe]; exact Nat.not_le.mpr h
  have hAf : ∀ q : Nat, A q → s.heap.size ≤ q := fun q h => by rw [hAe] at h; exact h
  have hbA : ¬ A b := hAn b hbl
  obtain ⟨G, hK, hE⟩ := z_ground (A := A) hts0 hgv hAn
  have hl9 : l.stackTraces = false := by
    unfold Launch.stackTraces
    rw [hflags]
    decide
  have fin : ∀ (H : Heap) (locs : List Loc) (ls : Array Slot) (cells slots : Nat), va_S A s.heap H locs → cells ≤ 601024 → slots ≤ 7293034 → W p l e room_1 s m #[Value.ref b] below meth c H locs cells slots (lw_Z below #[Value.ref b] s) (F0 m 872 ls []) := by
    intro H locs ls cells slots hS hc hs
    refine va_forget (fun q hq => hAf _ (hS.2.2 q hq)) ?_
    refine W.widen (k := 601024) (n := 7293034) hc hs ?_
    refine lv_iconst (v := 1) hx hb dL_law_872 (by decide) ?_
    exact lw_ret hx hb hr hlocks dL_law_873
  have hS : va_S A s.heap s.heap [] := va_S.rf
  have hP : zP G [] s.heap := fun k q h => by simp at h
  have hD : va_D A [] := ⟨fun i j p q h => by simp at h, fun k q h => by simp at h⟩
  have hl := lv_entry ([.ref b]) (n := 7) (Nat.le_of_ble_eq_true rfl)
  rw [lg_entry_eq]
  generalize (lg_sl ([.ref b]) ++ List.replicate (7 - (lg_sl ([.ref b])).length) Slot.unset).toArray = ls at hl ⊢
  have hl : lv_has ls 7 [(0, .ref b)] := hl
  have hP : zP G [] s.heap := hP
  have hD : va_D A [] := hD
  refine va_new (D := G.1) (ci := 4) (fs := [.null, .null, .int 0, .int 0, .int 0, .int 0]) (C := RX2) (T := TX2) (N := 6) hx hb hts inlX2 tyX2 tyX2_ok hown (hts (.classLink "CellarschedulerLaw" 8 "Cellarscheduler") (List.mem_of_getElem? (i := 0) (by decide +kernel))) (hts (.instantiable RX2 6) (List.mem_of_getElem? (i := 1) (by decide +kernel))) (hts (.initialized RX2) (List.mem_of_getElem? (i := 2) (by decide +kernel))) hK hP hD hS hA rfl (fun j hj => by rcases (show j = 0 ∨ j = 1 ∨ j = 2 ∨ j = 3 ∨ j = 4 ∨ j = 5 by omega) with rfl | rfl | rfl | rfl | rfl | rfl <;> rfl) (Nat.le_of_ble_eq_true rfl) (Nat.le_of_ble_eq_true rfl) dL_law_0 (fun q_1 H hP hD hS => ?_)
  have hP : zP G [(q_1, .inr (4, [.null, .null, .int 0, .int 0, .int 0, .int 0]))] H := hP
  have hD : va_D A [(q_1, .inr (4, [.null, .null, .int 0, .int 0, .int 0, .int 0]))] := hD
  refine lv_dup hx hb dL_law_3 rfl ?_
  refine zDv (wr := []) (va_runI (As := []) (rest := [.ref q_1]) ⟨hx, hb, hml, hown, hts⟩ (c_X2_init l G H.size q_1) (cwI 0 hts gL_law_X2_init rfl rfl rfl (hts (.initialized RX2) (List.mem_of_getElem? (i := 2) (by decide +kernel))) (hts (.methodLink "CellarschedulerLaw" 53 ⟨"Cellarscheduler","<init>","()V"⟩) (List.mem_of_getElem? (i := 7) (by decide +kernel))) (hts (.instanceMethod yX2_init) (List.mem_of_getElem? (i := 8) (by decide +kernel))) rfl (by decide +kernel) ⟨(Nat.le_of_ble_eq_true rfl), (Nat.le_of_ble_eq_true rfl)⟩) (zPreS (As := [.ref q_1]) hE hS hA hP hD hK (z_pick (n := 1) [0] [] rfl (by decide) rfl rfl)) rfl rfl hl.1 rfl (lv_room (Nat.le_of_ble_eq_true rfl)) dL_law_4 ⟨(Nat.le_of_ble_eq_true rfl), (Nat.le_of_ble_eq_true rfl)⟩) hP hD hS hA (z_pick (n := 1) [0] [] rfl (by decide) rfl rfl) (fun u_2 H locs hp_3 hP hD hS => ?_)
  obtain ⟨xb_0, te_1, a0_2, a1_3, a2_4, a3_5, a4_6, fo_7⟩ := u_2
  have hP : zP G [(q_1, .inr (4, [.ref xb_0, .ref te_1, .int 0, .int 0, .int 0, .int 0])), (xb_0, .inl (G.2.1 3, 20, .inr (.inr (.inr (.inr (fun _ => none)))))), (te_1, .inr (3, [.ref a0_2, .ref a1_3, .ref a2_4, .ref a3_5, .ref a4_6, .int 0, .ref fo_7])), (a0_2, .inl (G.2.1 0, 512, .inl (fun _ => 0))), (a1_3, .inl (G.2.1 0, 512, .inl (fun _ => 0))), (a2_4, .inl (G.2.1 0, 512, .inl (fun _ => 0))), (a3_5, .inl (G.2.1 0, 512, .inl (fun _ => 0))), (a4_6, .inl (G.2.1 0, 512, .inl (fun _ => 0))), (fo_7, .inl (G.2.1 0, 20, .inl (fun _ => 0)))] H := hP
  have hD : va_D A [(q_1, .inr (4, [.ref xb_0, .ref te_1, .int 0, .int 0, .int 0, .int 0])), (xb_0, .inl (G.2.1 3, 20, .inr (.inr (.inr (.inr (fun _ => none)))))), (te_1, .inr (3, [.ref a0_2, .ref a1_3, .ref a2_4, .ref a3_5, .ref a4_6, .int 0, .ref fo_7])), (a0_2, .inl (G.2.1 0, 512, .inl (fun _ => 0))), (a1_3, .inl (G.2.1 0, 512, .inl (fun _ => 0))), (a2_4, .inl (G.2.1 0, 512, .inl (fun _ => 0))), (a3_5, .inl (G.2.1 0, 512, .inl (fun _ => 0))), (a4_6, .inl (G.2.1 0, 512, .inl (fun _ => 0))), (fo_7, .inl (G.2.1 0, 20, .inl (fun _ => 0)))] := hD
  refine lv_astore_n (lv' := [(1, .ref q_1), (0, .ref b)]) hx hb dL_law_7 rfl hl (by decide) rfl (fun ls hl => ?_)
  refine va_new (D := G.1) (ci := 5) (fs := [.null, .null, .null, .null, .null, .null, .null, .null, .null, .null, .null, .null, .int 0, .int 0, .int 0, .int 0, .int 0]) (C := RX3) (T := TX3) (N := 17) hx hb hts inlX3 tyX3 tyX3_ok hown (hts (.classLink "CellarschedulerLaw" 54 "CellarschedulerModel") (List.mem_of_getElem? (i := 3) (by decide +kernel))) (hts (.instantiable RX3 17) (List.mem_of_getElem? (i := 4) (by decide +kernel))) (hts (.initialized RX3) (List.mem_of_getElem? (i := 5) (by decide +kernel))) hK hP hD hS hA rfl (fun j hj => by rcases (show j = 0 ∨ j = 1 ∨ j = 2 ∨ j = 3 ∨ j = 4 ∨ j = 5 ∨ j = 6 ∨ j = 7 ∨ j = 8 ∨ j = 9 ∨ j = 10 ∨ j = 11 ∨ j = 12 ∨ j = 13 ∨ j = 14 ∨ j = 15 ∨ j = 16 by omega) with rfl | rfl | rfl | rfl | rfl | rfl | rfl | rfl | rfl | rfl | rfl | rfl | rfl | rfl | rfl | rfl | rfl <;> rfl) (Nat.le_of_ble_eq_true rfl) (Nat.le_of_ble_eq_true rfl) dL_law_8 (fun q_4 H hP hD hS => ?_)
  have hP : zP G [(q_1, .inr (4, [.ref xb_0, .ref te_1, .int 0, .int 0, .int 0, .int 0])), (xb_0, .inl (G.2.1 3, 20, .inr (.inr (.inr (.inr (fun _ => none)))))), (te_1, .inr (3, [.ref a0_2, .ref a1_3, .ref a2_4, .ref a3_5, .ref a4_6, .int 0, .ref fo_7])), (a0_2, .inl (G.2.1 0, 512, .inl (fun _ => 0))), (a1_3, .inl (G.2.1 0, 512, .inl (fun _ => 0))), (a2_4, .inl (G.2.1 0, 512, .inl (fun _ => 0))), (a3_5, .inl (G.2.1 0, 512, .inl (fun _ => 0))), (a4_6, .inl (G.2.1 0, 512, .inl (fun _ => 0))), (fo_7, .inl (G.2.1 0, 20, .inl (fun _ => 0))), (q_4, .inr (5, [.null, .null, .null, .null, .null, .null, .null, .null, .null, .null, .null, .null, .int 0, .int 0, .int 0, .int 0, .int 0]))] H := hP
  have hD : va_D A [(q_1, .inr (4, [.ref xb_0, .ref te_1, .int 0, .int 0, .int 0, .int 0])), (xb_0, .inl (G.2.1 3, 20, .inr (.inr (.inr (.inr (fun _ => none)))))), (te_1, .inr (3, [.ref a0_2, .ref a1_3, .ref a2_4, .ref a3_5, .ref a4_6, .int 0, .ref fo_7])), (a0_2, .inl (G.2.1 0, 512, .inl (fun _ => 0))), (a1_3, .inl (G.2.1 0, 512, .inl (fun _ => 0))), (a2_4, .inl (G.2.1 0, 512, .inl (fun _ => 0))), (a3_5, .inl (G.2.1 0, 512, .inl (fun _ => 0))), (a4_6, .inl (G.2.1 0, 512, .inl (fun _ => 0))), (fo_7, .inl (G.2.1 0, 20, .inl (fun _ => 0))), (q_4, .inr (5, [.null, .null, .null, .null, .null, .null, .null, .null, .null, .null, .null, .null, .int 0, .int 0, .int 0, .int 0, .int 0]))] := hD
  refine lv_dup hx hb dL_law_11 rfl ?_
  refine zDv (wr := [(q_1, .inr (4, [.ref xb_0, .ref te_1, .int 0, .int 0, .int 0, .int 0])), (xb_0, .inl (G.2.1 3, 20, .inr (.inr (.inr (.inr (fun _ => none)))))), (te_1, .inr (3, [.ref a0_2, .ref a1_3, .ref a2_4, .ref a3_5, .ref a4_6, .int 0, .ref fo_7])), (a0_2, .inl (G.2.1 0, 512, .inl (fun _ => 0))), (a1_3, .inl (G.2.1 0, 512, .inl (fun _ => 0))), (a2_4, .inl (G.2.1 0, 512, .inl (fun _ => 0))), (a3_5, .inl (G.2.1 0, 512, .inl (fun _ => 0))), (a4_6, .inl (G.2.1 0, 512, .inl (fun _ => 0))), (fo_7, .inl (G.2.1 0, 20, .inl (fun _ => 0)))]) (va_runI (As := []) (rest := [.ref q_4]) ⟨hx, hb, hml, hown, hts⟩ (c_X3_init l G H.size q_4) (cwI 0 hts gL_law_X3_init rfl rfl rfl (hts (.initialized RX3) (List.mem_of_getElem? (i := 5) (by decide +kernel))) (hts (.methodLink "CellarschedulerLaw" 56 ⟨"CellarschedulerModel","<init>","()V"⟩) (List.mem_of_getElem? (i := 34) (by decide +kernel))) (hts (.instanceMethod yX3_init) (List.mem_of_getElem? (i := 35) (by decide +kernel))) rfl (by decide +kernel) ⟨(Nat.le_of_ble_eq_true rfl), (Nat.le_of_ble_eq_true rfl)⟩) (zPreS (As := [.ref q_4]) hE hS hA hP hD hK (z_pick (n := 10) [9] [0, 1, 2, 3, 4, 5, 6, 7, 8] rfl (by decide) rfl rfl)) rfl rfl hl.1 rfl (lv_room (Nat.le_of_ble_eq_true rfl)) dL_law_12 ⟨(Nat.le_of_ble_eq_true rfl), (Nat.le_of_ble_eq_true rfl)⟩) hP hD hS hA (z_pick (n := 10) [9] [0, 1, 2, 3, 4, 5, 6, 7, 8] rfl (by decide) rfl rfl) (fun u_5 H locs hp_6 hP hD hS => ?_)
  obtain ⟨m0_8, m1_9, m2_10, m3_11, m4_12, m5_13, m6_14, m7_15, m8_16, m9_17, m10_18, m11_19, tk_20⟩ := u_5
  have eu_5_0 := hp_6
  try dsimp only at eu_5_0
  subst eu_5_0
  have hP : zP G [(q_4, .inr (5, [.ref m0_8, .ref m1_9, .ref m2_10, .ref m3_11, .ref m4_12, .ref m5_13, .ref m6_14, .ref m7_15, .ref m8_16, .ref m9_17, .ref m10_18, .ref m11_19, .int 0, .int 0, .int 0, .int 0, .int 0])), (m0_8, .inl (G.2.1 0, 8, .inl f_X3_init_tk)), (m1_9, .inl (G.2.1 0, 20, .inl (fun _ => 0))), (m2_10, .inl (G.2.1 0, 20, .inl (fun _ => 0))), (m3_11, .inl (G.2.1 0, 20, .inl (fun _ => 0))), (m4_12, .inl (G.2.1 0, 20, .inl (fun _ => 0))), (m5_13, .inl (G.2.1 0, 20, .inl (fun _ => 0))), (m6_14, .inl (G.2.1 0, 20, .inl (fun _ => 0))), (m7_15, .inl (G.2.1 0, 20, .inl (fun _ => 0))), (m8_16, .inl (G.2.1 0, 20, .inl (fun _ => 0))), (m9_17, .inl (G.2.1 0, 20, .inl (fun _ => 0))), (m10_18, .inl (G.2.1 0, 20, .inl (fun _ => 0))), (m11_19, .inl (G.2.1 0, 80, .inl (fun _ => 0))), (q_1, .inr (4, [.ref xb_0, .ref te_1, .int 0, .int 0, .int 0, .int 0])), (xb_0, .inl (G.2.1 3, 20, .inr (.inr (.inr (.inr (fun _ => none)))))), (te_1, .inr (3, [.ref a0_2, .ref a1_3, .ref a2_4, .ref a3_5, .ref a4_6, .int 0, .ref fo_7])), (a0_2, .inl (G.2.1 0, 512, .inl (fun _ => 0))), (a1_3, .inl (G.2.1 0, 512, .inl (fun _ => 0))), (a2_4, .inl (G.2.1 0, 512, .inl (fun _ => 0))), (a3_5, .inl (G.2.1 0, 512, .inl (fun _ => 0))), (a4_6, .inl (G.2.1 0, 512, .inl (fun _ => 0))), (fo_7, .inl (G.2.1 0, 20, .inl (fun _ => 0)))] H := hP
  have hD : va_D A [(q_4, .inr (5, [.ref m0_8, .ref m1_9, .ref m2_10, .ref m3_11, .ref m4_12, .ref m5_13, .ref m6_14, .ref m7_15, .ref m8_16, .ref m9_17, .ref m10_18, .ref m11_19, .int 0, .int 0, .int 0, .int 0, .int 0])), (m0_8, .inl (G.2.1 0, 8, .inl f_X3_init_tk)), (m1_9, .inl (G.2.1 0, 20, .inl (fun _ => 0))), (m2_10, .inl (G.2.1 0, 20, .inl (fun _ => 0))), (m3_11, .inl (G.2.1 0, 20, .inl (fun _ => 0))), (m4_12, .inl (G.2.1 0, 20, .inl (fun _ => 0))), (m5_13, .inl (G.2.1 0, 20, .inl (fun _ => 0))), (m6_14, .inl (G.2.1 0, 20, .inl (fun _ => 0))), (m7_15, .inl (G.2.1 0, 20, .inl (fun _ => 0))), (m8_16, .inl (G.2.1 0, 20, .inl (fun _ => 0))), (m9_17, .inl (G.2.1 0, 20, .inl (fun _ => 0))), (m10_18, .inl (G.2.1 0, 20, .inl (fun _ => 0))), (m11_19, .inl (G.2.1 0, 80, .inl (fun _ => 0))), (q_1, .inr (4, [.ref xb_0, .ref te_1, .int 0, .int 0, .int 0, .int 0])), (xb_0, .inl (G.2.1 3, 20, .inr (.inr (.inr (.inr (fun _ => none)))))), (te_1, .inr (3, [.ref a0_2, .ref a1_3, .ref a2_4, .ref a3_5, .ref a4_6, .int 0, .ref fo_7])), (a0_2, .inl (G.2.1 0, 512, .inl (fun _ => 0))), (a1_3, .inl (G.2.1 0, 512, .inl (fun _ => 0))), (a2_4, .inl (G.2.1 0, 512, .inl (fun _ => 0))), (a3_5, .inl (G.2.1 0, 512, .inl (fun _ => 0))), (a4_6, .inl (G.2.1 0, 512, .inl (fun _ => 0))), (fo_7, .inl (G.2.1 0, 20, .inl (fun _ => 0)))] := hD
  refine lv_astore_n (lv' := [(2, .ref q_4), (1, .ref q_1), (0, .ref b)]) hx hb dL_law_15 rfl hl (by decide) rfl (fun ls hl => ?_)
  refine lv_iconst (v := 1) hx hb dL_law_16 (by decide) ?_
  refine zNewl (N := 1) hx hb (hts (.arrayClass .long) (List.mem_of_getElem? (i := 6) (by decide +kernel))) hK hP hD hS hA (by decide) (by decide) (by decide) (Nat.le_of_ble_eq_true rfl) (Nat.le_of_ble_eq_true rfl) dL_law_17 (fun q_7 H hP hD hS => ?_)
  have hP : zP G [(q_4, .inr (5, [.ref m0_8, .ref m1_9, .ref m2_10, .ref m3_11, .ref m4_12, .ref m5_13, .ref m6_14, .ref m7_15, .ref m8_16, .ref m9_17, .ref m10_18, .ref m11_19, .int 0, .int 0, .int 0, .int 0, .int 0])), (m0_8, .inl (G.2.1 0, 8, .inl f_X3_init_tk)), (m1_9, .inl (G.2.1 0, 20, .inl (fun _ => 0))), (m2_10, .inl (G.2.1 0, 20, .inl (fun _ => 0))), (m3_11, .inl (G.2.1 0, 20, .inl (fun _ => 0))), (m4_12, .inl (G.2.1 0, 20, .inl (fun _ => 0))), (m5_13, .inl (G.2.1 0, 20, .inl (fun _ => 0))), (m6_14, .inl (G.2.1 0, 20, .inl (fun _ => 0))), (m7_15, .inl (G.2.1 0, 20, .inl (fun _ => 0))), (m8_16, .inl (G.2.1 0, 20, .inl (fun _ => 0))), (m9_17, .inl (G.2.1 0, 20, .inl (fun _ => 0))), (m10_18, .inl (G.2.1 0, 20, .inl (fun _ => 0))), (m11_19, .inl (G.2.1 0, 80, .inl (fun _ => 0))), (q_1, .inr (4, [.ref xb_0, .ref te_1, .int 0, .int 0, .int 0, .int 0])), (xb_0, .inl (G.2.1 3, 20, .inr (.inr (.inr (.inr (fun _ => none)))))), (te_1, .inr (3, [.ref a0_2, .ref a1_3, .ref a2_4, .ref a3_5, .ref a4_6, .int 0, .ref fo_7])), (a0_2, .inl (G.2.1 0, 512, .inl (fun _ => 0))), (a1_3, .inl (G.2.1 0, 512, .inl (fun _ => 0))), (a2_4, .inl (G.2.1 0, 512, .inl (fun _ => 0))), (a3_5, .inl (G.2.1 0, 512, .inl (fun _ => 0))), (a4_6, .inl (G.2.1 0, 512, .inl (fun _ => 0))), (fo_7, .inl (G.2.1 0, 20, .inl (fun _ => 0))), (q_7, .inl (G.2.1 2, 1, .inr (.inl (fun _ => 0))))] H := hP
  have hD : va_D A [(q_4, .inr (5, [.ref m0_8, .ref m1_9, .ref m2_10, .ref m3_11, .ref m4_12, .ref m5_13, .ref m6_14, .ref m7_15, .ref m8_16, .ref m9_17, .ref m10_18, .ref m11_19, .int 0, .int 0, .int 0, .int 0, .int 0])), (m0_8, .inl (G.2.1 0, 8, .inl f_X3_init_tk)), (m1_9, .inl (G.2.1 0, 20, .inl (fun _ => 0))), (m2_10, .inl (G.2.1 0, 20, .inl (fun _ => 0))), (m3_11, .inl (G.2.1 0, 20, .inl (fun _ => 0))), (m4_12, .inl (G.2.1 0, 20, .inl (fun _ => 0))), (m5_13, .inl (G.2.1 0, 20, .inl (fun _ => 0))), (m6_14, .inl (G.2.1 0, 20, .inl (fun _ => 0))), (m7_15, .inl (G.2.1 0, 20, .inl (fun _ => 0))), (m8_16, .inl (G.2.1 0, 20, .inl (fun _ => 0))), (m9_17, .inl (G.2.1 0, 20, .inl (fun _ => 0))), (m10_18, .inl (G.2.1 0, 20, .inl (fun _ => 0))), (m11_19, .inl (G.2.1 0, 80, .inl (fun _ => 0))), (q_1, .inr (4, [.ref xb_0, .ref te_1, .int 0, .int 0, .int 0, .int 0])), (xb_0, .inl (G.2.1 3, 20, .inr (.inr (.inr (.inr (fun _ => none)))))), (te_1, .inr (3, [.ref a0_2, .ref a1_3, .ref a2_4, .ref a3_5, .ref a4_6, .int 0, .ref fo_7])), (a0_2, .inl (G.2.1 0, 512, .inl (fun _ => 0))), (a1_3, .inl (G.2.1 0, 512, .inl (fun _ => 0))), (a2_4, .inl (G.2.1 0, 512, .inl (fun _ => 0))), (a3_5, .inl (G.2.1 0, 512, .inl (fun _ => 0))), (a4_6, .inl (G.2.1 0, 512, .inl (fun _ => 0))), (fo_7, .inl (G.2.1 0, 20, .inl (fun _ => 0))), (q_7, .inl (G.2.1 2, 1, .inr (.inl (fun _ => 0))))] := hD
  refine lv_astore_n (lv' := [(3, .ref q_7), (2, .ref q_4), (1, .ref q_1), (0, .ref b)]) hx hb dL_law_19 rfl hl (by decide) rfl (fun ls hl => ?_)
  refine lv_iconst (v := 0) hx hb dL_law_20 (by decide) ?_
  refine lv_istore (lv' := [(4, .int 0), (3, .ref q_7), (2, .ref q_4), (1, .ref q_1), (0, .ref b)]) hx hb dL_law_21 hl (by decide) rfl (fun ls hl => ?_)
  have hP := zP.perm (z_pick [13, 14, 15, 16, 17, 18, 19, 20, 21, 22, 0, 1, 2, 3, 4, 5, 6, 7, 8, 9, 10, 11, 12] [] (n := 23) rfl (by decide) rfl rfl) hP
  have hD := zD.perm (z_pick [13, 14, 15, 16, 17, 18, 19, 20, 21, 22, 0, 1, 2, 3, 4, 5, 6, 7, 8, 9, 10, 11, 12] [] (n := 23) rfl (by decide) rfl rfl) hD
  have hR0 : zRl G 0 0 0 0 0 0 0 0 0 0 (fun _ => none) (fun _ => 0) (fun _ => 0) (fun _ => 0) (fun _ => 0) (fun _ => 0) (fun _ => ((0, 0, 0, 0, 0, 0, 0, 0, 0, 0, 0) : ZB)) (fun _ _ => 0) (fun _ => []) f_X3_init_tk (fun _ => 0) (fun _ => 0) (fun _ => 0) (fun _ => 0) (fun _ => 0) (fun _ => 0) (fun _ => 0) (fun _ => 0) (fun _ => 0) (fun _ => 0) (fun _ => 0) := by
    refine ⟨⟨by decide, Nat.le_refl 0, ⟨0, by decide, nI_0.symm⟩, nI_0.symm, rfl, rfl, rfl⟩, fun i hi => absurd hi (by omega), fun i hi => absurd hi (by omega), fun i _ => ⟨rfl, rfl, rfl, rfl, fun c _ => rfl⟩, fun t ht => Or.inl ⟨?_, fun i hi => absurd hi (by omega)⟩, fun ff i hi => absurd hi (by omega)⟩
    rcases (by omega : t = 0 ∨ t = 1 ∨ t = 2 ∨ t = 3 ∨ t = 4 ∨ t = 5 ∨ t = 6 ∨ t = 7) with rfl | rfl | rfl | rfl | rfl | rfl | rfl | rfl <;> decide
  refine W.widen (k := 23) (n := 2919) (by omega) (by omega) ?_
  exact z_loop (ad := (fun k => match k with
    | 0 => q_1
    | 1 => xb_0
    | 2 => te_1
    | 3 => a0_2
    | 4 => a1_3
    | 5 => a2_4
    | 6 => a3_5
    | 7 => a4_6
    | 8 => fo_7
    | 9 => q_7
    | 10 => q_4
    | 11 => m0_8
    | 12 => m1_9
    | 13 => m2_10
    | 14 => m3_11
    | 15 => m4_12
    | 16 => m5_13
    | 17 => m6_14
    | 18 => m7_15
    | 19 => m8_16
    | 20 => m9_17
    | 21 => m10_18
    | _ => m11_19)) hl9 hx hb hml hown hts hX hbl hbA hK hE hA hL fin 512 0 (by omega) (by omega) 0 0 0 0 0 0 0 0 0 0 (fun _ => none) (fun _ => 0) (fun _ => 0) (fun _ => 0) (fun _ => 0) (fun _ => 0) (fun _ => 0) (fun _ => 0) f_X3_init_tk (fun _ => 0) (fun _ => 0) (fun _ => 0) (fun _ => 0) (fun _ => 0) (fun _ => 0) (fun _ => 0) (fun _ => 0) (fun _ => 0) (fun _ => 0) (fun _ => 0) (fun _ => ((0, 0, 0, 0, 0, 0, 0, 0, 0, 0, 0) : ZB)) (fun _ _ => 0) (fun _ => []) hR0 _ _ _ 23 2919 (by omega) (by omega) hP hD hS (lv_sub hl [4, 3, 2, 1, 0] rfl)
