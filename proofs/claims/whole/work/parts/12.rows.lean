/-! ===== rows with numbers as places ===== -/
theorem z_in {x y : Int32} {n : Nat} (hn : n < 2 ^ 31) (hy : y = nI n) (h0 : ¬ x < 0) (h1 : x < y) : vp_in x n := by
  obtain ⟨j, hj, rfl⟩ := nI_of h0
  subst hy
  exact vp_in_nI ((nI_ltI hj hn).mp h1) hn
theorem z_in' {x y : Int32} {n : Nat} (hn : n < 2 ^ 31) (hy : y = nI n) (h0 : 0 ≤ x) (h1 : x < y) : vp_in x n := z_in hn hy (Int32.not_lt.mpr h0) h1
theorem zSw8 (x : Int32) : x = 0 ∨ x = 1 ∨ x = 2 ∨ x = 3 ∨ x = 4 ∨ x = 5 ∨ x = 6 ∨ x = 7 ∨ x = 8 ∨ (x.toInt < 0 ∨ 8 < x.toInt) := by
  simp only [← Int32.toInt_inj]
  have e : (0 : Int32).toInt = 0 ∧ (1 : Int32).toInt = 1 ∧ (2 : Int32).toInt = 2 ∧ (3 : Int32).toInt = 3 ∧ (4 : Int32).toInt = 4 ∧ (5 : Int32).toInt = 5 ∧ (6 : Int32).toInt = 6 ∧ (7 : Int32).toInt = 7 ∧ (8 : Int32).toInt = 8 := by decide
  omega
theorem zSwn {x : Int32} {h : Int} (co : x.toInt < 0 ∨ h < x.toInt) (j : Int32) (hj : 0 ≤ j.toInt ∧ j.toInt ≤ h) : ¬ x = j := by
  rintro rfl
  omega
section ZA
variable {p : Program} {l : Launch} {e : Env} {R : Room} {s : State} {m : MethodId} {args : Array Value} {below : List Frame} {meth : Method} {c : Code} {H : Heap} {locs : List Loc} {cells slots : Nat} {Q : State → Prop}
variable {cc : ByteArray} {pc a : Nat} {ls : Array Slot} {rest : List Value} {G : zG} {A : Nat → Prop} {ws : va_W}
theorem zTop {x v : Int32} (hv : x = v) (k : W p l e R s m args below meth c H locs cells slots Q (F0 m pc ls (.int v :: rest))) : W p l e R s m args below meth c H locs cells slots Q (F0 m pc ls (.int x :: rest)) := by
  rw [hv]; exact k
theorem zIald (hx : p.tables.exec = Jvm.exec) (hb : c.code = cc) (hK : zK G s) (hP : zP G ws H) (q0 : Nat) {n : Nat} {f : Nat → Int32} (ha : ws[q0]? = some (a, .inl (G.2.1 0, n, .inl f))) {i : Int32} (j : Nat) (hi : i = nI j) (hj : j < n) (hn : n < 2 ^ 31) (d : decode cc pc = .ok (.iaload, 1))
    (kk : W p l e R s m args below meth c H locs cells slots Q (F0 m (pc + 1) ls (.int (f j) :: rest))) : W p l e R s m args below meth c H locs cells slots Q (F0 m pc ls (.int i :: .ref a :: rest)) := by
  subst hi
  refine va_iald hx hb hK hP q0 0 ha rfl (vp_in_nI hj hn) d ?_
  rw [nI_clamp (by omega)]
  exact kk
theorem zBald (hx : p.tables.exec = Jvm.exec) (hb : c.code = cc) (hK : zK G s) (hP : zP G ws H) (q0 : Nat) {n : Nat} {f : Nat → Int32} (ha : ws[q0]? = some (a, .inl (G.2.1 1, n, .inl f))) {i : Int32} (j : Nat) (hi : i = nI j) (hj : j < n) (hn : n < 2 ^ 31) (d : decode cc pc = .ok (.baload, 1))
    (kk : W p l e R s m args below meth c H locs cells slots Q (F0 m (pc + 1) ls (.int (f j) :: rest))) : W p l e R s m args below meth c H locs cells slots Q (F0 m pc ls (.int i :: .ref a :: rest)) := by
  subst hi
  refine va_bald hx hb hK hP q0 1 ha rfl (vp_in_nI hj hn) d ?_
  rw [nI_clamp (by omega)]
  exact kk
theorem zIast (hx : p.tables.exec = Jvm.exec) (hb : c.code = cc) (hK : zK G s) (hP : zP G ws H) (hD : va_D A ws) (hS : va_S A s.heap H locs) (q0 : Nat) {n : Nat} {f : Nat → Int32} (ha : ws[q0]? = some (a, .inl (G.2.1 0, n, .inl f))) {i x : Int32} (j : Nat) (hi : i = nI j) (hj : j < n) (hn : n < 2 ^ 31) (d : decode cc pc = .ok (.iastore, 1))
    (kk : ∀ (H1 : Heap) (locs1 : List Loc), zP G (ws.set q0 (a, .inl (G.2.1 0, n, .inl (upd f j x)))) H1 → va_D A (ws.set q0 (a, .inl (G.2.1 0, n, .inl (upd f j x)))) → va_S A s.heap H1 locs1 → W p l e R s m args below meth c H1 locs1 cells slots Q (F0 m (pc + 1) ls rest)) : W p l e R s m args below meth c H locs cells slots Q (F0 m pc ls (.int x :: .int i :: .ref a :: rest)) := by
  subst hi
  have e : (nI j).toNatClampNeg = j := nI_clamp (by omega)
  refine va_iast hx hb hK hP hD hS q0 0 ha rfl (vp_in_nI hj hn) d ?_
  rw [e]
  exact kk
theorem zBast (hx : p.tables.exec = Jvm.exec) (hb : c.code = cc) (hK : zK G s) (hP : zP G ws H) (hD : va_D A ws) (hS : va_S A s.heap H locs) (q0 : Nat) {n : Nat} {f : Nat → Int32} (ha : ws[q0]? = some (a, .inl (G.2.1 1, n, .inl f))) {i x y : Int32} (j : Nat) (hi : i = nI j) (hj : j < n) (hn : n < 2 ^ 31) (hy : vp_nar .byte x = y) (d : decode cc pc = .ok (.bastore, 1))
    (kk : ∀ (H1 : Heap) (locs1 : List Loc), zP G (ws.set q0 (a, .inl (G.2.1 1, n, .inl (upd f j y)))) H1 → va_D A (ws.set q0 (a, .inl (G.2.1 1, n, .inl (upd f j y)))) → va_S A s.heap H1 locs1 → W p l e R s m args below meth c H1 locs1 cells slots Q (F0 m (pc + 1) ls rest)) : W p l e R s m args below meth c H locs cells slots Q (F0 m pc ls (.int x :: .int i :: .ref a :: rest)) := by
  subst hi
  subst hy
  have e : (nI j).toNatClampNeg = j := nI_clamp (by omega)
  refine va_bast hx hb hK hP hD hS q0 1 ha rfl (vp_in_nI hj hn) d ?_
  rw [e]
  exact kk
/-- a static table of ints, of bytes -/
theorem zTi (hx : p.tables.exec = Jvm.exec) (hb : c.code = cc) {t n : Nat} {f : Nat → Int32} (hT : va_T .int t n (fun j => .int (f j)) A s s.heap) (hS : va_S A s.heap H locs) {i : Int32} (j : Nat) (hi : i = nI j) (hj : j < n) (hn : n < 2 ^ 31) (d : decode cc pc = .ok (.iaload, 1))
    (kk : W p l e R s m args below meth c H locs cells slots Q (F0 m (pc + 1) ls (.int (f j) :: rest))) : W p l e R s m args below meth c H locs cells slots Q (F0 m pc ls (.int i :: .ref t :: rest)) := by
  subst hi
  refine va_ti hx hb hT hS (vp_in_nI hj hn) (v := .int (f j)) ?_ d kk
  rw [nI_clamp (by omega)]
theorem zTb (hx : p.tables.exec = Jvm.exec) (hb : c.code = cc) {t n : Nat} {f : Nat → Int32} (hT : va_T .byte t n (fun j => .int (f j)) A s s.heap) (hS : va_S A s.heap H locs) {i : Int32} (j : Nat) (hi : i = nI j) (hj : j < n) (hn : n < 2 ^ 31) (d : decode cc pc = .ok (.baload, 1))
    (kk : W p l e R s m args below meth c H locs cells slots Q (F0 m (pc + 1) ls (.int (f j) :: rest))) : W p l e R s m args below meth c H locs cells slots Q (F0 m pc ls (.int i :: .ref t :: rest)) := by
  subst hi
  refine va_tb hx hb hT hS (vp_in_nI hj hn) (v := .int (f j)) ?_ d kk
  rw [nI_clamp (by omega)]
/-- references to Brews -/
theorem zQald (hx : p.tables.exec = Jvm.exec) (hb : c.code = cc) (hK : zK G s) (hP : zP G ws H) (q0 : Nat) {n : Nat} {f : Nat → Option Nat} (ha : ws[q0]? = some (a, .inl (G.2.1 3, n, .inr (.inr (.inr (.inr f)))))) {i : Int32} (j : Nat) (hi : i = nI j) (hj : j < n) (hn : n < 2 ^ 31) {h : Nat} (hf : f j = some h) (d : decode cc pc = .ok (.aaload, 1))
    (kk : W p l e R s m args below meth c H locs cells slots Q (F0 m (pc + 1) ls (.ref h :: rest))) : W p l e R s m args below meth c H locs cells slots Q (F0 m pc ls (.int i :: .ref a :: rest)) := by
  subst hi
  refine va_aldq hx hb hK hP q0 3 ha rfl (vp_in_nI hj hn) d ?_
  rw [nI_clamp (by omega), hf]
  exact kk
theorem zQast (hx : p.tables.exec = Jvm.exec) (hb : c.code = cc) (hK : zK G s) (hP : zP G ws H) (hD : va_D A ws) (hS : va_S A s.heap H locs) (q0 qk : Nat) {n v : Nat} {vs : List Value} {f : Nat → Option Nat} (ha : ws[q0]? = some (a, .inl (G.2.1 3, n, .inr (.inr (.inr (.inr f)))))) (hv : ws[qk]? = some (v, .inr (2, vs))) {i : Int32} (j : Nat) (hi : i = nI j) (hj : j < n) (hn : n < 2 ^ 31) (d : decode cc pc = .ok (.aastore, 1))
    (kk : ∀ (H1 : Heap) (locs1 : List Loc), zP G (ws.set q0 (a, .inl (G.2.1 3, n, .inr (.inr (.inr (.inr (va_up f j (some v)))))))) H1 → va_D A (ws.set q0 (a, .inl (G.2.1 3, n, .inr (.inr (.inr (.inr (va_up f j (some v)))))))) → va_S A s.heap H1 locs1 → W p l e R s m args below meth c H1 locs1 cells slots Q (F0 m (pc + 1) ls rest)) : W p l e R s m args below meth c H locs cells slots Q (F0 m pc ls (.ref v :: .int i :: .ref a :: rest)) := by
  subst hi
  have e : (nI j).toNatClampNeg = j := nI_clamp (by omega)
  refine va_astq hx hb hK hP hD hS q0 3 qk 2 (r := (RX0, TX0, 10)) ha rfl hv rfl (vp_in_nI hj hn) d ?_
  rw [e]
  exact kk
theorem zNewq (hx : p.tables.exec = Jvm.exec) (hb : c.code = cc) {own : String} {index : Nat} (hown : s.vm.findClass own = some m.cls) (hk : (Cond.classLink own index "Cellarscheduler$Brew").before args s = true) (hE : zE G A s s.heap) (hK : zK G s) (hP : zP G ws H) (hD : va_D A ws) (hS : va_S A s.heap H locs) (hA : ∀ q : Nat, s.heap.size ≤ q → A q) {n : Int32} {N : Nat} (hn : ¬ n < 0) (hN : n.toNatClampNeg = N) (hbytes : N * 4 ≤ 536870912) (hcells : cells + 1 ≤ R.cells) (hslots : slots + N ≤ R.slots) (d : decode cc pc = .ok (.anewarray index, 3))
    (kk : ∀ (q : Nat) (H1 : Heap), zP G (ws ++ [(q, .inl (G.2.1 3, N, .inr (.inr (.inr (.inr (fun _ => none))))))]) H1 → va_D A (ws ++ [(q, .inl (G.2.1 3, N, .inr (.inr (.inr (.inr (fun _ => none))))))]) → va_S A s.heap H1 locs → W p l e R s m args below meth c H1 locs (cells + 1) (slots + N) Q (F0 m (pc + 3) ls (.ref q :: rest))) : W p l e R s m args below meth c H locs cells slots Q (F0 m pc ls (.int n :: rest)) := by
  refine va_newq hx hb hown hk hE.2.1 hK hP hD hS hA hn hN hbytes hcells hslots d (fun q cA H1 hK1 hP1 hD1 hS1 => ?_)
  obtain ⟨kA, comp, -, -, -, h1⟩ := (hK1.2 4 _ rfl).2
  obtain ⟨kB, comp2, -, -, -, h2⟩ := (hK.2 3 _ rfl).2
  obtain rfl : cA = G.2.1 3 := Option.some.inj (h1.symm.trans h2)
  exact kk q H1 hP1 hD1 hS1
/-- a new row of ints, of bytes, of longs -/
theorem z_ci {s : State} {G : zG} (hK : zK G s) (k : Nat) {c2 : ClassId} {ty : FieldType} (hk : (zT G)[k]? = some (G.2.1 k, ty)) (h : s.vm.findClass ("[" ++ ty.toString) = some c2) (h2 : s.vm.findClass ("[" ++ ty.toString) = some (G.2.1 k)) : c2 = G.2.1 k := Option.some.inj (h.symm.trans h2)
theorem zNewi (hx : p.tables.exec = Jvm.exec) (hb : c.code = cc) (harr : (Cond.arrayClass .int).before args s = true) (hK : zK G s) (hP : zP G ws H) (hD : va_D A ws) (hS : va_S A s.heap H locs) (hA : ∀ q : Nat, s.heap.size ≤ q → A q) {n : Int32} {N : Nat} (hn : ¬ n < 0) (hN : n.toNatClampNeg = N) (hbytes : N * 4 ≤ 536870912) (hcells : cells + 1 ≤ R.cells) (hslots : slots + N ≤ R.slots) (d : decode cc pc = .ok (.newarray .int, 2))
    (kk : ∀ (q : Nat) (H1 : Heap), zP G (ws ++ [(q, .inl (G.2.1 0, N, .inl (fun _ => 0)))]) H1 → va_D A (ws ++ [(q, .inl (G.2.1 0, N, .inl (fun _ => 0)))]) → va_S A s.heap H1 locs → W p l e R s m args below meth c H1 locs (cells + 1) (slots + N) Q (F0 m (pc + 2) ls (.ref q :: rest))) : W p l e R s m args below meth c H locs cells slots Q (F0 m pc ls (.int n :: rest)) := by
  refine va_newa (atype := .int) (ty := .int) (a0 := (N, .inl (fun _ => 0))) hx hb harr rfl hK hP hD hS hA (fun _ => rfl) hn hN hbytes hcells hslots d (fun q cA H1 hK1 hP1 hD1 hS1 => ?_)
  have h1 : s.vm.findClass "[I" = some cA := (hK1.2 4 _ rfl).2
  have h2 : s.vm.findClass "[I" = some (G.2.1 0) := (hK.2 0 _ rfl).2
  obtain rfl : cA = G.2.1 0 := Option.some.inj (h1.symm.trans h2)
  exact kk q H1 hP1 hD1 hS1
theorem zNewb (hx : p.tables.exec = Jvm.exec) (hb : c.code = cc) (harr : (Cond.arrayClass .byte).before args s = true) (hK : zK G s) (hP : zP G ws H) (hD : va_D A ws) (hS : va_S A s.heap H locs) (hA : ∀ q : Nat, s.heap.size ≤ q → A q) {n : Int32} {N : Nat} (hn : ¬ n < 0) (hN : n.toNatClampNeg = N) (hbytes : N * 1 ≤ 536870912) (hcells : cells + 1 ≤ R.cells) (hslots : slots + N ≤ R.slots) (d : decode cc pc = .ok (.newarray .byte, 2))
    (kk : ∀ (q : Nat) (H1 : Heap), zP G (ws ++ [(q, .inl (G.2.1 1, N, .inl (fun _ => 0)))]) H1 → va_D A (ws ++ [(q, .inl (G.2.1 1, N, .inl (fun _ => 0)))]) → va_S A s.heap H1 locs → W p l e R s m args below meth c H1 locs (cells + 1) (slots + N) Q (F0 m (pc + 2) ls (.ref q :: rest))) : W p l e R s m args below meth c H locs cells slots Q (F0 m pc ls (.int n :: rest)) := by
  refine va_newa (atype := .byte) (ty := .byte) (a0 := (N, .inl (fun _ => 0))) hx hb harr rfl hK hP hD hS hA (fun _ => rfl) hn hN hbytes hcells hslots d (fun q cA H1 hK1 hP1 hD1 hS1 => ?_)
  have h1 : s.vm.findClass "[B" = some cA := (hK1.2 4 _ rfl).2
  have h2 : s.vm.findClass "[B" = some (G.2.1 1) := (hK.2 1 _ rfl).2
  obtain rfl : cA = G.2.1 1 := Option.some.inj (h1.symm.trans h2)
  exact kk q H1 hP1 hD1 hS1
theorem zNewl (hx : p.tables.exec = Jvm.exec) (hb : c.code = cc) (harr : (Cond.arrayClass .long).before args s = true) (hK : zK G s) (hP : zP G ws H) (hD : va_D A ws) (hS : va_S A s.heap H locs) (hA : ∀ q : Nat, s.heap.size ≤ q → A q) {n : Int32} {N : Nat} (hn : ¬ n < 0) (hN : n.toNatClampNeg = N) (hbytes : N * 8 ≤ 536870912) (hcells : cells + 1 ≤ R.cells) (hslots : slots + N ≤ R.slots) (d : decode cc pc = .ok (.newarray .long, 2))
    (kk : ∀ (q : Nat) (H1 : Heap), zP G (ws ++ [(q, .inl (G.2.1 2, N, .inr (.inl (fun _ => 0))))]) H1 → va_D A (ws ++ [(q, .inl (G.2.1 2, N, .inr (.inl (fun _ => 0))))]) → va_S A s.heap H1 locs → W p l e R s m args below meth c H1 locs (cells + 1) (slots + N) Q (F0 m (pc + 2) ls (.ref q :: rest))) : W p l e R s m args below meth c H locs cells slots Q (F0 m pc ls (.int n :: rest)) := by
  refine va_newa (atype := .long) (ty := .long) (a0 := (N, .inr (.inl (fun _ => 0)))) hx hb harr rfl hK hP hD hS hA (fun _ => rfl) hn hN hbytes hcells hslots d (fun q cA H1 hK1 hP1 hD1 hS1 => ?_)
  have h1 : s.vm.findClass "[J" = some cA := (hK1.2 4 _ rfl).2
  have h2 : s.vm.findClass "[J" = some (G.2.1 2) := (hK.2 2 _ rfl).2
  obtain rfl : cA = G.2.1 2 := Option.some.inj (h1.symm.trans h2)
  exact kk q H1 hP1 hD1 hS1
/-- 'throw new E(text)' in Cellarscheduler -/
theorem zThrow {K : String → Prop} {Qc : Array Value → State → Outcome → State → Prop} {mc ms ik ic is : Nat} {cls text : String} {L9 : List Cond} (k : Nat) (hx : p.tables.exec = Jvm.exec) (hb : c.code = cc) (hl9 : l.stackTraces = false) (hown : s.vm.findClass RX2 = some m.cls) (hxt : ∀ x ∈ c.exceptionTable.toList, False) (hlocks : meth.locks = false) (hml : c.maxLocals = ls.size)
    (hE : zE G A s s.heap) (hS : va_S A s.heap H locs) (hcls : Bundle.fit cls = true) (hk : (Cond.classLink RX2 ik cls).before args s = true) (hini : (Cond.initialized cls).before args s = true) (hzx : zx[k]? = some (is, text)) (hL : L9 = vx_atS RX2 ic cls ["java/lang/RuntimeException", "java/lang/Exception"]) (hgd : ∀ w ∈ L9.filter goodWord, w.before args s = true)
    (hbd : ∀ w ∈ L9.filter (fun w => !goodWord w), w ∈ zw) (hot : ∀ w ∈ Cond.classLink RX2 ik cls :: Cond.initialized cls :: L9, vx_ot w = true)
    (d0 : decode cc pc = .ok (.new ik, 3)) (d3 : decode cc (pc + 3) = .ok (.dup, 1)) (d4 : decode cc (pc + 4) = .ok (.ldc is, 2)) (d6 : decode cc (pc + 6) = .ok (.invokespecial ic, 3)) (d9 : decode cc (pc + 9) = .ok (.athrow, 1))
    (hRf : 5 < R.frames) (hRl : (rest.map fun v => v.category).sum + 82 ≤ R.locals) (hRc : cells + 1 ≤ R.cells) (hRs : slots + 6 ≤ R.slots) (hKE : K cls) (hz1 : s.heap.size ≤ H.size) (hz2 : ∀ q : Nat, q < s.heap.size → H[q]? = s.heap[q]?) (hc : cells + 1 ≤ mc) (hs : slots + 6 ≤ ms) :
    W p l e R s m args below meth c H locs cells slots (vx_MQ below Qc (zX K) args s mc ms A) (F0 m pc ls rest) := by
  subst hL
  obtain ⟨sa, hsa⟩ := hE.2.2.2.2.2.2.2.2.2.2.2.2.2.2 _ (List.mem_of_getElem? hzx)
  refine vx_throwS hx hb hl9 hown hcls (by decide +kernel) hk hini hsa (vx_hat hgd hbd (fun w hw => zw_use (zw_ok w hw) (hE.1 w hw))) hot hE.2.2.2.2.2.2.2.2.2.2.1 hE.2.2.2.2.2.2.2.2.2.2.2.1 hS hml.symm d0 d3 d4 d6 d9 (fun x hx => (hxt x hx).elim) hRf hRl hRc hRs hlocks (fun t _ h1 h2 => ⟨hKE, Nat.le_trans hz1 h1, fun q hq => (h2 q (Nat.lt_of_lt_of_le hq hz1)).trans (hz2 q hq)⟩) hS.2.2 hc hs
/-- a counting loop: I k holds at its head with the counter at k; from k0 up to n -/
theorem zLoop (I : Nat → Heap → List Loc → Array Slot → Prop) (k0 n : Nat) (hle : k0 ≤ n)
    (step : ∀ k : Nat, k0 ≤ k → k < n → (∀ (H1 : Heap) (locs1 : List Loc) (ls1 : Array Slot), I (k + 1) H1 locs1 ls1 → W p l e R s m args below meth c H1 locs1 cells slots Q (F0 m pc ls1 [])) → ∀ (H1 : Heap) (locs1 : List Loc) (ls1 : Array Slot), I k H1 locs1 ls1 → W p l e R s m args below meth c H1 locs1 cells slots Q (F0 m pc ls1 []))
    (done : ∀ (H1 : Heap) (locs1 : List Loc) (ls1 : Array Slot), I n H1 locs1 ls1 → W p l e R s m args below meth c H1 locs1 cells slots Q (F0 m pc ls1 []))
    (H1 : Heap) (locs1 : List Loc) (ls1 : Array Slot) (h0 : I k0 H1 locs1 ls1) : W p l e R s m args below meth c H1 locs1 cells slots Q (F0 m pc ls1 []) := by
  have key : ∀ (d k : Nat), k0 ≤ k → k + d = n → ∀ (H1 : Heap) (locs1 : List Loc) (ls1 : Array Slot), I k H1 locs1 ls1 → W p l e R s m args below meth c H1 locs1 cells slots Q (F0 m pc ls1 []) := by
    intro d
    induction d with
    | zero =>
      intro k hk hd H1 locs1 ls1 h
      obtain rfl : k = n := by omega
      exact done H1 locs1 ls1 h
    | succ d ih =>
      intro k hk hd H1 locs1 ls1 h
      exact step k hk (by omega) (fun H2 locs2 ls2 h2 => ih (k + 1) (by omega) (by omega) H2 locs2 ls2 h2) H1 locs1 ls1 h
  exact key (n - k0) k0 (Nat.le_refl _) (by omega) H1 locs1 ls1 h0
end ZA
theorem z_one {α : Type} {l : List α} {a : α} (h : a ∈ l) : ∃ r, l.Perm ([a] ++ r) := by
  obtain ⟨s, t, rfl⟩ := List.append_of_mem h
  exact ⟨s ++ t, List.perm_middle⟩
