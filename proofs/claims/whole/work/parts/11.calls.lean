/-! ===== a method's start and end; calls ===== -/
/-- a method's start: its arguments, its world, what stays -/
def zPc (G : zG) (av : List Value) (ws : va_W) (sz : Nat) : Array Value → State → Prop := va_Pc av (fun U => U.heap.size = sz ∧ zP G ws U.heap ∧ zK G U ∧ va_D (fun _ => True) ws ∧ zE G (va_A ws sz) U U.heap)
theorem zPc.blind {G : zG} {av : List Value} {ws : va_W} {sz : Nat} : FrameBlind (zPc G av ws sz) := by
  intro a U g mk q
  obtain ⟨q0, q1, qP, qK, qD, qE⟩ := q
  exact ⟨q0, q1, qP, va_K.moved (u := U) (U := U.calling g mk a) (Vm.Alike.refl U.vm) qK, qD, (zE.same (u := U) (U := U.calling g mk a) (H := U.heap) rfl qE : zE G (va_A ws sz) (U.calling g mk a) U.heap)⟩
/-- ends: an int, nothing, a reference (its address a part of u); the world w1 u -/
def zQi (G : zG) {S : Type} (post : Int32 → S → Prop) (w1 : S → va_W) (A : Nat → Prop) : Array Value → State → Outcome → State → Prop := va_Qi post (fun u t => zP G (w1 u) t.heap ∧ zK G t ∧ va_D A (w1 u)) A
def zQv (G : zG) {S : Type} (post : S → Prop) (w1 : S → va_W) (A : Nat → Prop) : Array Value → State → Outcome → State → Prop := va_Qv post (fun u t => zP G (w1 u) t.heap ∧ zK G t ∧ va_D A (w1 u)) A
def zQr (G : zG) {S : Type} (post : S → Prop) (w1 : S → va_W) (ad : S → Nat) (A : Nat → Prop) : Array Value → State → Outcome → State → Prop := va_Qr post (fun u a t => a = ad u ∧ zP G (w1 u) t.heap ∧ zK G t ∧ va_D A (w1 u)) A
/-- an exception: which one; nothing that was there has changed -/
def zX (K : String → Prop) : String → State → State → Prop := fun E st t => K E ∧ st.heap.size ≤ t.heap.size ∧ ∀ q : Nat, q < st.heap.size → t.heap[q]? = st.heap[q]?
section ZS
variable {l : Launch} {y : MethodName} {ws ws' : List Cond} {rm : Room} {G : zG} {av : List Value} {w : va_W} {sz mc ms : Nat} {cc : ByteArray} {maxL : Nat} {ret : Option FieldType}
theorem zOfW {Qc : (Nat → Prop) → Array Value → State → Outcome → State → Prop} {fr : (Nat → Prop) → Addr → Prop} (hy : plainName y.cls = true) (hw : ws = Cond.code y cc maxL ret :: ws') (hn : (lg_sl av).length ≤ maxL)
    (body : ∀ (p : Program) (e : Env) (s : State) (m : MethodId) (below : List Frame) (meth : Method) (c : Code), p.tables.exec = Jvm.exec → c.code = cc → c.maxLocals = maxL → meth.sig.returnType = ret → meth.locks = false → s.vm.findClass y.cls = some m.cls → meth.name = y.name → (∀ w ∈ ws, w.before av.toArray s = true) →
      ∀ A : Nat → Prop, zP G w s.heap → zK G s → va_D A w → zE G A s s.heap → (∀ q : Nat, s.heap.size ≤ q → A q) → va_S A s.heap s.heap [] → ∀ ls : Array Slot, lv_has ls maxL (lv_args 0 av) →
      W p l e (headSpec ws rm).room s m av.toArray below meth c s.heap [] 0 0 (MQ below (Qc A) av.toArray s mc ms (fr A)) (F0 m 0 ls [])) : Met l y ws rm (zPc G av w sz) (Qc (va_A w sz)) mc ms (fr (va_A w sz)) := by
  refine Met.ofW hy hw ?_
  intro p e s m args below meth c s₁ B hml hv
  obtain ⟨rfl, hsz, hP, hK, hD0, hE⟩ := hv
  subst hsz
  have hl := lv_entry av hn
  rw [lg_entry_eq]
  exact body p e s m below meth c B.exec B.bytes hml B.returns B.notSynchronized (findClass_of_methodNamed B.named) (name_of_methodNamed B.named B.method).1 (atoms_spec B.pre) _ hP hK hD0.self hE (fun q h => Or.inr h) va_S.rf _ hl
theorem zOfX {Qc : (Nat → Prop) → Array Value → State → Outcome → State → Prop} {fr : (Nat → Prop) → Addr → Prop} {XC : String → State → State → Prop} (hy : plainName y.cls = true) (hw : ws = Cond.code y cc maxL ret :: ws') (hn : (lg_sl av).length ≤ maxL)
    (body : ∀ (p : Program) (e : Env) (s : State) (m : MethodId) (below : List Frame) (meth : Method) (c : Code), p.tables.exec = Jvm.exec → c.code = cc → c.maxLocals = maxL → meth.sig.returnType = ret → meth.locks = false → s.vm.findClass y.cls = some m.cls → meth.name = y.name → (∀ w ∈ ws, w.before av.toArray s = true) →
      ∀ A : Nat → Prop, zP G w s.heap → zK G s → va_D A w → zE G A s s.heap → (∀ q : Nat, s.heap.size ≤ q → A q) → va_S A s.heap s.heap [] → (∀ x ∈ c.exceptionTable.toList, False) → ∀ ls : Array Slot, lv_has ls maxL (lv_args 0 av) →
      W p l e (headSpec ws rm).room s m av.toArray below meth c s.heap [] 0 0 (vx_MQ below (Qc A) XC av.toArray s mc ms (fr A)) (F0 m 0 ls [])) : vx_Met l y ws rm (zPc G av w sz) (Qc (va_A w sz)) XC mc ms (fr (va_A w sz)) := by
  refine vx_ofW hy hw ?_
  intro p e s m args below meth c s₁ B hml hxt hv
  obtain ⟨rfl, hsz, hP, hK, hD0, hE⟩ := hv
  subst hsz
  have hl := lv_entry av hn
  rw [lg_entry_eq]
  exact body p e s m below meth c B.exec B.bytes hml B.returns B.notSynchronized (findClass_of_methodNamed B.named) (name_of_methodNamed B.named B.method).1 (atoms_spec B.pre) _ hP hK hD0.self hE (fun q h => Or.inr h) va_S.rf hxt _ hl
theorem zOfH {Qc : (Nat → Prop) → Array Value → State → Outcome → State → Prop} {fr : (Nat → Prop) → Addr → Prop} {XC : String → State → State → Prop} {hh : List (Nat × Nat × Nat × Nat)} (hy : plainName y.cls = true) (hw : ws = Cond.codeWith y cc maxL ret hh :: ws') (hn : (lg_sl av).length ≤ maxL)
    (body : ∀ (p : Program) (e : Env) (s : State) (m : MethodId) (below : List Frame) (meth : Method) (c : Code), p.tables.exec = Jvm.exec → c.code = cc → c.maxLocals = maxL → meth.sig.returnType = ret → meth.locks = false → s.vm.findClass y.cls = some m.cls → meth.name = y.name → (∀ w ∈ ws, w.before av.toArray s = true) →
      ∀ A : Nat → Prop, zP G w s.heap → zK G s → va_D A w → zE G A s s.heap → (∀ q : Nat, s.heap.size ≤ q → A q) → va_S A s.heap s.heap [] → c.exceptionTable.toList = tableOf hh → ∀ ls : Array Slot, lv_has ls maxL (lv_args 0 av) →
      W p l e (headSpec ws rm).room s m av.toArray below meth c s.heap [] 0 0 (vx_MQ below (Qc A) XC av.toArray s mc ms (fr A)) (F0 m 0 ls [])) : vx_Met l y ws rm (zPc G av w sz) (Qc (va_A w sz)) XC mc ms (fr (va_A w sz)) := by
  refine vx_ofWH hy hw ?_
  intro p e s m args below meth c s₁ B hml hv
  obtain ⟨rfl, hsz, hP, hK, hD0, hE⟩ := hv
  subst hsz
  have hl := lv_entry av hn
  rw [lg_entry_eq]
  have hts := atoms_spec (ws := ws) B.pre
  exact body p e s m below meth c B.exec B.bytes hml B.returns B.notSynchronized (findClass_of_methodNamed B.named) (name_of_methodNamed B.named B.method).1 hts _ hP hK hD0.self hE (fun q h => Or.inr h) va_S.rf (vx_table (x := y) B (hts _ (by rw [hw]; exact List.mem_cons_self))) _ hl
end ZS
theorem z_leftD {A : Nat → Prop} {w1 w2 : va_W} (h : va_D A (w1 ++ w2)) : va_D A w1 := by
  obtain ⟨h1, h2⟩ := z_dist.mp h
  exact z_dist.mpr ⟨(List.pairwise_append.mp h1).1, fun q hq => h2 q (List.mem_append_left _ hq)⟩
/-- which exception, by its number -/
def zKx (k : Int32) : String → Prop := fun E => (E = "java/lang/IndexOutOfBoundsException" ∧ k = 1) ∨ (E = "java/lang/IllegalArgumentException" ∧ k = 2) ∨ (E = "java/lang/IllegalStateException" ∧ k = 3)
section ZR
variable {p : Program} {l : Launch} {e : Env} {R : Room} {s : State} {m : MethodId} {args : Array Value} {below : List Frame} {meth : Method} {c : Code} {H : Heap} {locs : List Loc} {cells slots : Nat} {Q : State → Prop}
variable {cc : ByteArray} {pc mc ms : Nat} {ls : Array Slot} {rest st0 : List Value} {G : zG} {A : Nat → Prop} {ws wc wr : va_W} {XC : String → State → State → Prop}
/-- a method that only reads: its end -/
theorem zRi {r v : Int32} {ty : FieldType} (hx : p.tables.exec = Jvm.exec) (hb : c.code = cc) (hr : meth.sig.returnType = some ty) (hlocks : meth.locks = false) (hn : narrow ty (.int v) = .int v) (hv : v = r) (hH : H = s.heap) (hloc : locs = []) (hc : cells ≤ mc) (hs : slots ≤ ms) {free : Addr → Prop} (d : decode cc pc = .ok (.ireturn, 1)) :
    W p l e R s m args below meth c H locs cells slots (MQ below (vp_Si (fun z => z = r)) args s mc ms free) (F0 m pc ls [.int v]) := by
  subst hH hloc
  exact W.widen hc hs (W.zret hx hb hr hn (fun t ht hW => ⟨v, rfl, hv, ht⟩) (fun q h => by cases h) d)
theorem zRv (hx : p.tables.exec = Jvm.exec) (hb : c.code = cc) (hr : meth.sig.returnType = none) (hlocks : meth.locks = false) (hH : H = s.heap) (hloc : locs = []) (hc : cells ≤ mc) (hs : slots ≤ ms) {free : Addr → Prop} (d : decode cc pc = .ok (.return_, 1)) :
    W p l e R s m args below meth c H locs cells slots (MQ below (va_Sv (fun _ => True)) args s mc ms free) (F0 m pc ls []) := by
  subst hH hloc
  exact W.widen hc hs (W.vret hx hb hr (fun t ht hW => ⟨rfl, trivial, ht⟩) (fun q h => by cases h) d)
/-- .. a reference -/
theorem zRr {v : Value} {a : Nat} {rt : FieldType} (hx : p.tables.exec = Jvm.exec) (hb : c.code = cc) (hr : meth.sig.returnType = some rt) (hlocks : meth.locks = false) (hrt : (∃ n, rt = .object n) ∨ ∃ t, rt = .array t) (hv : v = .ref a) (hH : H = s.heap) (hloc : locs = []) (hc : cells ≤ mc) (hs : slots ≤ ms) {free : Addr → Prop} (d : decode cc pc = .ok (.areturn, 1)) :
    W p l e R s m args below meth c H locs cells slots (MQ below (va_Sr (fun k => k = a) (fun k => .ref k)) args s mc ms free) (F0 m pc ls [v]) := by
  subst hH hloc
  subst hv
  exact W.widen hc hs (W.aret hx hb hr hrt (Or.inr ⟨a, rfl⟩) (fun t ht hW => ⟨a, rfl, rfl, ht⟩) (fun q h => by cases h) d)
/-- a method that writes: its end -/
theorem zWi {S : Type} {post : Int32 → S → Prop} {w1 : S → va_W} (u : S) {v : Int32} {ty : FieldType} (hx : p.tables.exec = Jvm.exec) (hb : c.code = cc) (hr : meth.sig.returnType = some ty) (hlocks : meth.locks = false) (hn : narrow ty (.int v) = .int v) (hp : post v u) (hP : zP G ws H) (hD : va_D A ws) (hK : zK G s) (hS : va_S A s.heap H locs) (hw : ws.Perm (w1 u ++ wr)) (hc : cells ≤ mc) (hs : slots ≤ ms) (d : decode cc pc = .ok (.ireturn, 1)) :
    W p l e R s m args below meth c H locs cells slots (MQ below (zQi G post w1 A) args s mc ms A) (F0 m pc ls [.int v]) :=
  W.widen hc hs (W.zret hx hb hr hn (fun t ht hW => ⟨⟨v, u, rfl, hp, by rw [ht]; exact z_left (zP.perm hw hP), va_K.moved hW.alike hK, z_leftD (zD.perm hw hD)⟩, hS.F ht⟩) hS.2.2 d)
theorem zWv {S : Type} {post : S → Prop} {w1 : S → va_W} (u : S) (hx : p.tables.exec = Jvm.exec) (hb : c.code = cc) (hr : meth.sig.returnType = none) (hlocks : meth.locks = false) (hp : post u) (hP : zP G ws H) (hD : va_D A ws) (hK : zK G s) (hS : va_S A s.heap H locs) (hw : ws.Perm (w1 u ++ wr)) (hc : cells ≤ mc) (hs : slots ≤ ms) (d : decode cc pc = .ok (.return_, 1)) :
    W p l e R s m args below meth c H locs cells slots (MQ below (zQv G post w1 A) args s mc ms A) (F0 m pc ls []) :=
  W.widen hc hs (W.vret hx hb hr (fun t ht hW => ⟨⟨u, rfl, hp, by rw [ht]; exact z_left (zP.perm hw hP), va_K.moved hW.alike hK, z_leftD (zD.perm hw hD)⟩, hS.F ht⟩) hS.2.2 d)
theorem zWr {S : Type} {post : S → Prop} {w1 : S → va_W} {ad : S → Nat} (u : S) {rt : FieldType} (hx : p.tables.exec = Jvm.exec) (hb : c.code = cc) (hr : meth.sig.returnType = some rt) (hlocks : meth.locks = false) (hrt : (∃ n, rt = .object n) ∨ ∃ t, rt = .array t) (hp : post u) (hP : zP G ws H) (hD : va_D A ws) (hK : zK G s) (hS : va_S A s.heap H locs) (hw : ws.Perm (w1 u ++ wr)) (hc : cells ≤ mc) (hs : slots ≤ ms) (d : decode cc pc = .ok (.areturn, 1)) :
    W p l e R s m args below meth c H locs cells slots (MQ below (zQr G post w1 ad A) args s mc ms A) (F0 m pc ls [.ref (ad u)]) :=
  W.widen hc hs (W.aret hx hb hr hrt (Or.inr ⟨_, rfl⟩) (fun t ht hW => ⟨⟨u, ad u, rfl, hp, rfl, by rw [ht]; exact z_left (zP.perm hw hP), va_K.moved hW.alike hK, z_leftD (zD.perm hw hD)⟩, hS.F ht⟩) hS.2.2 d)
/-! what a callee asks of its start -/
theorem zPreS {As : List Value} (hE : zE G A s s.heap) (hS : va_S A s.heap H locs) (hA : ∀ q : Nat, s.heap.size ≤ q → A q) (hP : zP G ws H) (hD : va_D A ws) (hK : zK G s) (hw : ws.Perm (wc ++ wr)) : PreS s H (zPc G As wc H.size) As := by
  refine ⟨zPc.blind, fun U hU hW => ⟨rfl, by rw [hU], by rw [hU]; exact z_left (zP.perm hw hP), va_K.moved hW.alike hK, ?_, ?_⟩⟩
  · have h := zD.perm hw hD
    exact z_dist.mpr ⟨(List.pairwise_append.mp (z_dist.mp h).1).1, fun _ _ => trivial⟩
  · rw [hU]
    exact zE.warm hW (zE.narrow (z_free hD hw hS hA) (zE.kept hS.2.1 hE))
theorem zPreV {As : List Value} {C : String} {b : Nat} (hE : zE G A s s.heap) (hS : va_S A s.heap H locs) (hA : ∀ q : Nat, s.heap.size ≤ q → A q) (hP : zP G ws H) (hD : va_D A ws) (hK : zK G s) (hw : ws.Perm (wc ++ wr)) (hr : ∃ cellB : Cell, H[b]? = some cellB ∧ cellB.vm.isStatics = false ∧ s.vm.findClass C = some cellB.cls) : PreV s H C b (zPc G (.ref b :: As) wc H.size) As := by
  obtain ⟨h1, h2⟩ := zPreS (As := .ref b :: As) hE hS hA hP hD hK hw
  exact ⟨h1, hr, h2⟩
/-! calls: a reading callee -/
theorem zCi {r : Int32} {a : Array Value} (hr : CallRun p l e R s m args below meth c H locs cells slots 0 0 (F0 m pc ls st0) rest (vp_Si (fun z => z = r) a) (fun _ => False))
    (kk : W p l e R s m args below meth c H locs cells slots Q (F0 m (pc + 3) ls (.int r :: rest))) : W p l e R s m args below meth c H locs cells slots Q (F0 m pc ls st0) :=
  vp_callSi hr (fun z hz => by rw [hz]; exact kk)
theorem zCr {r : Nat} {a : Array Value} (hr : CallRun p l e R s m args below meth c H locs cells slots 0 0 (F0 m pc ls st0) rest (va_Sr (fun k => k = r) (fun k => .ref k) a) (fun _ => False))
    (kk : W p l e R s m args below meth c H locs cells slots Q (F0 m (pc + 3) ls (.ref r :: rest))) : W p l e R s m args below meth c H locs cells slots Q (F0 m pc ls st0) :=
  va_csr hr (fun z hz => by rw [hz]; exact kk)
theorem zCv {a : Array Value} (hr : CallRun p l e R s m args below meth c H locs cells slots 0 0 (F0 m pc ls st0) rest (va_Sv (fun _ => True) a) (fun _ => False))
    (kk : W p l e R s m args below meth c H locs cells slots Q (F0 m (pc + 3) ls rest)) : W p l e R s m args below meth c H locs cells slots Q (F0 m pc ls st0) :=
  va_csv hr (fun _ => kk)
/-! calls: a writing callee -/
theorem zDi {S : Type} {post : Int32 → S → Prop} {w1 : S → va_W} {a : Array Value} (hr : va_Run p l e R s m args below meth c H locs cells slots mc ms (F0 m pc ls st0) rest (zQi G post w1 (va_A wc H.size) a) (va_A wc H.size)) (hP : zP G ws H) (hD : va_D A ws) (hS : va_S A s.heap H locs) (hA : ∀ q : Nat, s.heap.size ≤ q → A q) (hw : ws.Perm (wc ++ wr))
    (kk : ∀ (r : Int32) (u : S) (H1 : Heap) (locs1 : List Loc), post r u → zP G (w1 u ++ wr) H1 → va_D A (w1 u ++ wr) → va_S A s.heap H1 locs1 → W p l e R s m args below meth c H1 locs1 (cells + mc) (slots + ms) Q (F0 m (pc + 3) ls (.int r :: rest))) : W p l e R s m args below meth c H locs cells slots Q (F0 m pc ls st0) := by
  have hF := z_free hD hw hS hA
  refine va_calli hr hS (fun q _ h => hF q h) hF (fun r u t H1 locs1 ht hvm hp hB hz hk hS1 => ?_)
  obtain ⟨b1, b2, b3⟩ := hB
  rw [ht] at b1
  obtain ⟨j1, j2⟩ := z_join hP hD hw hk hF b1 b3
  exact kk r u H1 locs1 hp j1 j2 hS1
theorem zDv {S : Type} {post : S → Prop} {w1 : S → va_W} {a : Array Value} (hr : va_Run p l e R s m args below meth c H locs cells slots mc ms (F0 m pc ls st0) rest (zQv G post w1 (va_A wc H.size) a) (va_A wc H.size)) (hP : zP G ws H) (hD : va_D A ws) (hS : va_S A s.heap H locs) (hA : ∀ q : Nat, s.heap.size ≤ q → A q) (hw : ws.Perm (wc ++ wr))
    (kk : ∀ (u : S) (H1 : Heap) (locs1 : List Loc), post u → zP G (w1 u ++ wr) H1 → va_D A (w1 u ++ wr) → va_S A s.heap H1 locs1 → W p l e R s m args below meth c H1 locs1 (cells + mc) (slots + ms) Q (F0 m (pc + 3) ls rest)) : W p l e R s m args below meth c H locs cells slots Q (F0 m pc ls st0) := by
  have hF := z_free hD hw hS hA
  refine va_callv hr hS (fun q _ h => hF q h) hF (fun u t H1 locs1 ht hvm hp hB hz hk hS1 => ?_)
  obtain ⟨b1, b2, b3⟩ := hB
  rw [ht] at b1
  obtain ⟨j1, j2⟩ := z_join hP hD hw hk hF b1 b3
  exact kk u H1 locs1 hp j1 j2 hS1
theorem zDr {S : Type} {post : S → Prop} {w1 : S → va_W} {ad : S → Nat} {a : Array Value} (hr : va_Run p l e R s m args below meth c H locs cells slots mc ms (F0 m pc ls st0) rest (zQr G post w1 ad (va_A wc H.size) a) (va_A wc H.size)) (hP : zP G ws H) (hD : va_D A ws) (hS : va_S A s.heap H locs) (hA : ∀ q : Nat, s.heap.size ≤ q → A q) (hw : ws.Perm (wc ++ wr))
    (kk : ∀ (u : S) (H1 : Heap) (locs1 : List Loc), post u → zP G (w1 u ++ wr) H1 → va_D A (w1 u ++ wr) → va_S A s.heap H1 locs1 → W p l e R s m args below meth c H1 locs1 (cells + mc) (slots + ms) Q (F0 m (pc + 3) ls (.ref (ad u) :: rest))) : W p l e R s m args below meth c H locs cells slots Q (F0 m pc ls st0) := by
  have hF := z_free hD hw hS hA
  refine va_callr hr hS (fun q _ h => hF q h) hF (fun u ra t H1 locs1 ht hvm hp hB hz hk hS1 => ?_)
  obtain ⟨b0, b1, b2, b3⟩ := hB
  rw [ht] at b1
  rw [b0]
  obtain ⟨j1, j2⟩ := z_join hP hD hw hk hF b1 b3
  exact kk u H1 locs1 hp j1 j2 hS1
/-! calls: a callee that returns or throws; where it throws, the world is as it was -/
theorem z_same {H1 : Heap} {locs1 L : List Loc} {st₀ t T' : State} (h0 : st₀.heap = H) (e1 : T'.heap = t.heap) (hP : zP G ws H) (hS : va_S A s.heap H locs) (hf : ∀ q ∈ L, A q.base) (hz : st₀.heap.size ≤ t.heap.size) (hk : ∀ q : Nat, q < st₀.heap.size → t.heap[q]? = st₀.heap[q]?) : zP G ws T'.heap ∧ va_S A s.heap T'.heap (locs ++ L) := by
  rw [h0] at hz hk
  refine ⟨z_mem.mpr (fun q hq => (z_mem.mp hP q hq).kept (by rw [e1]; exact hk _ (z_mem.mp hP q hq).lt)), Nat.le_trans hS.1 (by rw [e1]; exact hz), fun q h1 h2 => ?_, fun q hq => ?_⟩
  · rw [e1, hk q (Nat.lt_of_lt_of_le h1 hS.1)]
    exact hS.2.1 q h1 h2
  · rcases List.mem_append.mp hq with h | h
    · exact hS.2.2 q h
    · exact hf _ h
theorem zXi {S : Type} {post : Int32 → S → Prop} {w1 : S → va_W} {K : String → Prop} {a : Array Value} (hr : vx_Run p l e R s m args below meth c H locs cells slots mc ms (F0 m pc ls st0) rest (zQi G post w1 (va_A wc H.size) a) (zX K) (va_A wc H.size)) (hP : zP G ws H) (hD : va_D A ws) (hS : va_S A s.heap H locs) (hA : ∀ q : Nat, s.heap.size ≤ q → A q) (hw : ws.Perm (wc ++ wr))
    (kx : ∀ (E : String) (ce : Cell) (q9 : Addr) (H1 : Heap) (locs1 : List Loc), K E → zP G ws H1 → va_S A s.heap H1 locs1 → H1[q9]? = some ce → ce.vm = .none → s.vm.findClass E = some ce.cls → (∀ q : Nat, q < H.size → H1[q]? = H[q]?) → H.size ≤ H1.size → vx_W p l e R s m args below meth c H1 locs1 (cells + mc) (slots + ms) Q (F0 m pc ls rest) q9)
    (kk : ∀ (r : Int32) (u : S) (H1 : Heap) (locs1 : List Loc), post r u → zP G (w1 u ++ wr) H1 → va_D A (w1 u ++ wr) → va_S A s.heap H1 locs1 → W p l e R s m args below meth c H1 locs1 (cells + mc) (slots + ms) Q (F0 m (pc + 3) ls (.int r :: rest))) : W p l e R s m args below meth c H locs cells slots Q (F0 m pc ls st0) := by
  have hF := z_free hD hw hS hA
  intro T hT X
  rcases hr T hT X with ⟨v, st₀, t, T', L, h0, X', hL, e1, e2, ⟨⟨r, u, hv, hp, b1, b2, b3⟩, hFr⟩, st⟩ | ⟨q, st₀, t, T', L, E, ce, h0, X', hL, e1, e2, ⟨hk, hz1, hz2⟩, hce, hcv, hcl, st⟩
  · cases hv
    obtain ⟨k1, k2, k3⟩ := vx_keep h0 e1 hS (fun q _ h => hF q h) hF hL hFr
    rw [← e1] at b1
    obtain ⟨j1, j2⟩ := z_join hP hD hw k2 hF b1 b3
    obtain ⟨t2, a1, b1⟩ := kk r u T'.heap (locs ++ L) hp j1 j2 k3 T' rfl X'
    exact ⟨t2, st t2 a1, b1⟩
  · obtain ⟨k1, k2⟩ := z_same (H1 := H) (locs1 := locs) h0 e1 hP hS (fun q h => hF _ (hL q h)) hz1 hz2
    rw [h0] at hz1 hz2
    obtain ⟨t2, a1, b1⟩ := kx E ce q T'.heap (locs ++ L) hk k1 k2 (by rw [e1]; exact hce) hcv hcl (fun q h => by rw [e1]; exact hz2 q h) (by rw [e1]; exact hz1) T' rfl X'
    exact ⟨t2, st.trans a1, b1⟩
/-- .. a reading callee that may throw -/
theorem zXs {r : Int32} {Pr : Prop} {K : String → Prop} {free : Addr → Prop} {a : Array Value} (hr : vx_Run p l e R s m args below meth c H locs cells slots mc ms (F0 m pc ls st0) rest (vp_Si (fun z => Pr ∧ z = r) a) (zX K) free) (hP : zP G ws H) (hS : va_S A s.heap H locs) (hf : ∀ q, free q → A q)
    (kx : ∀ (E : String) (ce : Cell) (q9 : Addr) (H1 : Heap) (locs1 : List Loc), K E → zP G ws H1 → va_S A s.heap H1 locs1 → H1[q9]? = some ce → ce.vm = .none → s.vm.findClass E = some ce.cls → (∀ q : Nat, q < H.size → H1[q]? = H[q]?) → H.size ≤ H1.size → vx_W p l e R s m args below meth c H1 locs1 (cells + mc) (slots + ms) Q (F0 m pc ls rest) q9)
    (kk : ∀ (locs1 : List Loc), Pr → va_S A s.heap H locs1 → W p l e R s m args below meth c H locs1 (cells + mc) (slots + ms) Q (F0 m (pc + 3) ls (.int r :: rest))) : W p l e R s m args below meth c H locs cells slots Q (F0 m pc ls st0) := by
  intro T hT X
  rcases hr T hT X with ⟨v, st₀, t, T', L, h0, X', hL, e1, e2, ⟨r1, hv, ⟨hp, hz⟩, hh⟩, st⟩ | ⟨q, st₀, t, T', L, E, ce, h0, X', hL, e1, e2, ⟨hk, hz1, hz2⟩, hce, hcv, hcl, st⟩
  · cases hv
    subst hz
    have hS1 : va_S A s.heap H (locs ++ L) := ⟨hS.1, hS.2.1, fun q hq => by
      rcases List.mem_append.mp hq with h | h
      · exact hS.2.2 q h
      · exact hf _ (hL q h)⟩
    obtain ⟨t2, a1, b1⟩ := kk (locs ++ L) hp hS1 T' (by rw [e1, hh, h0]) X'
    exact ⟨t2, st t2 a1, b1⟩
  · obtain ⟨k1, k2⟩ := z_same (H1 := H) (locs1 := locs) h0 e1 hP hS (fun q h => hf _ (hL q h)) hz1 hz2
    rw [h0] at hz1 hz2
    obtain ⟨t2, a1, b1⟩ := kx E ce q T'.heap (locs ++ L) hk k1 k2 (by rw [e1]; exact hce) hcv hcl (fun q h => by rw [e1]; exact hz2 q h) (by rw [e1]; exact hz1) T' rfl X'
    exact ⟨t2, st.trans a1, b1⟩
/-- .. a callee that always throws -/
theorem zXn {K : String → Prop} {free : Addr → Prop} {a : Array Value} (hr : vx_Run p l e R s m args below meth c H locs cells slots mc ms (F0 m pc ls st0) rest ((fun _ _ _ _ => False : Array Value → State → Outcome → State → Prop) a) (zX K) free) (hP : zP G ws H) (hS : va_S A s.heap H locs) (hf : ∀ q, free q → A q)
    (kx : ∀ (E : String) (ce : Cell) (q9 : Addr) (H1 : Heap) (locs1 : List Loc), K E → zP G ws H1 → va_S A s.heap H1 locs1 → H1[q9]? = some ce → ce.vm = .none → s.vm.findClass E = some ce.cls → (∀ q : Nat, q < H.size → H1[q]? = H[q]?) → H.size ≤ H1.size → vx_W p l e R s m args below meth c H1 locs1 (cells + mc) (slots + ms) Q (F0 m pc ls rest) q9) : W p l e R s m args below meth c H locs cells slots Q (F0 m pc ls st0) := by
  intro T hT X
  rcases hr T hT X with ⟨v, st₀, t, T', L, h0, X', hL, e1, e2, h, st⟩ | ⟨q, st₀, t, T', L, E, ce, h0, X', hL, e1, e2, ⟨hk, hz1, hz2⟩, hce, hcv, hcl, st⟩
  · exact h.elim
  · obtain ⟨k1, k2⟩ := z_same (H1 := H) (locs1 := locs) h0 e1 hP hS (fun q h => hf _ (hL q h)) hz1 hz2
    rw [h0] at hz1 hz2
    obtain ⟨t2, a1, b1⟩ := kx E ce q T'.heap (locs ++ L) hk k1 k2 (by rw [e1]; exact hce) hcv hcl (fun q h => by rw [e1]; exact hz2 q h) (by rw [e1]; exact hz1) T' rfl X'
    exact ⟨t2, st.trans a1, b1⟩
/-- thrown on to the caller -/
theorem zOut {K : String → Prop} {E : String} {ce : Cell} {q : Addr} {Qc : Array Value → State → Outcome → State → Prop} (hxt : ∀ x ∈ c.exceptionTable.toList, False) (hlocks : meth.locks = false) (hk : K E) (hz1 : s.heap.size ≤ H.size) (hz2 : ∀ q : Nat, q < s.heap.size → H[q]? = s.heap[q]?) (hce : H[q]? = some ce) (hcv : ce.vm = .none) (hcl : s.vm.findClass E = some ce.cls) (hS : va_S A s.heap H locs) (hc : cells ≤ mc) (hs : slots ≤ ms) :
    vx_W p l e R s m args below meth c H locs cells slots (vx_MQ below Qc (zX K) args s mc ms A) (F0 m pc ls rest) q :=
  vx_out (fun x hx => (hxt x hx).elim) hlocks hce hcv hcl (fun t ht _ => ⟨hk, by rw [ht]; exact hz1, fun q h => by rw [ht]; exact hz2 q h⟩) hS.2.2 hc hs
theorem zWiX {S : Type} {post : Int32 → S → Prop} {w1 : S → va_W} (u : S) {v : Int32} {ty : FieldType} (hx : p.tables.exec = Jvm.exec) (hb : c.code = cc) (hr : meth.sig.returnType = some ty) (hlocks : meth.locks = false) (hn : narrow ty (.int v) = .int v) (hp : post v u) (hP : zP G ws H) (hD : va_D A ws) (hK : zK G s) (hS : va_S A s.heap H locs) (hw : ws.Perm (w1 u ++ wr)) (hc : cells ≤ mc) (hs : slots ≤ ms) (d : decode cc pc = .ok (.ireturn, 1)) :
    W p l e R s m args below meth c H locs cells slots (vx_MQ below (zQi G post w1 A) XC args s mc ms A) (F0 m pc ls [.int v]) := vx_ret (zWi u hx hb hr hlocks hn hp hP hD hK hS hw hc hs d)
theorem zRiX {r v : Int32} {Pr : Prop} {ty : FieldType} (hx : p.tables.exec = Jvm.exec) (hb : c.code = cc) (hr : meth.sig.returnType = some ty) (hlocks : meth.locks = false) (hn : narrow ty (.int v) = .int v) (hv : Pr ∧ v = r) (hH : H = s.heap) (hS : va_S A s.heap H locs) (hc : cells ≤ mc) (hs : slots ≤ ms) (d : decode cc pc = .ok (.ireturn, 1)) :
    W p l e R s m args below meth c H locs cells slots (vx_MQ below (vp_Si (fun z => Pr ∧ z = r)) XC args s mc ms A) (F0 m pc ls [.int v]) := by
  subst hH
  exact vx_ret (W.widen hc hs (W.zret hx hb hr hn (fun t ht hW => ⟨v, rfl, hv, ht⟩) hS.2.2 d))
end ZR
