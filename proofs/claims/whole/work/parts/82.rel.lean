/-! ===== the world of the law's loop, and how class and model stand to each other ===== -/
def zC (b : ZB) : Nat × va_E := (b.h, .inr (2, [.int b.tk, .int b.rp, .int b.li, .int b.st, .int b.me, .int b.la, .int b.lc, .int b.vo, .ref b.tx, .ref b.bo]))
def zBo (G : zG) (a : Nat) (f : Nat → Int32) : Nat × va_E := (a, .inl (G.2.1 0, 4, .inl f))
/-- the rows of bottles of the first n brews, each with what its label's text is made of -/
def zBx (G : zG) (ba : Nat → Nat) (bf : Nat → Nat → Int32) (sx : Nat → va_W) (n : Nat) : va_W := (List.range n).flatMap (fun i => zBo G (ba i) (bf i) :: sx i)
def zTl (G : zG) (be : Nat → ZB) (bf : Nat → Nat → Int32) (sx : Nat → va_W) (n : Nat) : va_W := zOb be n ++ zBx G (fun i => (be i).bo) bf sx n
/-- the cells that stay from turn to turn: class, tellings, out, model -/
abbrev zWd (G : zG) (ad : Nat → Nat) (n ct : Nat) (nb dy md pp mp po mo mt : Int32) (bh : Nat → Option Nat) (t0 t1 t2 t3 t4 ff : Nat → Int32) (og : Nat → Int64) (tk bt bl bd yy bs bm lf lc gn pr bo : Nat → Int32) : va_W :=
  [(ad 0, .inr (4, [.ref (ad 1), .ref (ad 2), .int (nI n), .int dy, .int pp, .int po])), (ad 1, .inl (G.2.1 3, 20, .inr (.inr (.inr (.inr bh))))), (ad 2, .inr (3, [.ref (ad 3), .ref (ad 4), .ref (ad 5), .ref (ad 6), .ref (ad 7), .int (nI ct), .ref (ad 8)])),
   (ad 3, .inl (G.2.1 0, 512, .inl t0)), (ad 4, .inl (G.2.1 0, 512, .inl t1)), (ad 5, .inl (G.2.1 0, 512, .inl t2)), (ad 6, .inl (G.2.1 0, 512, .inl t3)), (ad 7, .inl (G.2.1 0, 512, .inl t4)), (ad 8, .inl (G.2.1 0, 20, .inl ff)), (ad 9, .inl (G.2.1 2, 1, .inr (.inl og))),
   (ad 10, .inr (5, [.ref (ad 11), .ref (ad 12), .ref (ad 13), .ref (ad 14), .ref (ad 15), .ref (ad 16), .ref (ad 17), .ref (ad 18), .ref (ad 19), .ref (ad 20), .ref (ad 21), .ref (ad 22), .int nb, .int md, .int mp, .int mo, .int mt])),
   (ad 11, .inl (G.2.1 0, 8, .inl tk)), (ad 12, .inl (G.2.1 0, 20, .inl bt)), (ad 13, .inl (G.2.1 0, 20, .inl bl)), (ad 14, .inl (G.2.1 0, 20, .inl bd)), (ad 15, .inl (G.2.1 0, 20, .inl yy)), (ad 16, .inl (G.2.1 0, 20, .inl bs)), (ad 17, .inl (G.2.1 0, 20, .inl bm)), (ad 18, .inl (G.2.1 0, 20, .inl lf)), (ad 19, .inl (G.2.1 0, 20, .inl lc)), (ad 20, .inl (G.2.1 0, 20, .inl gn)), (ad 21, .inl (G.2.1 0, 20, .inl pr)), (ad 22, .inl (G.2.1 0, 80, .inl bo))]
/-! brews picked out of the list of cells, and put back -/
theorem z_rng {n j : Nat} (hj : j < n) : ∃ l : List Nat, (List.range n).Perm (j :: l) ∧ j ∉ l ∧ l.Nodup :=
  ⟨(List.range n).erase j, List.perm_cons_erase (List.mem_range.mpr hj), List.nodup_range.not_mem_erase, List.nodup_range.erase j⟩
theorem z_nm {l : List Nat} {i j : Nat} (h : ¬ j ∈ l) (hi : i ∈ l) : i ≠ j := fun e => h (e ▸ hi)
theorem z_m1 (be : Nat → ZB) {n j : Nat} (hj : j < n) : ∃ r, (zOb be n).Perm (zC (be j) :: r) ∧ ∀ b, (zOb (va_up be j b) n).Perm (zC b :: r) := by
  obtain ⟨l, h1, h2, -⟩ := z_rng hj
  refine ⟨l.map (fun i => zC (be i)), h1.map (fun i => zC (be i)), fun b => ?_⟩
  have e : l.map (fun i => zC (va_up be j b i)) = l.map (fun i => zC (be i)) := List.map_congr_left (fun i hi => by rw [va_up_ne _ _ (z_nm h2 hi)])
  have h3 := h1.map (fun i => zC (va_up be j b i))
  rw [List.map_cons, e, va_up_self] at h3
  exact h3
theorem z_m2 (be : Nat → ZB) {n j k : Nat} (hj : j < n) (hk : k < n) (hne : j ≠ k) : ∃ r, (zOb be n).Perm (zC (be j) :: zC (be k) :: r) ∧ ∀ b b2, (zOb (va_up (va_up be k b2) j b) n).Perm (zC b :: zC b2 :: r) := by
  obtain ⟨l, h1, h2, h3⟩ := z_rng hj
  have hkl : k ∈ l := by
    rcases List.mem_cons.mp (h1.mem_iff.mp (List.mem_range.mpr hk)) with e | e
    · exact absurd e.symm hne
    · exact e
  have h5 : (List.range n).Perm (j :: k :: l.erase k) := h1.trans ((List.perm_cons_erase hkl).cons j)
  have nj : j ∉ l.erase k := fun h => h2 (List.mem_of_mem_erase h)
  have nk : k ∉ l.erase k := h3.not_mem_erase
  refine ⟨(l.erase k).map (fun i => zC (be i)), h5.map (fun i => zC (be i)), fun b b2 => ?_⟩
  have e : (l.erase k).map (fun i => zC (va_up (va_up be k b2) j b i)) = (l.erase k).map (fun i => zC (be i)) := List.map_congr_left (fun i hi => by rw [va_up_ne _ _ (z_nm nj hi), va_up_ne _ _ (z_nm nk hi)])
  have h6 := h5.map (fun i => zC (va_up (va_up be k b2) j b i))
  rw [List.map_cons, List.map_cons, e, va_up_self, va_up_ne _ _ (Ne.symm hne), va_up_self] at h6
  exact h6
theorem z_x1 (G : zG) (ba : Nat → Nat) (bf : Nat → Nat → Int32) (sx : Nat → va_W) {n j : Nat} (hj : j < n) : ∃ r, (zBx G ba bf sx n).Perm (zBo G (ba j) (bf j) :: (sx j ++ r)) ∧ ∀ f s, (zBx G ba (va_up bf j f) (va_up sx j s) n).Perm (zBo G (ba j) f :: (s ++ r)) := by
  obtain ⟨l, h1, h2, -⟩ := z_rng hj
  refine ⟨l.flatMap (fun i => zBo G (ba i) (bf i) :: sx i), List.Perm.flatMap_right (fun i => zBo G (ba i) (bf i) :: sx i) h1, fun f s => ?_⟩
  have e : l.flatMap (fun i => zBo G (ba i) (va_up bf j f i) :: va_up sx j s i) = l.flatMap (fun i => zBo G (ba i) (bf i) :: sx i) :=
    congrArg List.flatten (List.map_congr_left (fun i hi => by rw [va_up_ne _ _ (z_nm h2 hi), va_up_ne _ _ (z_nm h2 hi)]))
  have h3 := List.Perm.flatMap_right (fun i => zBo G (ba i) (va_up bf j f i) :: va_up sx j s i) h1
  rw [List.flatMap_cons, e, va_up_self, va_up_self] at h3
  exact h3
theorem z_sh {α : Type} {C B : α} {r1 S r2 : List α} : ((C :: r1) ++ (B :: (S ++ r2))).Perm (C :: B :: (S ++ (r1 ++ r2))) := by
  show (C :: (r1 ++ B :: (S ++ r2))).Perm _
  refine (List.perm_middle.trans (List.Perm.cons B ?_)).cons C
  rw [← List.append_assoc, ← List.append_assoc]
  exact List.perm_append_comm.append_right r2
theorem z_upbo (be : Nat → ZB) {j : Nat} {b : ZB} (h : b.bo = (be j).bo) : (fun i => (va_up be j b i).bo) = fun i => (be i).bo := by
  funext i
  by_cases e : i = j
  · subst e
    rw [va_up_self, h]
  · rw [va_up_ne _ _ e]
theorem z_upe {α : Type} (f : Nat → α) (j : Nat) : va_up f j (f j) = f := by
  funext i
  by_cases e : i = j
  · subst e
    rw [va_up_self]
  · rw [va_up_ne _ _ e]
theorem z_f1 (G : zG) (be : Nat → ZB) (bf : Nat → Nat → Int32) (sx : Nat → va_W) {n j : Nat} (hj : j < n) : ∃ r, (zTl G be bf sx n).Perm ([zC (be j), zBo G (be j).bo (bf j)] ++ (sx j ++ r)) ∧
    ∀ b f s, b.bo = (be j).bo → (zTl G (va_up be j b) (va_up bf j f) (va_up sx j s) n).Perm ([zC b, zBo G b.bo f] ++ (s ++ r)) := by
  obtain ⟨r1, h1, h2⟩ := z_m1 be hj
  obtain ⟨r2, h3, h4⟩ := z_x1 G (fun i => (be i).bo) bf sx hj
  refine ⟨r1 ++ r2, (h1.append h3).trans z_sh, fun b f s hb => ?_⟩
  unfold zTl
  rw [z_upbo be hb, hb]
  exact ((h2 b).append (h4 f s)).trans z_sh
theorem z_f2 (G : zG) (be : Nat → ZB) (bf : Nat → Nat → Int32) (sx : Nat → va_W) {n j k : Nat} (hj : j < n) (hk : k < n) (hne : j ≠ k) : ∃ r, (zTl G be bf sx n).Perm ([zC (be j), zC (be k), zBo G (be j).bo (bf j)] ++ r) ∧
    ∀ b b2 f, b.bo = (be j).bo → b2.bo = (be k).bo → (zTl G (va_up (va_up be k b2) j b) (va_up bf j f) sx n).Perm ([zC b, zC b2, zBo G b.bo f] ++ r) := by
  obtain ⟨r1, h1, h2⟩ := z_m2 be hj hk hne
  obtain ⟨r2, h3, h4⟩ := z_x1 G (fun i => (be i).bo) bf sx hj
  have sh : ∀ (C C2 B : Nat × va_E), (((C :: C2 :: r1) ++ (B :: (sx j ++ r2))) : va_W).Perm ([C, C2, B] ++ (r1 ++ (sx j ++ r2))) := fun C C2 B => (List.perm_middle.cons C2).cons C
  refine ⟨r1 ++ (sx j ++ r2), (h1.append h3).trans (sh _ _ _), fun b b2 f hb hb2 => ?_⟩
  have e1 : (va_up be k b2 j).bo = (be j).bo := by rw [va_up_ne _ _ hne]
  have e : (fun i => (va_up (va_up be k b2) j b i).bo) = fun i => (be i).bo := (z_upbo (va_up be k b2) (hb.trans e1.symm)).trans (z_upbo be hb2)
  have h5 := h4 f (sx j)
  rw [z_upe] at h5
  unfold zTl
  rw [e, hb]
  exact ((h2 b b2).append h5).trans (sh _ _ _)
theorem z_fN (G : zG) (be : Nat → ZB) (bf : Nat → Nat → Int32) (sx : Nat → va_W) (n : Nat) (b : ZB) (f : Nat → Int32) : ([zC b, zBo G b.bo f] ++ (zOb be n ++ zBx G (fun i => (be i).bo) bf sx n)).Perm (zTl G (va_up be n b) (va_up bf n f) (va_up sx n []) (n + 1)) := by
  have e1 : zOb (va_up be n b) (n + 1) = zOb be n ++ [zC b] := by
    show (List.range (n + 1)).map (fun i => zC (va_up be n b i)) = (List.range n).map (fun i => zC (be i)) ++ [zC b]
    rw [List.range_succ, List.map_append, List.map_cons, List.map_nil, va_up_self]
    congr 1
    exact List.map_congr_left (fun i hi => by rw [va_up_ne _ _ (Nat.ne_of_lt (List.mem_range.mp hi))])
  have e2 : zBx G (fun i => (va_up be n b i).bo) (va_up bf n f) (va_up sx n []) (n + 1) = zBx G (fun i => (be i).bo) bf sx n ++ [zBo G b.bo f] := by
    unfold zBx
    rw [List.range_succ, List.flatMap_append, List.flatMap_cons, List.flatMap_nil, List.append_nil, va_up_self, va_up_self]
    show _ ++ [zBo G (va_up be n b n).bo f] = _
    rw [va_up_self]
    congr 1
    exact congrArg List.flatten (List.map_congr_left (fun i hi => by
      have h := Nat.ne_of_lt (List.mem_range.mp hi)
      rw [va_up_ne _ _ h, va_up_ne _ _ h]
      show zBo G (va_up be n b i).bo _ :: _ = _
      rw [va_up_ne _ _ h]))
  unfold zTl
  rw [e1, e2]
  have h1 : (zOb be n ++ [zC b]).Perm (zC b :: zOb be n) := List.perm_append_comm
  have h2 : (zBx G (fun i => (be i).bo) bf sx n ++ [zBo G b.bo f]).Perm (zBo G b.bo f :: zBx G (fun i => (be i).bo) bf sx n) := List.perm_append_comm
  exact ((h1.append h2).trans (List.perm_middle.cons (zC b))).symm
/-- ahead: a world with its tail's cells picked out; behind: put back -/
theorem z_fst {α : Type} {w t f r : List α} (h : t.Perm (f ++ r)) : (w ++ t).Perm ((w ++ f) ++ r) := by
  rw [List.append_assoc]
  exact h.append_left w
theorem z_bck {α : Type} {w t f r : List α} (h : t.Perm (f ++ r)) : ((w ++ f) ++ r).Perm (w ++ t) := (z_fst h).symm
/-- print: the old text goes, the new one comes -/
theorem z_prt {α : Type} {w t : List α} {C B s1 s2 : α} {S r : List α} (h : t.Perm ([C, B] ++ ([s1, s2] ++ r))) : ((w ++ [C, s1, s2]) ++ ([B] ++ (S ++ r))).Perm ((w ++ t) ++ S) := by
  rw [List.append_assoc, List.append_assoc]
  refine List.Perm.append_left w ?_
  refine List.Perm.trans ?_ (h.append_right S).symm
  show (C :: s1 :: s2 :: B :: (S ++ r)).Perm (C :: B :: s1 :: s2 :: (r ++ S))
  refine List.Perm.cons C ?_
  have h1 : ([s1, s2] ++ B :: (S ++ r)).Perm (B :: ([s1, s2] ++ (S ++ r))) := List.perm_middle
  have h2 : (S ++ r).Perm (r ++ S) := List.perm_append_comm
  exact h1.trans (List.Perm.cons B (List.Perm.cons s1 (List.Perm.cons s2 h2)))
/-- label: the text's cells picked out -/
theorem z_lab {α : Type} {t : List α} {C B s1 s2 : α} {r : List α} (h : t.Perm ([C, B] ++ ([s1, s2] ++ r))) : t.Perm ([C, s1, s2] ++ (B :: r)) := by
  refine h.trans (List.Perm.cons C ?_)
  have h1 : ([s1, s2] ++ B :: r).Perm (B :: ([s1, s2] ++ r)) := List.perm_middle
  exact h1.symm
/-! ===== the relation ===== -/
/-- one brew in class and model -/
def zPer (G : zG) (b : ZB) (f : Nat → Int32) (sx : va_W) (bt bl bd yy bs bm lf lc gn pr : Int32) (g : Nat → Int32) : Prop :=
  (b.tk = bt ∧ b.rp = bd + f_X3_days yy ∧ b.li = bl ∧ b.st = bs ∧ b.me = bm ∧ b.la = lf ∧ b.lc = lc ∧ b.vo = gn ∧ ∀ c, c < 4 → f c = g c) ∧
  ((∃ v, v < 8 ∧ bt = nI v) ∧ (∃ v, v ≤ 1000 ∧ bl = nI v) ∧ (∃ v, v ≤ 51200 ∧ bd = nI v) ∧ (∃ v, v < 3 ∧ yy = nI v) ∧ (∃ v, v ≤ 250 ∧ bs = nI v) ∧ (bm = 0 ∨ bm = 1) ∧ ∃ v, v < 4 ∧ lc = nI v) ∧
  ((pr = -1 ∧ b.tx = G.2.2 10 ∧ sx = []) ∨ ∃ sg sv vv, sg ≤ 250 ∧ pr = nI sg ∧ vv < 8 ∧ bt = nI vv ∧ sx = [(b.tx, .inr (0, [.ref sv, .int 0, .int 0, .int 0])), (sv, .inl (G.2.1 1, zTn sg, .inl (f_X2_textOfLabel_sf sg vv)))])
/-- the model's tanks say which brew is there and not gone -/
def zTk (tk bt bl : Nat → Int32) (n : Nat) : Prop := ∀ t, t < 8 → (tk t = -1 ∧ ∀ i, i < n → bt i = nI t → bl i = 0) ∨ ∃ j, j < n ∧ tk t = nI j ∧ bt j = nI t ∧ ¬ bl j = 0 ∧ ∀ i, i < n → bt i = nI t → ¬ bl i = 0 → i = j
def zRl (G : zG) (k n ct : Nat) (nb dy md pp mp po mo : Int32) (bh : Nat → Option Nat) (t0 t1 t2 t3 t4 : Nat → Int32) (be : Nat → ZB) (bf : Nat → Nat → Int32) (sx : Nat → va_W) (tk bt bl bd yy bs bm lf lc gn pr bo : Nat → Int32) : Prop :=
  (n ≤ 20 ∧ ct ≤ k ∧ (∃ d, d ≤ 100 * k ∧ dy = nI d) ∧ nb = nI n ∧ md = dy ∧ mp = pp ∧ mo = po) ∧
  (∀ i, i < n → bh i = some (be i).h) ∧
  (∀ i, i < n → zPer G (be i) (bf i) (sx i) (bt i) (bl i) (bd i) (yy i) (bs i) (bm i) (lf i) (lc i) (gn i) (pr i) (fun c => bo (4 * i + c))) ∧
  (∀ i, n ≤ i → bm i = 0 ∧ lf i = 0 ∧ lc i = 0 ∧ gn i = 0 ∧ ∀ c, c < 4 → bo (4 * i + c) = 0) ∧
  zTk tk bt bl n ∧
  (∀ ff i, i < n → gF t0 t1 t2 t3 t4 ff ct i = bs i)
theorem zRl.mono {G : zG} {k n ct : Nat} {nb dy md pp mp po mo : Int32} {bh : Nat → Option Nat} {t0 t1 t2 t3 t4 : Nat → Int32} {be : Nat → ZB} {bf : Nat → Nat → Int32} {sx : Nat → va_W} {tk bt bl bd yy bs bm lf lc gn pr bo : Nat → Int32}
    (h : zRl G k n ct nb dy md pp mp po mo bh t0 t1 t2 t3 t4 be bf sx tk bt bl bd yy bs bm lf lc gn pr bo) : zRl G (k + 1) n ct nb dy md pp mp po mo bh t0 t1 t2 t3 t4 be bf sx tk bt bl bd yy bs bm lf lc gn pr bo := by
  obtain ⟨⟨h1, h2, ⟨d, h3, h4⟩, h5⟩, h6⟩ := h
  exact ⟨⟨h1, Nat.le_succ_of_le h2, ⟨d, by omega, h4⟩, h5⟩, h6⟩
/-- what comes behind a turn: any new state in the relation, at the loop's foot -/
def zKn (p : Program) (l : Launch) (e : Env) (s : State) (m : MethodId) (args : Array Value) (below : List Frame) (meth : Method) (c : Code) (cells slots : Nat) (Q : State → Prop) (G : zG) (A : Nat → Prop) (ad : Nat → Nat) (b k : Nat) : Prop :=
  ∀ (n ct : Nat) (nb dy md pp mp po mo mt : Int32) (bh : Nat → Option Nat) (t0 t1 t2 t3 t4 ff : Nat → Int32) (og : Nat → Int64) (tk bt bl bd yy bs bm lf lc gn pr bo : Nat → Int32) (be : Nat → ZB) (bf : Nat → Nat → Int32) (sx : Nat → va_W),
    zRl G (k + 1) n ct nb dy md pp mp po mo bh t0 t1 t2 t3 t4 be bf sx tk bt bl bd yy bs bm lf lc gn pr bo → ∀ (H : Heap) (locs : List Loc) (ls : Array Slot),
    zP G (zWd G ad n ct nb dy md pp mp po mo mt bh t0 t1 t2 t3 t4 ff og tk bt bl bd yy bs bm lf lc gn pr bo ++ zTl G be bf sx n) H → va_D A (zWd G ad n ct nb dy md pp mp po mo mt bh t0 t1 t2 t3 t4 ff og tk bt bl bd yy bs bm lf lc gn pr bo ++ zTl G be bf sx n) →
    va_S A s.heap H locs → lv_has ls 7 [(0, .ref b), (1, .ref (ad 0)), (2, .ref (ad 10)), (3, .ref (ad 9)), (4, .int (nI (5 * k)))] → W p l e room_1 s m args below meth c H locs cells slots Q (F0 m 866 ls [])
/-! the tanks -/
theorem z_m1ne {j : Nat} (hj : j < 2 ^ 31) : ¬ (-1 : Int32) = nI j := fun h => nI_pos hj (by rw [← h]; decide)
theorem zTk.same {tk bt bl bl' : Nat → Int32} {n : Nat} (h : zTk tk bt bl n) (e : ∀ i, i < n → (bl' i = 0 ↔ bl i = 0)) : zTk tk bt bl' n := by
  intro t ht
  rcases h t ht with ⟨h1, h2⟩ | ⟨j, h1, h2, h3, h4, h5⟩
  · exact Or.inl ⟨h1, fun i hi hb => (e i hi).mpr (h2 i hi hb)⟩
  · exact Or.inr ⟨j, h1, h2, h3, fun h => h4 ((e j h1).mp h), fun i hi hb hn => h5 i hi hb (fun h => hn ((e i hi).mpr h))⟩
theorem zTk.gone {tk bt bl bl' : Nat → Int32} {n j v : Nat} (h : zTk tk bt bl n) (hj : j < n) (hv : v < 8) (hb : bt j = nI v) (h0 : ¬ bl j = 0) (hz : bl' j = 0) (e : ∀ i, i < n → i ≠ j → (bl' i = 0 ↔ bl i = 0)) : zTk (upd tk v (-1)) bt bl' n := by
  intro t ht
  by_cases hq : t = v
  · subst hq
    rcases h t ht with ⟨-, h2⟩ | ⟨j', -, -, -, -, h5⟩
    · exact absurd (h2 j hj hb) h0
    · refine Or.inl ⟨z_us _ _ _, fun i hi hbi => ?_⟩
      by_cases hij : i = j
      · rw [hij, hz]
      · refine (e i hi hij).mpr (Classical.byContradiction (fun hn => hij ?_))
        rw [h5 i hi hbi hn, h5 j hj hb h0]
  · have hne : ∀ i, i < n → bt i = nI t → i ≠ j := fun i _ hbi hij => hq (by
      rw [hij, hb] at hbi
      exact ((nI_eq (by omega) (by omega)).mp hbi).symm)
    rcases h t ht with ⟨h1, h2⟩ | ⟨j', h1, h2, h3, h4, h5⟩
    · exact Or.inl ⟨by rw [z_un _ _ hq, h1], fun i hi hbi => (e i hi (hne i hi hbi)).mpr (h2 i hi hbi)⟩
    · exact Or.inr ⟨j', h1, by rw [z_un _ _ hq, h2], h3, fun hh => h4 ((e j' h1 (hne j' h1 h3)).mp hh), fun i hi hbi hn => h5 i hi hbi (fun hh => hn ((e i hi (hne i hi hbi)).mpr hh))⟩
theorem zTk.brew {tk bt bl : Nat → Int32} {n v : Nat} {li : Int32} (hn20 : n ≤ 20) (h : zTk tk bt bl n) (hv : v < 8) (h1 : tk v = -1) (hl : ¬ li = 0) : zTk (upd tk v (nI n)) (upd bt n (nI v)) (upd bl n li) (n + 1) := by
  have ho : ∀ i, i < n → upd bt n (nI v) i = bt i ∧ upd bl n li i = bl i := fun i hi => ⟨z_un _ _ (by omega), z_un _ _ (by omega)⟩
  intro t ht
  by_cases hq : t = v
  · subst hq
    rcases h t ht with ⟨-, h2⟩ | ⟨j, hj, h3, -⟩
    · refine Or.inr ⟨n, Nat.lt_succ_self n, z_us _ _ _, z_us _ _ _, by rw [z_us]; exact hl, fun i hi hbi hn => ?_⟩
      rcases Nat.lt_or_eq_of_le (Nat.le_of_lt_succ hi) with hi2 | hi2
      · rw [(ho i hi2).1] at hbi
        rw [(ho i hi2).2] at hn
        exact absurd (h2 i hi2 hbi) hn
      · exact hi2
    · rw [h1] at h3
      exact absurd h3 (z_m1ne (by omega))
  · have hnv : ¬ (nI v = nI t) := fun hh => hq ((nI_eq (by omega) (by omega)).mp hh).symm
    rcases h t ht with ⟨h3, h4⟩ | ⟨j, hj, h3, h4, h5, h6⟩
    · refine Or.inl ⟨by rw [z_un _ _ hq, h3], fun i hi hbi => ?_⟩
      rcases Nat.lt_or_eq_of_le (Nat.le_of_lt_succ hi) with hi2 | hi2
      · rw [(ho i hi2).1] at hbi
        rw [(ho i hi2).2]
        exact h4 i hi2 hbi
      · subst hi2
        rw [z_us] at hbi
        exact absurd hbi hnv
    · refine Or.inr ⟨j, Nat.lt_succ_of_lt hj, by rw [z_un _ _ hq, h3], by rw [(ho j hj).1, h4], by rw [(ho j hj).2]; exact h5, fun i hi hbi hn => ?_⟩
      rcases Nat.lt_or_eq_of_le (Nat.le_of_lt_succ hi) with hi2 | hi2
      · rw [(ho i hi2).1] at hbi
        rw [(ho i hi2).2] at hn
        exact h6 i hi2 hbi hn
      · subst hi2
        rw [z_us] at hbi
        exact absurd hbi hnv
