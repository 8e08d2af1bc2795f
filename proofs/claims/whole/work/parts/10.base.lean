/-! ===== the ground of all contracts: the class numbers and addresses that stay, the environment, a method's start and end, calls ===== -/
/-- class numbers and field places; the classes of the arrays (0 int, 1 byte, 2 long, 3 Brew); addresses of static tables (0 .. 4) and of text constants (10 ..: the Strings, 20 ..: their bytes) -/
abbrev zG : Type := va_G × (Nat → ClassId) × (Nat → Nat)
abbrev zT (G : zG) : List (ClassId × FieldType) := [(G.2.1 0, .int), (G.2.1 1, .byte), (G.2.1 2, .long), (G.2.1 3, .object "Cellarscheduler$Brew")]
abbrev zK (G : zG) (U : State) : Prop := va_K G.1 vwCl (zT G) U
abbrev zP (G : zG) (ws : va_W) (H : Heap) : Prop := va_P G.1 vwCl ws H
/-- the words that no list of good words holds -/
def zw : List Cond := [
  .fieldLinkNest RX2 101 "Cellarscheduler$Brew" "labels" "I" RX2, .fieldLinkNest RX2 106 "Cellarscheduler$Brew" "labelText" "Ljava/lang/String;" RX2, .fieldLinkNest RX2 123 "Cellarscheduler$Brew" "litres" "I" RX2,
  .fieldLinkNest RX2 149 "Cellarscheduler$Brew" "strength" "I" RX2, .fieldLinkNest RX2 156 "Cellarscheduler$Brew" "isMeasured" "Z" RX2, .fieldLinkNest RX2 163 "Cellarscheduler$Brew" "tank" "I" RX2,
  .fieldLinkNest RX2 166 "Cellarscheduler$Brew" "voidLabels" "I" RX2, .fieldLinkNest RX0 41 "Cellarscheduler" "STAMPS" "[I" RX2,
  .methodLinkNest RX2 17 yX1_init RX2, .methodLinkNest RX2 72 yX0_init RX2, .methodLinkNest RX2 75 yX1_addStrength RX2, .methodLinkNest RX2 87 yX0_isGone RX2, .methodLinkNest RX2 91 yX0_labelsOfItsClass RX2,
  .methodLinkNest RX2 97 yX0_addLabels RX2, .methodLinkNest RX2 119 yX0_isReady RX2, .methodLinkNest RX2 128 yX0_fillBottles RX2, .methodLinkNest RX2 131 yX0_strengthClass RX2, .methodLinkNest RX2 139 yX0_setMeasured RX2,
  .methodLinkNest RX2 146 yX1_addBlend RX2, .methodLinkNest RX2 160 yX0_setForetold RX2, .methodLinkNest RX2 169 yX0_countBottles RX2, .methodLinkNest RX2 179 yX1_strengthAnew RX2,
  .methodLinkNest RX0 54 yX2_classOf RX2, .methodLinkNest RX0 65 yX2_textOfLabel RX2, .methodLinkNest RX0 76 yX2_stampOf RX2, .methodLinkNest RX1 42 yX2_valueAt RX2, .methodLinkNest RX1 46 yX2_blendedStrength RX2,
  .declares (Bundle.initS "java/lang/RuntimeException"), .declares (Bundle.initS "java/lang/Exception"), .declares (Bundle.initS "java/lang/Throwable"),
  .castable "java/lang/IndexOutOfBoundsException" "java/lang/IndexOutOfBoundsException", .castable "java/lang/IllegalArgumentException" "java/lang/IllegalArgumentException", .castable "java/lang/IllegalStateException" "java/lang/IllegalStateException"]
def zwOk : Cond → Bool
  | .fieldLinkNest .. => true
  | .methodLinkNest .. => true
  | .declares _ => true
  | .castable .. => true
  | _ => false
theorem zw_ok : ∀ w ∈ zw, zwOk w = true := by decide +kernel
theorem zw_warm {w : Cond} {s U : State} (h : zwOk w = true) (hW : s.WarmedH U.vm) (hz : va_Nw w s) : va_Nw w U := by
  cases w <;> first | exact va_Nw.warmF hW hz | exact va_Nw.warmM hW hz | exact va_Nw.warmD hW hz | exact va_Nw.warmC hW hz | (simp [zwOk] at h; done)
theorem zw_same {w : Cond} {u U : State} (h : zwOk w = true) (e : u.vm = U.vm) (hz : va_Nw w u) : va_Nw w U := by
  cases w <;> first | exact va_Nw.same rfl e hz | (simp [zwOk] at h; done)
theorem zw_use {w : Cond} {a : Array Value} {U : State} (h : zwOk w = true) (hz : va_Nw w U) : w.before a U = true := by
  cases w <;> first | exact va_Nw.use rfl hz | (simp [zwOk] at h; done)
/-- pairs of exceptions that aren't castable -/
def zn : List (String × String) := [("java/lang/IllegalArgumentException", "java/lang/IndexOutOfBoundsException"), ("java/lang/IllegalStateException", "java/lang/IndexOutOfBoundsException"), ("java/lang/IllegalStateException", "java/lang/IllegalArgumentException")]
/-- the texts that exceptions carry: place, text -/
def zx : List (Nat × String) := [(45, "no such tank or yeast"), (52, "litres or extract out of range"), (61, "the tank is not empty, or there are 20 brews"), (79, "days out of range"), (177, "no such brew"), (85, "many out of range"), (95, "the brew is gone, or would have too many labels"), (104, "no such place"),
  (126, "the brew is not ready, or has too few litres or labels"), (137, "strength out of range"), (142, "both brews are one, or litres out of range"), (144, "a brew is not ready, or the litres are not there or do not fit"), (172, "what out of range"), (185, "no such tank"), (188, "most out of range")]
/-- what the static tables hold -/
def zyd (j : Nat) : Int32 := match j with
  | 0 => 4
  | 1 => 7
  | _ => 12
def zyp (j : Nat) : Int32 := match j with
  | 0 => 82
  | 1 => 75
  | _ => 66
def zst (j : Nat) : Int32 := match j with
  | 0 => 1
  | 1 => 3
  | 2 => 6
  | _ => 12
def zd1 (j : Nat) : Int32 := nI (48 + j % 10)
def zd2 (j : Nat) : Int32 := nI (48 + j / 10)
/-- the text constants that are read: "", "STRONG ALE ", "ALE ", "% OF TANK " -/
def zsb : List (List Int32) := [[], [83, 84, 82, 79, 78, 71, 32, 65, 76, 69, 32], [65, 76, 69, 32], [37, 32, 79, 70, 32, 84, 65, 78, 75, 32]]
def zsl : List Nat := [0, 11, 4, 10]
/-- what stays all the time: nobody writes it -/
def zE (G : zG) (A : Nat → Prop) (U : State) (H : Heap) : Prop :=
  (∀ w ∈ zw, va_Nw w U) ∧ va_AO "Cellarscheduler$Brew" U ∧ (∀ q ∈ zn, va_Nc q.1 q.2 U) ∧
  (va_Z "Cellarscheduler" "YEAST_DAYS" "[I" (.ref (G.2.2 0)) A U H ∧ va_T .int (G.2.2 0) 3 (fun j => .int (zyd j)) A U H) ∧
  (va_Z "Cellarscheduler" "YEAST_PERCENTS" "[I" (.ref (G.2.2 1)) A U H ∧ va_T .int (G.2.2 1) 3 (fun j => .int (zyp j)) A U H) ∧
  (va_Z "Cellarscheduler" "STAMPS" "[I" (.ref (G.2.2 2)) A U H ∧ va_T .int (G.2.2 2) 4 (fun j => .int (zst j)) A U H) ∧
  (va_Z "java/lang/Integer" "DigitOnes" "[B" (.ref (G.2.2 3)) A U H ∧ va_T .byte (G.2.2 3) 100 (fun j => .int (zd1 j)) A U H) ∧
  (va_Z "java/lang/Integer" "DigitTens" "[B" (.ref (G.2.2 4)) A U H ∧ va_T .byte (G.2.2 4) 100 (fun j => .int (zd2 j)) A U H) ∧
  va_Z "java/lang/String" "COMPACT_STRINGS" "Z" (.int 1) A U H ∧ va_Zq "jdk/internal/util/Preconditions" "SIOOBE_FORMATTER" "Ljava/util/function/BiFunction;" A U H ∧
  vx_Zq Bundle.tN "UNASSIGNED_STACK" Bundle.steD A U H ∧ vx_Zq Bundle.tN "SUPPRESSED_SENTINEL" Bundle.listD A U H ∧
  vk_S 4 zsl zsb (fun i => G.2.2 (10 + i)) (fun i => G.2.2 (20 + i)) A U H ∧
  (vk_R RX0 35 "" (G.2.2 10) U ∧ vk_R RX2 204 "STRONG ALE " (G.2.2 11) U ∧ vk_R RX2 206 "ALE " (G.2.2 12) U ∧ vk_R RX2 218 "% OF TANK " (G.2.2 13) U) ∧
  ∀ q ∈ zx, ∃ a, vk_R RX2 q.1 q.2 a U
theorem zE.same {G : zG} {A : Nat → Prop} {u U : State} {H : Heap} (e : u.vm = U.vm) (h : zE G A u H) : zE G A U H := by
  have hm : u.vm.Alike U.vm := by rw [e]; exact Vm.Alike.refl U.vm
  obtain ⟨h1, h2, h3, ⟨h4, h5⟩, ⟨h6, h7⟩, ⟨h8, h9⟩, ⟨h10, h11⟩, ⟨h12, h13⟩, h14, h15, h16, h17, h18, ⟨h19, h20, h21, h22⟩, h23⟩ := h
  refine ⟨fun w hw => zw_same (zw_ok w hw) e (h1 w hw), va_AO.moved hm h2, fun q hq => (h3 q hq).moved hm, ⟨h4.moved hm, h5.moved hm⟩, ⟨h6.moved hm, h7.moved hm⟩, ⟨h8.moved hm, h9.moved hm⟩, ⟨h10.moved hm, h11.moved hm⟩, ⟨h12.moved hm, h13.moved hm⟩, h14.moved hm, h15.moved hm, h16.moved hm, h17.moved hm, h18.moved hm,
    ⟨h19.same e.symm, h20.same e.symm, h21.same e.symm, h22.same e.symm⟩, fun q hq => ?_⟩
  obtain ⟨a, ha⟩ := h23 q hq
  exact ⟨a, ha.same e.symm⟩
theorem zE.warm {G : zG} {A : Nat → Prop} {s U : State} {H : Heap} (hW : s.WarmedH U.vm) (h : zE G A s H) : zE G A U H := by
  have hm : s.vm.Alike U.vm := hW.alike
  obtain ⟨h1, h2, h3, ⟨h4, h5⟩, ⟨h6, h7⟩, ⟨h8, h9⟩, ⟨h10, h11⟩, ⟨h12, h13⟩, h14, h15, h16, h17, h18, ⟨h19, h20, h21, h22⟩, h23⟩ := h
  refine ⟨fun w hw => zw_warm (zw_ok w hw) hW (h1 w hw), va_AO.moved hm h2, fun q hq => (h3 q hq).moved hm, ⟨h4.moved hm, h5.moved hm⟩, ⟨h6.moved hm, h7.moved hm⟩, ⟨h8.moved hm, h9.moved hm⟩, ⟨h10.moved hm, h11.moved hm⟩, ⟨h12.moved hm, h13.moved hm⟩, h14.moved hm, h15.moved hm, h16.moved hm, h17.moved hm, h18.moved hm,
    ⟨h19.warm hW, h20.warm hW, h21.warm hW, h22.warm hW⟩, fun q hq => ?_⟩
  obtain ⟨a, ha⟩ := h23 q hq
  exact ⟨a, ha.warm hW⟩
theorem zE.kept {G : zG} {A : Nat → Prop} {U : State} {H H1 : Heap} (hq : ∀ a : Nat, a < H.size → ¬ A a → H1[a]? = H[a]?) (h : zE G A U H) : zE G A U H1 := by
  obtain ⟨h1, h2, h3, ⟨h4, h5⟩, ⟨h6, h7⟩, ⟨h8, h9⟩, ⟨h10, h11⟩, ⟨h12, h13⟩, h14, h15, h16, h17, h18, h19, h23⟩ := h
  exact ⟨h1, h2, h3, ⟨h4.kept hq, h5.kept hq⟩, ⟨h6.kept hq, h7.kept hq⟩, ⟨h8.kept hq, h9.kept hq⟩, ⟨h10.kept hq, h11.kept hq⟩, ⟨h12.kept hq, h13.kept hq⟩, h14.kept hq, h15.kept hq, h16.kept hq, h17.kept hq, h18.kept hq, h19, h23⟩
theorem zE.narrow {G : zG} {A B : Nat → Prop} {U : State} {H : Heap} (hAB : ∀ q, B q → A q) (h : zE G A U H) : zE G B U H := by
  obtain ⟨h1, h2, h3, ⟨h4, h5⟩, ⟨h6, h7⟩, ⟨h8, h9⟩, ⟨h10, h11⟩, ⟨h12, h13⟩, h14, h15, h16, h17, h18, h19, h23⟩ := h
  exact ⟨h1, h2, h3, ⟨h4.narrow hAB, h5.narrow hAB⟩, ⟨h6.narrow hAB, h7.narrow hAB⟩, ⟨h8.narrow hAB, h9.narrow hAB⟩, ⟨h10.narrow hAB, h11.narrow hAB⟩, ⟨h12.narrow hAB, h13.narrow hAB⟩, h14.narrow hAB, h15.narrow hAB, h16.narrow hAB, h17.narrow hAB, h18.narrow hAB, h19, h23⟩
/-- a word of zw, by its place -/
theorem zE.w {G : zG} {A : Nat → Prop} {U : State} {H : Heap} (h : zE G A U H) (i : Nat) {w : Cond} (hi : zw[i]? = some w) : va_Nw w U := h.1 w (List.mem_of_getElem? hi)
theorem zE.b {G : zG} {A : Nat → Prop} {U : State} {H : Heap} (h : zE G A U H) (i : Nat) {w : Cond} (hi : zw[i]? = some w) (a : Array Value) : w.before a U = true := zw_use (zw_ok w (List.mem_of_getElem? hi)) (h.w i hi)
/-! worlds as lists: any order, any split -/
theorem z_mem {D : va_G} {cl : List vw_C} {ws : va_W} {H : Heap} : va_P D cl ws H ↔ ∀ q ∈ ws, va_at D cl q H := by
  constructor
  · intro h q hq
    obtain ⟨k, hk⟩ := List.getElem?_of_mem hq
    exact h k q hk
  · intro h k q hk
    exact h q (List.mem_of_getElem? hk)
theorem z_dist {A : Nat → Prop} {ws : va_W} : va_D A ws ↔ ws.Pairwise (fun p q => p.1 ≠ q.1) ∧ ∀ q ∈ ws, A q.1 := by
  constructor
  · rintro ⟨h1, h2⟩
    refine ⟨List.pairwise_iff_getElem.mpr (fun i j hi hj hij e => ?_), fun q hq => ?_⟩
    · have := h1 i j _ _ (List.getElem?_eq_getElem hi) (List.getElem?_eq_getElem hj) e
      omega
    · obtain ⟨k, hk⟩ := List.getElem?_of_mem hq
      exact h2 k q hk
  · rintro ⟨h1, h2⟩
    refine ⟨fun i j p q hp hq e => ?_, fun k q hk => h2 q (List.mem_of_getElem? hk)⟩
    obtain ⟨hi, ep⟩ := List.getElem?_eq_some_iff.mp hp
    obtain ⟨hj, eq⟩ := List.getElem?_eq_some_iff.mp hq
    rcases Nat.lt_trichotomy i j with h | h | h
    · exact absurd (by rw [ep, eq]; exact e) (List.pairwise_iff_getElem.mp h1 i j hi hj h)
    · exact h
    · exact absurd (by rw [ep, eq]; exact e.symm) (List.pairwise_iff_getElem.mp h1 j i hj hi h)
theorem zP.perm {G : zG} {ws ws' : va_W} {H : Heap} (hw : ws.Perm ws') (h : zP G ws H) : zP G ws' H := z_mem.mpr (fun q hq => z_mem.mp h q (hw.mem_iff.mpr hq))
theorem zD.perm {A : Nat → Prop} {ws ws' : va_W} (hw : ws.Perm ws') (h : va_D A ws) : va_D A ws' := by
  obtain ⟨h1, h2⟩ := z_dist.mp h
  exact z_dist.mpr ⟨(hw.pairwise_iff (fun e => e.symm)).mp h1, fun q hq => h2 q (hw.mem_iff.mpr hq)⟩
theorem z_range {α : Type} (l : List α) : (List.range l.length).filterMap (fun i => l[i]?) = l := by
  induction l with
  | nil => rfl
  | cons a l ih =>
    rw [List.length_cons, List.range_succ_eq_map, List.filterMap_cons, List.filterMap_map]
    simp only [List.getElem?_cons_zero]
    congr 1
/-- a list split by places: 'is' ahead, 'js' behind -/
theorem z_pick {α : Type} {l wc wr : List α} (is js : List Nat) {n : Nat} (hn : l.length = n) (h : (is ++ js).Perm (List.range n)) (hc : is.filterMap (fun i => l[i]?) = wc) (hr : js.filterMap (fun i => l[i]?) = wr) : l.Perm (wc ++ wr) := by
  have h1 := h.filterMap (fun i => l[i]?)
  rw [← hn, z_range, List.filterMap_append, hc, hr] at h1
  exact h1.symm
theorem z_pickT {α : Type} {l wc wr : List α} (t : List α) (is js : List Nat) {n : Nat} (hn : l.length = n) (h : (is ++ js).Perm (List.range n)) (hc : is.filterMap (fun i => l[i]?) = wc) (hr : js.filterMap (fun i => l[i]?) = wr) : (l ++ t).Perm (wc ++ (wr ++ t)) := by
  rw [← List.append_assoc]
  exact (z_pick is js hn h hc hr).append_right t
theorem z_left {G : zG} {w1 w2 : va_W} {H : Heap} (h : zP G (w1 ++ w2) H) : zP G w1 H := z_mem.mpr (fun q hq => z_mem.mp h q (List.mem_append_left _ hq))
theorem z_right {G : zG} {w1 w2 : va_W} {H : Heap} (h : zP G (w1 ++ w2) H) : zP G w2 H := z_mem.mpr (fun q hq => z_mem.mp h q (List.mem_append_right _ hq))
theorem z_free {A0 : Nat → Prop} {ws wc wr : va_W} {H0 H : Heap} {locs : List Loc} (hD : va_D A0 ws) (hw : ws.Perm (wc ++ wr)) (hS : va_S A0 H0 H locs) (hA : ∀ q, H0.size ≤ q → A0 q) : ∀ q, va_A wc H.size q → A0 q := by
  rintro q (⟨k, e, hk⟩ | h)
  · exact (z_dist.mp hD).2 (q, e) (hw.mem_iff.mpr (List.mem_append_left _ (List.mem_of_getElem? hk)))
  · exact hA q (Nat.le_trans hS.1 h)
/-- behind a call: the callee's world, then the caller's other cells -/
theorem z_join {G : zG} {A0 : Nat → Prop} {ws wc wr w1 : va_W} {H H1 : Heap} (hP : zP G ws H) (hD : va_D A0 ws) (hw : ws.Perm (wc ++ wr)) (hk : ∀ q : Nat, q < H.size → ¬ va_A wc H.size q → H1[q]? = H[q]?) (hF : ∀ q, va_A wc H.size q → A0 q) (hP1 : zP G w1 H1) (hD1 : va_D (va_A wc H.size) w1) :
    zP G (w1 ++ wr) H1 ∧ va_D A0 (w1 ++ wr) := by
  have hP' : zP G (wc ++ wr) H := zP.perm hw hP
  obtain ⟨d1, d2⟩ := z_dist.mp (zD.perm hw hD)
  have hno : ∀ q ∈ wr, ¬ va_A wc H.size q.1 := by
    rintro q hq (⟨k, e, hk⟩ | h)
    · exact (List.pairwise_append.mp d1).2.2 (q.1, e) (List.mem_of_getElem? hk) q hq rfl
    · have := (z_mem.mp (z_right hP') q hq).lt
      omega
  have hr : zP G wr H1 := z_mem.mpr (fun q hq => (z_mem.mp (z_right hP') q hq).kept (hk q.1 (z_mem.mp (z_right hP') q hq).lt (hno q hq)))
  refine ⟨va_P.app hP1 hr, z_dist.mpr ⟨List.pairwise_append.mpr ⟨(z_dist.mp hD1).1, (List.pairwise_append.mp d1).2.1, fun p hp q hq e => hno q hq ?_⟩, fun q hq => ?_⟩⟩
  · rw [← e]
    exact (z_dist.mp hD1).2 p hp
  · rcases List.mem_append.mp hq with h | h
    · exact hF _ ((z_dist.mp hD1).2 q h)
    · exact d2 q (List.mem_append_right _ h)
/-- a row that agrees in its range is the same cell -/
theorem z_arr {cA : ClassId} {n : Nat} {f g : Nat → Int32} (h : ∀ j, j < n → f j = g j) : vp_cell cA (n, .inl f) = vp_cell cA (n, .inl g) := by
  rw [vp_cell_i, vp_cell_i, arrV, arrV]
  congr 1
  apply Array.ext
  · simp
  · intro i h1 h2
    simp at h1
    simp [h i (by simpa using h1)]
