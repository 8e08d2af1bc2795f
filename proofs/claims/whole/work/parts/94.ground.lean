/-! ===== the ground at the law's entry, out of what the Statement gives ===== -/
section ZG
variable {s : State} {args : Array Value} {A : Nat → Prop}
theorem z_tab {C n d : String} {ty : FieldType} {N : Nat} (f : Nat → Int32) (hN : N < 2 ^ 31) (hlay : (Cond.laysStatic C n d).before args s = true) (hini : (Cond.initialized C).before args s = true) (harr : (Cond.arrayOf (.static C n d) ty).before args s = true) (hlen : (Cond.eq (.length (.static C n d)) (.int (Int32.ofNat N))).before args s = true)
    (hel : ∀ j, j < N → (Cond.eq (.elem (.static C n d) (.int (Int32.ofNat j))) (.int (f j))).before args s = true) (hA : ∀ a : Nat, a < s.heap.size → ¬ A a) : ∃ t : Nat, va_Z C n d (.ref t) A s s.heap ∧ va_T ty t N (fun j => .int (f j)) A s s.heap := by
  obtain ⟨t, ht, hT⟩ := va_Tof (f := fun j => .int (f j)) hN harr (va_eqt hlen) (fun j hj => va_eqt (hel j hj)) hA
  exact ⟨t, va_Zof hlay hini ht hA, hT⟩
theorem z_arrK {ty : FieldType} (h : (Cond.arrayClass ty).before args s = true) : ∃ cA : ClassId, ArrOfT s cA ty ∧ s.vm.findClass ("[" ++ ty.toString) = some cA := by
  obtain ⟨c, k, comp, h1, h2, h3⟩ := Cond.arrayClass_spec h
  exact ⟨c, fun n z => ⟨(fun k h => by cases h), k, h2, comp, h3⟩, h1⟩
theorem z_arrQ {C : String} (h : (Cond.arrayOver (.object C)).before args s = true) : ∃ cA : ClassId, ArrOfT s cA (.object C) ∧ va_RA s cA (.object C) := by
  obtain ⟨comp, c, k, h1, -, h3, h4, h5⟩ := Cond.arrayOver_spec h
  exact ⟨c, fun n z => ⟨(fun k h => by cases h), k, h3, comp, h4⟩, k, comp, h3, h4, h1, h5⟩
theorem z_strE {own tx : String} {k : Nat} (h1 : (Cond.stringRef own k tx).before args s = true) (h2 : (Cond.exactly (.string own k) "java/lang/String").before args s = true) : ∃ a, vk_R own k tx a s := by
  obtain ⟨a, c, cA, kA, q1, -⟩ := Cond.exactly_spec (args := args) (first := s) (o := none) (s := s) (idx := []) (t := .string own k) (cls := "java/lang/String") h2
  exact ⟨a, vk_R.of h1 q1⟩
/-- the words of a list at the places ps of the given ones -/
theorem z_wd {f : Nat → Cond} {N : Nat} (ps : List Nat) (hp : (List.range N).map f = ps.filterMap (fun i => (flatC (Jvm.Cond.and given_1 narrow_1))[i]?)) : ∀ j, j < N → f j ∈ flatC (Jvm.Cond.and given_1 narrow_1) :=
  fun j hj => lw_mem _ ps hp _ (List.mem_map.mpr ⟨j, List.mem_range.mpr hj, rfl⟩)
set_option maxRecDepth 100000 in
theorem z_w_zyd : ∀ j, j < 3 → Cond.eq (.elem (.static "Cellarscheduler" "YEAST_DAYS" "[I") (.int (Int32.ofNat j))) (.int (zyd j)) ∈ flatC (Jvm.Cond.and given_1 narrow_1) := z_wd (f := fun j => Cond.eq (.elem (.static "Cellarscheduler" "YEAST_DAYS" "[I") (.int (Int32.ofNat j))) (.int (zyd j))) [7, 8, 9] (by decide +kernel)
set_option maxRecDepth 100000 in
theorem z_w_zyp : ∀ j, j < 3 → Cond.eq (.elem (.static "Cellarscheduler" "YEAST_PERCENTS" "[I") (.int (Int32.ofNat j))) (.int (zyp j)) ∈ flatC (Jvm.Cond.and given_1 narrow_1) := z_wd (f := fun j => Cond.eq (.elem (.static "Cellarscheduler" "YEAST_PERCENTS" "[I") (.int (Int32.ofNat j))) (.int (zyp j))) [15, 16, 17] (by decide +kernel)
set_option maxRecDepth 100000 in
theorem z_w_zst : ∀ j, j < 4 → Cond.eq (.elem (.static "Cellarscheduler" "STAMPS" "[I") (.int (Int32.ofNat j))) (.int (zst j)) ∈ flatC (Jvm.Cond.and given_1 narrow_1) := z_wd (f := fun j => Cond.eq (.elem (.static "Cellarscheduler" "STAMPS" "[I") (.int (Int32.ofNat j))) (.int (zst j))) [21, 22, 23, 24] (by decide +kernel)
set_option maxRecDepth 100000 in
theorem z_w_zd1 : ∀ j, j < 100 → Cond.eq (.elem (.static "java/lang/Integer" "DigitOnes" "[B") (.int (Int32.ofNat j))) (.int (zd1 j)) ∈ flatC (Jvm.Cond.and given_1 narrow_1) := z_wd (f := fun j => Cond.eq (.elem (.static "java/lang/Integer" "DigitOnes" "[B") (.int (Int32.ofNat j))) (.int (zd1 j))) [33, 34, 35, 36, 37, 38, 39, 40, 41, 42, 43, 44, 45, 46, 47, 48, 49, 50, 51, 52, 53, 54, 55, 56, 57, 58, 59, 60, 61, 62, 63, 64, 65, 66, 67, 68, 69, 70, 71, 72, 73, 74, 75, 76, 77, 78, 79, 80, 81, 82, 83, 84, 85, 86, 87, 88, 89, 90, 91, 92, 93, 94, 95, 96, 97, 98, 99, 100, 101, 102, 103, 104, 105, 106, 107, 108, 109, 110, 111, 112, 113, 114, 115, 116, 117, 118, 119, 120, 121, 122, 123, 124, 125, 126, 127, 128, 129, 130, 131, 132] (by decide +kernel)
set_option maxRecDepth 100000 in
theorem z_w_zd2 : ∀ j, j < 100 → Cond.eq (.elem (.static "java/lang/Integer" "DigitTens" "[B") (.int (Int32.ofNat j))) (.int (zd2 j)) ∈ flatC (Jvm.Cond.and given_1 narrow_1) := z_wd (f := fun j => Cond.eq (.elem (.static "java/lang/Integer" "DigitTens" "[B") (.int (Int32.ofNat j))) (.int (zd2 j))) [136, 137, 138, 139, 140, 141, 142, 143, 144, 145, 146, 147, 148, 149, 150, 151, 152, 153, 154, 155, 156, 157, 158, 159, 160, 161, 162, 163, 164, 165, 166, 167, 168, 169, 170, 171, 172, 173, 174, 175, 176, 177, 178, 179, 180, 181, 182, 183, 184, 185, 186, 187, 188, 189, 190, 191, 192, 193, 194, 195, 196, 197, 198, 199, 200, 201, 202, 203, 204, 205, 206, 207, 208, 209, 210, 211, 212, 213, 214, 215, 216, 217, 218, 219, 220, 221, 222, 223, 224, 225, 226, 227, 228, 229, 230, 231, 232, 233, 234, 235] (by decide +kernel)
def zTm (i : Nat) : Term := match i with
  | 0 => .string "Cellarscheduler$Brew" 35
  | 1 => .string "Cellarscheduler" 204
  | 2 => .string "Cellarscheduler" 206
  | _ => .string "Cellarscheduler" 218
set_option maxRecDepth 100000 in
theorem z_s_ex : ∀ i, i < 4 → Cond.exactly (zTm i) "java/lang/String" ∈ flatC (Jvm.Cond.and given_1 narrow_1) := z_wd (f := fun i => Cond.exactly (zTm i) "java/lang/String") [370, 508, 531, 548] (by decide +kernel)
set_option maxRecDepth 100000 in
theorem z_s_co : ∀ i, i < 4 → Cond.eq (.field (zTm i) "java/lang/String" "coder" "B") (.int 0) ∈ flatC (Jvm.Cond.and given_1 narrow_1) := z_wd (f := fun i => Cond.eq (.field (zTm i) "java/lang/String" "coder" "B") (.int 0)) [371, 509, 532, 549] (by decide +kernel)
set_option maxRecDepth 100000 in
theorem z_s_ar : ∀ i, i < 4 → Cond.arrayOf (.field (zTm i) "java/lang/String" "value" "[B") .byte ∈ flatC (Jvm.Cond.and given_1 narrow_1) := z_wd (f := fun i => Cond.arrayOf (.field (zTm i) "java/lang/String" "value" "[B") .byte) [372, 510, 533, 550] (by decide +kernel)
set_option maxRecDepth 100000 in
theorem z_s_le : ∀ i, i < 4 → Cond.eq (.length (.field (zTm i) "java/lang/String" "value" "[B")) (.int (Int32.ofNat (zsl.getD i 0))) ∈ flatC (Jvm.Cond.and given_1 narrow_1) := z_wd (f := fun i => Cond.eq (.length (.field (zTm i) "java/lang/String" "value" "[B")) (.int (Int32.ofNat (zsl.getD i 0)))) [373, 511, 534, 551] (by decide +kernel)
set_option maxRecDepth 100000 in
theorem z_s_el0 : ∀ j, j < 0 → Cond.eq (.elem (.field (zTm 0) "java/lang/String" "value" "[B") (.int (Int32.ofNat j))) (.int ((zsb.getD 0 []).getD j 0)) ∈ flatC (Jvm.Cond.and given_1 narrow_1) := z_wd (f := fun j => Cond.eq (.elem (.field (zTm 0) "java/lang/String" "value" "[B") (.int (Int32.ofNat j))) (.int ((zsb.getD 0 []).getD j 0))) [] (by decide +kernel)
set_option maxRecDepth 100000 in
theorem z_s_el1 : ∀ j, j < 11 → Cond.eq (.elem (.field (zTm 1) "java/lang/String" "value" "[B") (.int (Int32.ofNat j))) (.int ((zsb.getD 1 []).getD j 0)) ∈ flatC (Jvm.Cond.and given_1 narrow_1) := z_wd (f := fun j => Cond.eq (.elem (.field (zTm 1) "java/lang/String" "value" "[B") (.int (Int32.ofNat j))) (.int ((zsb.getD 1 []).getD j 0))) [512, 513, 514, 515, 516, 517, 518, 519, 520, 521, 522] (by decide +kernel)
set_option maxRecDepth 100000 in
theorem z_s_el2 : ∀ j, j < 4 → Cond.eq (.elem (.field (zTm 2) "java/lang/String" "value" "[B") (.int (Int32.ofNat j))) (.int ((zsb.getD 2 []).getD j 0)) ∈ flatC (Jvm.Cond.and given_1 narrow_1) := z_wd (f := fun j => Cond.eq (.elem (.field (zTm 2) "java/lang/String" "value" "[B") (.int (Int32.ofNat j))) (.int ((zsb.getD 2 []).getD j 0))) [535, 536, 537, 538] (by decide +kernel)
set_option maxRecDepth 100000 in
theorem z_s_el3 : ∀ j, j < 10 → Cond.eq (.elem (.field (zTm 3) "java/lang/String" "value" "[B") (.int (Int32.ofNat j))) (.int ((zsb.getD 3 []).getD j 0)) ∈ flatC (Jvm.Cond.and given_1 narrow_1) := z_wd (f := fun j => Cond.eq (.elem (.field (zTm 3) "java/lang/String" "value" "[B") (.int (Int32.ofNat j))) (.int ((zsb.getD 3 []).getD j 0))) [552, 553, 554, 555, 556, 557, 558, 559, 560, 561] (by decide +kernel)
set_option maxRecDepth 100000 in
theorem z_s_ne01 : Cond.not (Cond.eq (zTm 0) (zTm 1)) ∈ flatC (Jvm.Cond.and given_1 narrow_1) := List.mem_of_getElem? (i := 526) (by decide +kernel)
set_option maxRecDepth 100000 in
theorem z_s_ne02 : Cond.not (Cond.eq (zTm 0) (zTm 2)) ∈ flatC (Jvm.Cond.and given_1 narrow_1) := List.mem_of_getElem? (i := 542) (by decide +kernel)
set_option maxRecDepth 100000 in
theorem z_s_ne03 : Cond.not (Cond.eq (zTm 0) (zTm 3)) ∈ flatC (Jvm.Cond.and given_1 narrow_1) := List.mem_of_getElem? (i := 565) (by decide +kernel)
set_option maxRecDepth 100000 in
theorem z_s_ne12 : Cond.not (Cond.eq (zTm 1) (zTm 2)) ∈ flatC (Jvm.Cond.and given_1 narrow_1) := List.mem_of_getElem? (i := 547) (by decide +kernel)
set_option maxRecDepth 100000 in
theorem z_s_ne13 : Cond.not (Cond.eq (zTm 1) (zTm 3)) ∈ flatC (Jvm.Cond.and given_1 narrow_1) := List.mem_of_getElem? (i := 570) (by decide +kernel)
set_option maxRecDepth 100000 in
theorem z_s_ne23 : Cond.not (Cond.eq (zTm 2) (zTm 3)) ∈ flatC (Jvm.Cond.and given_1 narrow_1) := List.mem_of_getElem? (i := 571) (by decide +kernel)
set_option maxRecDepth 100000 in
theorem z_zw_in : ∀ w ∈ zw, w ∈ lw_tbl := by decide +kernel
theorem z_zw_on : ∀ w ∈ zw, w.onTables = true := by decide +kernel
set_option maxRecDepth 100000 in
theorem z_zx_in : ∀ q ∈ zx, Cond.stringRef RX2 q.1 q.2 ∈ lw_tbl := by decide +kernel
set_option maxRecDepth 100000 in
theorem z_zx_ex : ∀ q ∈ zx, Cond.exactly (.string RX2 q.1) "java/lang/String" ∈ flatC (Jvm.Cond.and given_1 narrow_1) := by decide +kernel
set_option maxRecDepth 100000 in
theorem z_zn_in : ∀ q ∈ zn, Cond.not (.castable q.1 q.2) ∈ flatC (Jvm.Cond.and given_1 narrow_1) := by decide +kernel
set_option maxRecDepth 100000 in
set_option maxHeartbeats 8000000 in
/-- the ground -/
theorem z_ground (hts : ∀ w ∈ lw_tbl, w.before args s = true) (hgv : (Jvm.Cond.and given_1 narrow_1).before args s = true) (hA : ∀ a : Nat, a < s.heap.size → ¬ A a) : ∃ G : zG, zK G s ∧ zE G A s s.heap := by
  have hs := flat_of_before _ hgv
  obtain ⟨c0, i0, hKn0⟩ := u_known (C := RJ0) (T := TJ0) (N := 4) (n := 4) hts inJ0 (hts (.instantiable RJ0 4) (by decide +kernel))
  obtain ⟨c1, i1, hKn1⟩ := u_known (C := RJ4) (T := TJ4) (N := 4) (n := 4) hts inJ4 (hts (.instantiable RJ4 4) (by decide +kernel))
  obtain ⟨c2, i2, hKn2⟩ := u_known (C := RX0) (T := TX0) (N := 10) (n := 10) hts inX0 (hts (.instantiable RX0 10) (by decide +kernel))
  obtain ⟨c3, i3, hKn3⟩ := u_known (C := RX1) (T := TX1) (N := 7) (n := 7) hts inX1 (hts (.instantiable RX1 7) (by decide +kernel))
  obtain ⟨c4, i4, hKn4⟩ := u_known (C := RX2) (T := TX2) (N := 6) (n := 6) hts inX2 (hts (.instantiable RX2 6) (by decide +kernel))
  obtain ⟨c5, i5, hKn5⟩ := u_known (C := RX3) (T := TX3) (N := 17) (n := 17) hts inX3 (hts (.instantiable RX3 17) (by decide +kernel))
  obtain ⟨a0, b0, d0⟩ := z_arrK (hts (.arrayClass .int) (by decide +kernel))
  obtain ⟨a1, b1, d1⟩ := z_arrK (hts (.arrayClass .byte) (by decide +kernel))
  obtain ⟨a2, b2, d2⟩ := z_arrK (hts (.arrayClass .long) (by decide +kernel))
  have hao := hts (.arrayOver (.object "Cellarscheduler$Brew")) (by decide +kernel)
  obtain ⟨a3, b3, d3⟩ := z_arrQ hao
  obtain ⟨t0, u0, w0⟩ := z_tab (C := "Cellarscheduler") (n := "YEAST_DAYS") (d := "[I") (ty := .int) (N := 3) (A := A) zyd (by decide) (hts (.laysStatic "Cellarscheduler" "YEAST_DAYS" "[I") (by decide +kernel)) (hts (.initialized "Cellarscheduler") (by decide +kernel)) (hs _ (List.mem_of_getElem? (i := 5) (by decide +kernel))) (hs _ (List.mem_of_getElem? (i := 6) (by decide +kernel))) (fun j hj => hs _ (z_w_zyd j hj)) hA
  obtain ⟨t1, u1, w1⟩ := z_tab (C := "Cellarscheduler") (n := "YEAST_PERCENTS") (d := "[I") (ty := .int) (N := 3) (A := A) zyp (by decide) (hts (.laysStatic "Cellarscheduler" "YEAST_PERCENTS" "[I") (by decide +kernel)) (hts (.initialized "Cellarscheduler") (by decide +kernel)) (hs _ (List.mem_of_getElem? (i := 13) (by decide +kernel))) (hs _ (List.mem_of_getElem? (i := 14) (by decide +kernel))) (fun j hj => hs _ (z_w_zyp j hj)) hA
  obtain ⟨t2, u2, w2⟩ := z_tab (C := "Cellarscheduler") (n := "STAMPS") (d := "[I") (ty := .int) (N := 4) (A := A) zst (by decide) (hts (.laysStatic "Cellarscheduler" "STAMPS" "[I") (by decide +kernel)) (hts (.initialized "Cellarscheduler") (by decide +kernel)) (hs _ (List.mem_of_getElem? (i := 19) (by decide +kernel))) (hs _ (List.mem_of_getElem? (i := 20) (by decide +kernel))) (fun j hj => hs _ (z_w_zst j hj)) hA
  obtain ⟨t3, u3, w3⟩ := z_tab (C := "java/lang/Integer") (n := "DigitOnes") (d := "[B") (ty := .byte) (N := 100) (A := A) zd1 (by decide) (hts (.laysStatic "java/lang/Integer" "DigitOnes" "[B") (by decide +kernel)) (hts (.initialized "java/lang/Integer") (by decide +kernel)) (hs _ (List.mem_of_getElem? (i := 31) (by decide +kernel))) (hs _ (List.mem_of_getElem? (i := 32) (by decide +kernel))) (fun j hj => hs _ (z_w_zd1 j hj)) hA
  obtain ⟨t4, u4, w4⟩ := z_tab (C := "java/lang/Integer") (n := "DigitTens") (d := "[B") (ty := .byte) (N := 100) (A := A) zd2 (by decide) (hts (.laysStatic "java/lang/Integer" "DigitTens" "[B") (by decide +kernel)) (hts (.initialized "java/lang/Integer") (by decide +kernel)) (hs _ (List.mem_of_getElem? (i := 134) (by decide +kernel))) (hs _ (List.mem_of_getElem? (i := 135) (by decide +kernel))) (fun j hj => hs _ (z_w_zd2 j hj)) hA
  obtain ⟨adK, adV, hSs, hSe⟩ := vk_Sof (N := 4) (tm := zTm) (len := zsl) (byt := zsb) (A := A) (args := args) (s := s) (by decide) (fun i hi => hs _ (z_s_ex i hi)) (fun i hi => hs _ (z_s_co i hi)) (fun i hi => hs _ (z_s_ar i hi)) (fun i hi => hs _ (z_s_le i hi))
    (fun i hi j hj => by
      rcases (by omega : i = 0 ∨ i = 1 ∨ i = 2 ∨ i = 3) with rfl | rfl | rfl | rfl
      · exact hs _ (z_s_el0 j hj)
      · exact hs _ (z_s_el1 j hj)
      · exact hs _ (z_s_el2 j hj)
      · exact hs _ (z_s_el3 j hj))
    (fun i j hi hj hne => by
      rcases (by omega : i = 0 ∨ i = 1 ∨ i = 2 ∨ i = 3) with rfl | rfl | rfl | rfl <;> rcases (by omega : j = 0 ∨ j = 1 ∨ j = 2 ∨ j = 3) with rfl | rfl | rfl | rfl
      · exact absurd rfl hne
      · exact Or.inl (hs _ z_s_ne01)
      · exact Or.inl (hs _ z_s_ne02)
      · exact Or.inl (hs _ z_s_ne03)
      · exact Or.inr (hs _ z_s_ne01)
      · exact absurd rfl hne
      · exact Or.inl (hs _ z_s_ne12)
      · exact Or.inl (hs _ z_s_ne13)
      · exact Or.inr (hs _ z_s_ne02)
      · exact Or.inr (hs _ z_s_ne12)
      · exact absurd rfl hne
      · exact Or.inl (hs _ z_s_ne23)
      · exact Or.inr (hs _ z_s_ne03)
      · exact Or.inr (hs _ z_s_ne13)
      · exact Or.inr (hs _ z_s_ne23)
      · exact absurd rfl hne) hA
  refine ⟨((fun k => match k with
    | 0 => c0
    | 1 => c1
    | 2 => c2
    | 3 => c3
    | 4 => c4
    | _ => c5, fun k => match k with
    | 0 => i0
    | 1 => i1
    | 2 => i2
    | 3 => i3
    | 4 => i4
    | _ => i5), (fun k => match k with
    | 0 => a0
    | 1 => a1
    | 2 => a2
    | _ => a3), fun k => match k with
    | 0 => t0
    | 1 => t1
    | 2 => t2
    | 3 => t3
    | 4 => t4
    | 10 => adK 0
    | 11 => adK 1
    | 12 => adK 2
    | 13 => adK 3
    | 20 => adV 0
    | 21 => adV 1
    | 22 => adV 2
    | _ => adV 3), ⟨fun k q hq => ?_, fun k q hq => ?_⟩, ?_⟩
  · match k, hq with
    | 0, hq => cases hq; exact hKn0
    | 1, hq => cases hq; exact hKn1
    | 2, hq => cases hq; exact hKn2
    | 3, hq => cases hq; exact hKn3
    | 4, hq => cases hq; exact hKn4
    | 5, hq => cases hq; exact hKn5
    | k + 6, hq => simp [vwCl] at hq
  · match k, hq with
    | 0, hq => cases hq; exact ⟨b0, d0⟩
    | 1, hq => cases hq; exact ⟨b1, d1⟩
    | 2, hq => cases hq; exact ⟨b2, d2⟩
    | 3, hq => cases hq; exact ⟨b3, d3⟩
    | k + 4, hq => simp [zT] at hq
  · have hR : ∀ i own k tx, i < 4 → zTm i = .string own k → (Cond.stringRef own k tx).before args s = true → vk_R own k tx (adK i) s := fun i own k tx hi he h => vk_R.of h (by rw [← he]; exact hSe i hi)
    refine ⟨fun w hw => va_Nw.of (z_zw_on w hw) (hts w (z_zw_in w hw)), va_AO.of hao, fun q hq => va_Nc.of (hs _ (z_zn_in q hq)), ⟨u0, w0⟩, ⟨u1, w1⟩, ⟨u2, w2⟩, ⟨u3, w3⟩, ⟨u4, w4⟩, ?_, ?_, ?_, ?_, ?_, ⟨?_, ?_, ?_, ?_⟩, fun q hq => z_strE (hts _ (z_zx_in q hq)) (hs _ (z_zx_ex q hq))⟩
    · exact va_Zof (hts (.laysStatic "java/lang/String" "COMPACT_STRINGS" "Z") (by decide +kernel)) (hts (.initialized "java/lang/String") (by decide +kernel)) (va_eqi (hs _ (List.mem_of_getElem? (i := 25) (by decide +kernel)))) hA
    · exact va_Zqof (hts (.laysStatic "jdk/internal/util/Preconditions" "SIOOBE_FORMATTER" "Ljava/util/function/BiFunction;") (by decide +kernel)) (hts (.initialized "jdk/internal/util/Preconditions") (by decide +kernel)) (hs _ (List.mem_of_getElem? (i := 26) (by decide +kernel))) hA
    · exact vx_Zqof (hts (.laysStatic "java/lang/Throwable" "UNASSIGNED_STACK" "[Ljava/lang/StackTraceElement;") (by decide +kernel)) (hts (.initialized "java/lang/Throwable") (by decide +kernel)) (hs _ (List.mem_of_getElem? (i := 10) (by decide +kernel))) hA
    · exact vx_Zqof (hts (.laysStatic "java/lang/Throwable" "SUPPRESSED_SENTINEL" "Ljava/util/List;") (by decide +kernel)) (hts (.initialized "java/lang/Throwable") (by decide +kernel)) (hs _ (List.mem_of_getElem? (i := 11) (by decide +kernel))) hA
    · refine ⟨fun i hi => ?_, fun i j hi hj he => ?_⟩
      · rcases (by omega : i = 0 ∨ i = 1 ∨ i = 2 ∨ i = 3) with rfl | rfl | rfl | rfl
        · exact hSs.1 0 (by decide)
        · exact hSs.1 1 (by decide)
        · exact hSs.1 2 (by decide)
        · exact hSs.1 3 (by decide)
      · rcases (by omega : i = 0 ∨ i = 1 ∨ i = 2 ∨ i = 3) with rfl | rfl | rfl | rfl <;> rcases (by omega : j = 0 ∨ j = 1 ∨ j = 2 ∨ j = 3) with rfl | rfl | rfl | rfl <;> exact hSs.2 _ _ hi hj he
    · exact hR 0 RX0 35 "" (by decide) rfl (hts _ (by decide +kernel))
    · exact hR 1 RX2 204 "STRONG ALE " (by decide) rfl (hts _ (by decide +kernel))
    · exact hR 2 RX2 206 "ALE " (by decide) rfl (hts _ (by decide +kernel))
    · exact hR 3 RX2 218 "% OF TANK " (by decide) rfl (hts _ (by decide +kernel))
end ZG
