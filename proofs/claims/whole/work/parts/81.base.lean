/-! ===== equalities of the functions of class and model ===== -/
theorem z_within (va le mo : Int32) : f_X2_isWithin va le mo = f_X3_in va le mo := rfl
theorem z_clsEq (sg : Int32) : f_X2_classOf sg = f_X3_classOf sg := rfl
theorem z_us (f : Nat → Int32) (k : Nat) (v : Int32) : upd f k v k = v := by simp [upd]
theorem z_un (f : Nat → Int32) {k j : Nat} (v : Int32) (h : j ≠ k) : upd f k v j = f j := by simp [upd, h]
theorem z_inOf {x lo hi : Int32} (a b : Nat) (ha : lo = nI a) (hb : hi = nI b) (hA : a < 2 ^ 31) (hB : b < 2 ^ 31) (h : ¬ f_X3_in x lo hi = 0) : ∃ v, x = nI v ∧ a ≤ v ∧ v ≤ b := by
  subst ha hb
  unfold f_X3_in at h
  by_cases h1 : x < nI a
  · rw [if_pos h1] at h
    exact absurd rfl h
  · rw [if_neg h1] at h
    by_cases h2 : nI b < x
    · rw [if_pos h2] at h
      exact absurd rfl h
    · have h0 : ¬ x < 0 := fun h3 => h1 (Int32.lt_of_lt_of_le h3 (nI_pos' hA))
      obtain ⟨j, hj, rfl⟩ := nI_of h0
      rw [nI_ltI hj hA] at h1
      rw [nI_ltI hB hj] at h2
      exact ⟨j, rfl, by omega, by omega⟩
theorem z_inI {lo hi : Int32} {v : Nat} (a b : Nat) (ha : lo = nI a) (hb : hi = nI b) (hB : b < 2 ^ 31) (h1 : a ≤ v) (h2 : v ≤ b) : ¬ f_X3_in (nI v) lo hi = 0 := by
  subst ha hb
  unfold f_X3_in
  rw [if_neg (nI_nlt h1 (by omega)), if_neg (nI_nlt h2 (by omega))]
  decide
theorem z_bb {n : Nat} (hn : n ≤ 20) (bb : Int32) : (f_X2_isBegun (nI n) bb = 0 ∧ f_X3_in bb 0 (nI n - 1) = 0) ∨ ∃ jj, jj < n ∧ bb = nI jj ∧ ¬ f_X3_in (nI jj) 0 (nI n - 1) = 0 := by
  have e1 : (nI n - nI 1).toInt = (n : Int) - 1 := by
    have := pk_sub_toInt (a := n) (b := 1) (by omega) (by decide)
    simpa using this
  have e : nI n - 1 = nI n - nI 1 := rfl
  rcases pk_ix bb (n := n) (by omega) with h | h | ⟨j, hj, rfl⟩
  · exact Or.inl ⟨by unfold f_X2_isBegun; rw [if_pos h], by unfold f_X3_in; rw [if_pos h]⟩
  · by_cases h0 : bb < 0
    · exact Or.inl ⟨by unfold f_X2_isBegun; rw [if_pos h0], by unfold f_X3_in; rw [if_pos h0]⟩
    · refine Or.inl ⟨by unfold f_X2_isBegun; rw [if_neg h0, if_pos h], ?_⟩
      unfold f_X3_in
      rw [if_neg h0, if_pos]
      rw [e, Int32.lt_iff_toInt_lt, e1]
      rw [Int32.le_iff_toInt_le, nI_toInt (by omega)] at h
      omega
  · refine Or.inr ⟨j, hj, rfl, ?_⟩
    unfold f_X3_in
    rw [if_neg (nI_pos (by omega)), if_neg]
    · decide
    · rw [e, Int32.lt_iff_toInt_lt, e1, nI_toInt (by omega)]
      omega
theorem z_cls4 (sg : Int32) : ∃ kc, kc < 4 ∧ f_X3_classOf sg = nI kc := by
  rcases z_mcls sg with h | h | h | h
  · exact ⟨0, by decide, h⟩
  · exact ⟨1, by decide, h⟩
  · exact ⟨2, by decide, h⟩
  · exact ⟨3, by decide, h⟩
theorem z_gone1 : f_X0_isGone 0 = 1 := by decide
theorem z_gone0 {v : Nat} (h0 : 0 < v) (h : v < 2 ^ 31) : f_X0_isGone (nI v) = 0 := by
  unfold f_X0_isGone
  rw [if_pos]
  exact nI_lt (a := 0) h0 h
theorem z_goneI {v : Nat} (h : v < 2 ^ 31) : f_X0_isGone (nI v) = 0 ↔ ¬ nI v = 0 := by
  rcases Nat.eq_zero_or_pos v with e | e
  · subst e
    decide
  · rw [z_gone0 e h]
    exact ⟨fun _ => nI_ne0 e h, fun _ => rfl⟩
theorem z_days3 {w : Nat} (h : w < 3) : ∃ q, q ≤ 12 ∧ f_X3_days (nI w) = nI q ∧ f_X2_valueAt_d (nI w) = nI q := by
  rcases (by omega : w = 0 ∨ w = 1 ∨ w = 2) with e | e | e <;> subst e
  · exact ⟨4, by decide, by decide, by decide⟩
  · exact ⟨7, by decide, by decide, by decide⟩
  · exact ⟨12, by decide, by decide, by decide⟩
theorem z_perc3 {w : Nat} (h : w < 3) : ∃ q, q ≤ 82 ∧ f_X3_percent (nI w) = nI q ∧ f_X2_valueAt_p (nI w) = nI q := by
  rcases (by omega : w = 0 ∨ w = 1 ∨ w = 2) with e | e | e <;> subst e
  · exact ⟨82, by decide, by decide, by decide⟩
  · exact ⟨75, by decide, by decide, by decide⟩
  · exact ⟨66, by decide, by decide, by decide⟩
theorem z_fore {e w : Nat} (he : e ≤ 300) (hw : w < 3) : ∃ v, v ≤ 250 ∧ f_X2_foretoldStrength (nI e) (nI w) = nI v ∧ (nI e * f_X3_percent (nI w)) / 200 = nI v := by
  obtain ⟨q, hq, h1, h2⟩ := z_perc3 hw
  have hm : e * q ≤ 300 * 82 := Nat.mul_le_mul he hq
  refine ⟨e * q / 200, by omega, ?_, ?_⟩
  · unfold f_X2_foretoldStrength
    rw [h2, pk_mul]
    exact pk_div (by omega) (by decide) (by decide)
  · rw [h1, pk_mul]
    exact pk_div (by omega) (by decide) (by decide)
theorem z_ready {dy rp : Int32} {bl bd yy : Nat → Int32} {jj v b w d : Nat} (h1 : bl jj = nI v) (h2 : bd jj = nI b) (h3 : yy jj = nI w) (hd : dy = nI d) (hr : rp = bd jj + f_X3_days (yy jj)) (hv : v ≤ 1000) (hb : b ≤ 51200) (hw : w < 3) (hdd : d ≤ 51200) :
    f_X0_isReady rp (bl jj) dy = f_X3_isRipe dy bl bd yy jj := by
  obtain ⟨q, hq, e1, -⟩ := z_days3 hw
  unfold f_X0_isReady f_X3_isRipe
  rw [hr, h1, h2, h3, e1, hd]
  have e2 : (nI d < nI b + nI q) ↔ (nI d - nI b < nI q) := by
    rw [nI_add, nI_ltI (by omega) (by omega), Int32.lt_iff_toInt_lt, pk_sub_toInt (by omega) (by omega), nI_toInt (by omega)]
    omega
  rcases Nat.eq_zero_or_pos v with e | e
  · subst e
    rw [if_pos (by decide : nI 0 ≤ 0), if_neg (by decide)]
  · rw [if_pos (z_gone0 e (by omega)), if_neg (nI_nle e (by omega))]
    by_cases h : nI d < nI b + nI q
    · rw [if_pos h, if_pos (e2.mp h)]
    · rw [if_neg h, if_neg (fun h' => h (e2.mpr h'))]
theorem z_stamp {kc : Nat} (h : kc < 4) : f_X2_stampOf (nI kc) = f_X3_stamp (nI kc) := by
  rcases (by omega : kc = 0 ∨ kc = 1 ∨ kc = 2 ∨ kc = 3) with e | e | e | e <;> subst e <;> decide
theorem z_addB (f : Nat → Int32) {kc : Nat} (h : kc < 4) (mn : Int32) : f_X0_addBottles_bf f (nI kc) mn = upd f kc (f kc + mn) := by
  have h4 : ¬ (4 : Int32) ≤ nI kc := nI_ge (b := 4) (a := kc) h (by decide)
  unfold f_X0_addBottles_bf
  rw [if_neg (nI_pos (by omega)), if_neg h4, nI_clamp (by omega)]
theorem z_ab1 (f : Nat → Int32) (mn : Int32) : f_X0_addBottles_bf f 1 mn = upd f 1 (f 1 + mn) := z_addB f (kc := 1) (by decide) mn
theorem z_ab2 (f : Nat → Int32) (mn : Int32) : f_X0_addBottles_bf f 2 mn = upd f 2 (f 2 + mn) := z_addB f (kc := 2) (by decide) mn
theorem z_ab3 (f : Nat → Int32) (mn : Int32) : f_X0_addBottles_bf f 3 mn = upd f 3 (f 3 + mn) := z_addB f (kc := 3) (by decide) mn
theorem z_c10 : ¬ (1 : Int32) = 0 := by decide
theorem z_c20 : ¬ (2 : Int32) = 0 := by decide
theorem z_c21 : ¬ (2 : Int32) = 1 := by decide
theorem z_c30 : ¬ (3 : Int32) = 0 := by decide
theorem z_c31 : ¬ (3 : Int32) = 1 := by decide
theorem z_c32 : ¬ (3 : Int32) = 2 := by decide
theorem z_mlf (ow : Int32) (lf lc gn bo : Nat → Int32) (jj : Nat) (sg : Int32) : f_X3_measures_lf ow lf lc gn bo jj sg = if f_X3_classOf sg ≤ lc jj then lf else upd lf jj 0 := by
  unfold f_X3_measures_lf
  rcases z_mcls sg with h | h | h | h <;> rw [h]
  · rw [if_pos rfl]
  · rw [if_neg z_c10, if_pos rfl]
  · rw [if_neg z_c20, if_neg z_c21, if_pos rfl]
  · rw [if_neg z_c30, if_neg z_c31, if_neg z_c32]
theorem z_mgn (ow : Int32) (lf lc gn bo : Nat → Int32) (jj : Nat) (sg : Int32) : f_X3_measures_gn ow lf lc gn bo jj sg = if f_X3_classOf sg ≤ lc jj then gn else upd gn jj (gn jj + lf jj) := by
  unfold f_X3_measures_gn
  rcases z_mcls sg with h | h | h | h <;> rw [h]
  · rw [if_pos rfl]
  · rw [if_neg z_c10, if_pos rfl]
  · rw [if_neg z_c20, if_neg z_c21, if_pos rfl]
  · rw [if_neg z_c30, if_neg z_c31, if_neg z_c32]
/-- the rows of bottles behind a raise to class 0, 1, 2, 3, in one form for class (base 0) and model (base 4 * jj) -/
theorem z_mbo (ow : Int32) (lf lc gn bo f : Nat → Int32) (jj : Nat) (sg : Int32) (hf : ∀ c, c < 4 → f c = bo (4 * jj + c)) :
    f_X0_raiseStamps f (f_X3_classOf sg) = f_X3_measures ow lf lc gn bo jj sg ∧ f_X3_measures_ow ow lf lc gn bo jj sg = ow + f_X3_measures ow lf lc gn bo jj sg ∧
    (∀ c, c < 4 → f_X0_raiseStamps_bf f (f_X3_classOf sg) c = f_X3_measures_bo ow lf lc gn bo jj sg (4 * jj + c)) ∧ ∀ q, (∀ c, c < 4 → q ≠ 4 * jj + c) → f_X3_measures_bo ow lf lc gn bo jj sg q = bo q := by
  have h0 : f 0 = bo (4 * jj) := hf 0 (by decide)
  have h1 : f 1 = bo (4 * jj + 1) := hf 1 (by decide)
  have h2 : f 2 = bo (4 * jj + 2) := hf 2 (by decide)
  have h3 : f 3 = bo (4 * jj + 3) := hf 3 (by decide)
  unfold f_X0_raiseStamps f_X0_raiseStamps_bf f_X3_measures f_X3_measures_ow f_X3_measures_bo
  rcases z_mcls sg with h | h | h | h <;> rw [h]
  · simp only [if_true, ite_self]
    refine ⟨?_, ?_, ?_, ?_⟩ <;> first | trivial | exact hf | exact fun _ _ => trivial
  · simp only [if_neg z_c10, if_true, ite_self, z_ab1]
    refine ⟨by simp [h0], trivial, fun c hc => ?_, fun q hq => ?_⟩
    · rcases (by omega : c = 0 ∨ c = 1 ∨ c = 2 ∨ c = 3) with e | e | e | e <;> subst e <;> simp [upd, h0, h1, h2, h3]
    · have a0 := hq 0 (by decide)
      have a1 := hq 1 (by decide)
      rw [z_un _ _ a0, z_un _ _ a1]
  · simp only [if_neg z_c20, if_neg z_c21, if_true, ite_self, z_ab2]
    refine ⟨by simp [upd, h0, h1, h2, h3], trivial, fun c hc => ?_, fun q hq => ?_⟩
    · rcases (by omega : c = 0 ∨ c = 1 ∨ c = 2 ∨ c = 3) with e | e | e | e <;> subst e <;> simp [upd, h0, h1, h2, h3]
    · have a0 := hq 0 (by decide)
      have a1 := hq 1 (by decide)
      have a2 := hq 2 (by decide)
      rw [z_un _ _ a1, z_un _ _ a2, z_un _ _ a0, z_un _ _ a2]
  · simp only [if_neg z_c30, if_neg z_c31, if_neg z_c32, ite_self, z_ab3]
    refine ⟨by simp [upd, h0, h1, h2, h3], trivial, fun c hc => ?_, fun q hq => ?_⟩
    · rcases (by omega : c = 0 ∨ c = 1 ∨ c = 2 ∨ c = 3) with e | e | e | e <;> subst e <;> simp [upd, h0, h1, h2, h3]
    · have a0 := hq 0 (by decide)
      have a1 := hq 1 (by decide)
      have a2 := hq 2 (by decide)
      have a3 := hq 3 (by decide)
      rw [z_un _ _ a2, z_un _ _ a3, z_un _ _ a1, z_un _ _ a3, z_un _ _ a0, z_un _ _ a3]
theorem z_blendN {s l s2 g : Nat} (hs : s ≤ 250) (hs2 : s2 ≤ 250) (hg : 1 ≤ g) (h : l + g ≤ 1000) :
    f_X2_blendedStrength (nI s) (nI l) (nI s2) (nI g) = nI ((s * l + s2 * g) / (l + g)) ∧ (nI s * nI l + nI s2 * nI g) / (nI l + nI g) = nI ((s * l + s2 * g) / (l + g)) ∧ (s * l + s2 * g) / (l + g) ≤ 250 := by
  have m1 : s * l ≤ 250 * l := Nat.mul_le_mul_right _ hs
  have m2 : s2 * g ≤ 250 * g := Nat.mul_le_mul_right _ hs2
  have e2 : (nI s * nI l + nI s2 * nI g) / (nI l + nI g) = nI ((s * l + s2 * g) / (l + g)) := by
    rw [pk_mul, pk_mul, nI_add, nI_add]
    exact pk_div (by omega) (by omega) (by omega)
  refine ⟨?_, e2, ?_⟩
  · unfold f_X2_blendedStrength
    rw [if_neg]
    · exact e2
    · rw [nI_add]
      exact nI_nle (by omega) (by omega)
  · refine Nat.div_le_of_le_mul ?_
    rw [Nat.mul_comm (l + g) 250]
    omega
theorem z_vr20 (f : Nat → Int32) {j : Nat} (h : j < 20) : f_X2_valueAt_r 20 f (nI j) = f j := by
  unfold f_X2_valueAt_r
  rw [if_neg (nI_pos (by omega)), if_neg (nI_ge h (by decide)), nI_clamp (by omega)]
/-! the strengths found again -/
theorem z_gF (t0 t1 t2 t3 t4 u0 u1 u2 u3 u4 ff : Nat → Int32) : ∀ k, (∀ j, j < k → u0 j = t0 j ∧ u1 j = t1 j ∧ u2 j = t2 j ∧ u3 j = t3 j ∧ u4 j = t4 j) → gF u0 u1 u2 u3 u4 ff k = gF t0 t1 t2 t3 t4 ff k
  | 0, _ => rfl
  | k + 1, h => by
    obtain ⟨a0, a1, a2, a3, a4⟩ := h k (Nat.lt_succ_self k)
    have e := z_gF t0 t1 t2 t3 t4 u0 u1 u2 u3 u4 ff k (fun j hj => h j (Nat.lt_succ_of_lt hj))
    show (if u0 k < 0 then gF u0 u1 u2 u3 u4 ff k else _) = (if t0 k < 0 then gF t0 t1 t2 t3 t4 ff k else _)
    rw [e, a0]
    unfold f_X1_strengthAfter
    rw [a0, a1, a2, a3, a4]
/-- one more telling, of the brew j -/
theorem z_gFup (t0 t1 t2 t3 t4 ff : Nat → Int32) (ct : Nat) {j : Nat} (hj : j < 20) (c1 c2 c3 c4 : Int32) :
    gF (upd t0 ct (nI j)) (upd t1 ct c1) (upd t2 ct c2) (upd t3 ct c3) (upd t4 ct c4) ff (ct + 1) =
    upd (gF t0 t1 t2 t3 t4 ff ct) j (if c2 = -1 then c1 else f_X2_blendedStrength (gF t0 t1 t2 t3 t4 ff ct j) c3 (f_X2_valueAt_r 20 (gF t0 t1 t2 t3 t4 ff ct) c2) c4) := by
  have e := z_gF t0 t1 t2 t3 t4 (upd t0 ct (nI j)) (upd t1 ct c1) (upd t2 ct c2) (upd t3 ct c3) (upd t4 ct c4) ff ct (fun q hq => ⟨z_un _ _ (by omega), z_un _ _ (by omega), z_un _ _ (by omega), z_un _ _ (by omega), z_un _ _ (by omega)⟩)
  show (if upd t0 ct (nI j) ct < 0 then gF (upd t0 ct (nI j)) (upd t1 ct c1) (upd t2 ct c2) (upd t3 ct c3) (upd t4 ct c4) ff ct else _) = _
  have h20 : ¬ (20 : Int32) ≤ nI j := nI_ge (b := 20) hj (by decide)
  rw [e, z_us, if_neg (nI_pos (by omega)), if_neg h20, nI_clamp (by omega)]
  unfold f_X1_strengthAfter
  rw [z_us, z_us, z_us, z_us, z_us, z_vr20 _ hj]
/-! which brew lies in a tank -/
theorem z_gInNo (be : Nat → ZB) (tt : Int32) : ∀ d k, (∀ i, k ≤ i → i < k + d → (be i).tk = tt → ¬ f_X0_isGone (be i).li = 0) → gIn be tt d k = -1
  | 0, _, _ => rfl
  | d + 1, k, h => by
    have ih := z_gInNo be tt d (k + 1) (fun i h1 h2 => h i (by omega) (by omega))
    show (if (be k).tk = tt then (if f_X0_isGone (be k).li = 0 then nI k else gIn be tt d (k + 1)) else gIn be tt d (k + 1)) = -1
    by_cases h1 : (be k).tk = tt
    · rw [if_pos h1, if_neg (h k (Nat.le_refl _) (by omega) h1), ih]
    · rw [if_neg h1, ih]
theorem z_gInYes (be : Nat → ZB) (tt : Int32) (j : Nat) (h1 : (be j).tk = tt) (h2 : f_X0_isGone (be j).li = 0) : ∀ d k, k ≤ j → j < k + d → (∀ i, k ≤ i → i < j → (be i).tk = tt → ¬ f_X0_isGone (be i).li = 0) → gIn be tt d k = nI j
  | 0, k, ha, hb, _ => absurd hb (by omega)
  | d + 1, k, ha, hb, h => by
    show (if (be k).tk = tt then (if f_X0_isGone (be k).li = 0 then nI k else gIn be tt d (k + 1)) else gIn be tt d (k + 1)) = nI j
    rcases Nat.lt_or_eq_of_le ha with hk | hk
    · have e := z_gInYes be tt j h1 h2 d (k + 1) hk (by omega) (fun i hi hj => h i (by omega) hj)
      by_cases h3 : (be k).tk = tt
      · rw [if_pos h3, if_neg (h k (Nat.le_refl _) hk h3), e]
      · rw [if_neg h3, e]
    · subst hk
      rw [if_pos h1, if_pos h2]
