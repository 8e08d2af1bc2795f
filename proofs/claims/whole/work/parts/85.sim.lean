/-! ===== each method: class and model answer alike, and stand to each other as before ===== -/
section ZS
variable {G : zG} {k n ct : Nat} {dy pp po : Int32} {bh : Nat → Option Nat} {t0 t1 t2 t3 t4 ff : Nat → Int32} {be : Nat → ZB} {bf : Nat → Nat → Int32} {sx : Nat → va_W} {tk bt bl bd yy bs bm lf lc gn pr bo : Nat → Int32}
theorem zPer.congr {b : ZB} {f : Nat → Int32} {w : va_W} {xbt xbl xbd xyy xbs xbm xlf xlc xgn xpr : Int32} {g g' : Nat → Int32} (h : zPer G b f w xbt xbl xbd xyy xbs xbm xlf xlc xgn xpr g) (e : ∀ c, c < 4 → g' c = g c) : zPer G b f w xbt xbl xbd xyy xbs xbm xlf xlc xgn xpr g' := by
  obtain ⟨⟨e1, e2, e3, e4, e5, e6, e7, e8, e9⟩, h2⟩ := h
  exact ⟨⟨e1, e2, e3, e4, e5, e6, e7, e8, fun c hc => (e9 c hc).trans (e c hc).symm⟩, h2⟩
/-- the same state, but for the pence -/
theorem zRl.pm {mp mo pp2 po2 : Int32} (h : zRl G k n ct (nI n) dy dy pp pp po po bh t0 t1 t2 t3 t4 be bf sx tk bt bl bd yy bs bm lf lc gn pr bo) (hp : mp = pp2) (ho : mo = po2) : zRl G (k + 1) n ct (nI n) dy dy pp2 mp po2 mo bh t0 t1 t2 t3 t4 be bf sx tk bt bl bd yy bs bm lf lc gn pr bo := by
  obtain ⟨⟨h1, h2, ⟨d, h3, h4⟩, -⟩, h6⟩ := h
  exact ⟨⟨h1, Nat.le_succ_of_le h2, ⟨d, by omega, h4⟩, rfl, rfl, hp, ho⟩, h6⟩
/-- one brew changes -/
theorem z_R1 (hR : zRl G k n ct (nI n) dy dy pp pp po po bh t0 t1 t2 t3 t4 be bf sx tk bt bl bd yy bs bm lf lc gn pr bo) {jj : Nat} (hj : jj < n) {ct2 : Nat} {pp2 mp2 po2 mo2 : Int32} {u0 u1 u2 u3 u4 : Nat → Int32} {b2 : ZB} {f2 : Nat → Int32} {s2 : va_W} {tk2 bl2 bs2 bm2 lf2 lc2 gn2 pr2 bo2 : Nat → Int32}
    (hp : mp2 = pp2) (ho : mo2 = po2) (hc : ct2 ≤ k + 1) (hh : b2.h = (be jj).h)
    (hper : zPer G b2 f2 s2 (bt jj) (bl2 jj) (bd jj) (yy jj) (bs2 jj) (bm2 jj) (lf2 jj) (lc2 jj) (gn2 jj) (pr2 jj) (fun c => bo2 (4 * jj + c)))
    (hoth : ∀ i, i ≠ jj → bl2 i = bl i ∧ bs2 i = bs i ∧ bm2 i = bm i ∧ lf2 i = lf i ∧ lc2 i = lc i ∧ gn2 i = gn i ∧ pr2 i = pr i ∧ ∀ c, c < 4 → bo2 (4 * i + c) = bo (4 * i + c))
    (htk : zTk tk2 bt bl2 n) (htel : ∀ ff i, i < n → gF u0 u1 u2 u3 u4 ff ct2 i = bs2 i) :
    zRl G (k + 1) n ct2 (nI n) dy dy pp2 mp2 po2 mo2 bh u0 u1 u2 u3 u4 (va_up be jj b2) (va_up bf jj f2) (va_up sx jj s2) tk2 bt bl2 bd yy bs2 bm2 lf2 lc2 gn2 pr2 bo2 := by
  obtain ⟨⟨hn, -, ⟨d, h3, h4⟩, -⟩, hbh, hpe, hfr, -, -⟩ := hR
  refine ⟨⟨hn, hc, ⟨d, by omega, h4⟩, rfl, rfl, hp, ho⟩, fun i hi => ?_, fun i hi => ?_, fun i hi => ?_, htk, htel⟩
  · by_cases e : i = jj
    · subst e
      rw [va_up_self, hh]
      exact hbh i hi
    · rw [va_up_ne _ _ e]
      exact hbh i hi
  · by_cases e : i = jj
    · subst e
      rw [va_up_self, va_up_self, va_up_self]
      exact hper
    · obtain ⟨a1, a2, a3, a4, a5, a6, a7, a8⟩ := hoth i e
      rw [va_up_ne _ _ e, va_up_ne _ _ e, va_up_ne _ _ e, a1, a2, a3, a4, a5, a6, a7]
      exact (hpe i hi).congr a8
  · obtain ⟨a1, a2, a3, a4, a5, a6, a7, a8⟩ := hoth i (by omega)
    obtain ⟨b1, b2, b3, b4, b5⟩ := hfr i hi
    exact ⟨a3.trans b1, a4.trans b2, a5.trans b3, a6.trans b4, fun c hc => (a8 c hc).trans (b5 c hc)⟩
/-- two brews change: of the second its litres alone -/
theorem z_R2 (hR : zRl G k n ct (nI n) dy dy pp pp po po bh t0 t1 t2 t3 t4 be bf sx tk bt bl bd yy bs bm lf lc gn pr bo) {jj kk : Nat} (hj : jj < n) (hk : kk < n) (hne : jj ≠ kk) {ct2 : Nat} {pp2 mp2 po2 mo2 : Int32} {u0 u1 u2 u3 u4 : Nat → Int32} {b2 b3 : ZB} {f2 : Nat → Int32} {tk2 bl2 bs2 bm2 lf2 gn2 bo2 : Nat → Int32}
    (hp : mp2 = pp2) (ho : mo2 = po2) (hc : ct2 ≤ k + 1) (hh : b2.h = (be jj).h) (hh3 : b3.h = (be kk).h)
    (hper : zPer G b2 f2 (sx jj) (bt jj) (bl2 jj) (bd jj) (yy jj) (bs2 jj) (bm2 jj) (lf2 jj) (lc jj) (gn2 jj) (pr jj) (fun c => bo2 (4 * jj + c)))
    (hper3 : zPer G b3 (bf kk) (sx kk) (bt kk) (bl2 kk) (bd kk) (yy kk) (bs kk) (bm kk) (lf kk) (lc kk) (gn kk) (pr kk) (fun c => bo (4 * kk + c)))
    (hbl : ∀ i, i ≠ jj → i ≠ kk → bl2 i = bl i)
    (hoth : ∀ i, i ≠ jj → bs2 i = bs i ∧ bm2 i = bm i ∧ lf2 i = lf i ∧ gn2 i = gn i ∧ ∀ c, c < 4 → bo2 (4 * i + c) = bo (4 * i + c))
    (htk : zTk tk2 bt bl2 n) (htel : ∀ ff i, i < n → gF u0 u1 u2 u3 u4 ff ct2 i = bs2 i) :
    zRl G (k + 1) n ct2 (nI n) dy dy pp2 mp2 po2 mo2 bh u0 u1 u2 u3 u4 (va_up (va_up be kk b3) jj b2) (va_up bf jj f2) sx tk2 bt bl2 bd yy bs2 bm2 lf2 lc gn2 pr bo2 := by
  obtain ⟨⟨hn, -, ⟨d, h3, h4⟩, -⟩, hbh, hpe, hfr, -, -⟩ := hR
  refine ⟨⟨hn, hc, ⟨d, by omega, h4⟩, rfl, rfl, hp, ho⟩, fun i hi => ?_, fun i hi => ?_, fun i hi => ?_, htk, htel⟩
  · by_cases e : i = jj
    · subst e
      rw [va_up_self, hh]
      exact hbh i hi
    · rw [va_up_ne _ _ e]
      by_cases e2 : i = kk
      · subst e2
        rw [va_up_self, hh3]
        exact hbh i hi
      · rw [va_up_ne _ _ e2]
        exact hbh i hi
  · by_cases e : i = jj
    · subst e
      rw [va_up_self, va_up_self]
      exact hper
    · obtain ⟨a2, a3, a4, a6, a8⟩ := hoth i e
      rw [va_up_ne _ _ e, va_up_ne _ _ e, a2, a3, a4, a6]
      by_cases e2 : i = kk
      · subst e2
        rw [va_up_self]
        exact hper3.congr a8
      · rw [va_up_ne _ _ e2, hbl i e e2]
        exact (hpe i hi).congr a8
  · obtain ⟨a2, a3, a4, a6, a8⟩ := hoth i (by omega)
    obtain ⟨b1, b2, b3, b4, b5⟩ := hfr i hi
    exact ⟨a3.trans b1, a4.trans b2, b3, a6.trans b4, fun c hc => (a8 c hc).trans (b5 c hc)⟩
theorem z_gIn (hR : zRl G k n ct (nI n) dy dy pp pp po po bh t0 t1 t2 t3 t4 be bf sx tk bt bl bd yy bs bm lf lc gn pr bo) {t : Nat} (ht : t < 8) : gIn be (nI t) n 0 = tk t := by
  obtain ⟨-, -, hpe, -, htk, -⟩ := hR
  have hli : ∀ i, i < n → (be i).tk = bt i ∧ (f_X0_isGone (be i).li = 0 ↔ ¬ bl i = 0) := fun i hi => by
    obtain ⟨⟨e1, -, e3, -⟩, ⟨-, ⟨v, hv, hv2⟩, -⟩, -⟩ := hpe i hi
    refine ⟨e1, ?_⟩
    rw [e3, hv2]
    exact z_goneI (by omega)
  rcases htk t ht with ⟨h1, h2⟩ | ⟨j, h1, h2, h3, h4, h5⟩
  · rw [h1]
    exact z_gInNo be (nI t) n 0 (fun i _ hi hb hg => (hli i (by omega)).2.mp hg (h2 i (by omega) ((hli i (by omega)).1.symm.trans hb)))
  · rw [h2]
    exact z_gInYes be (nI t) j ((hli j h1).1.trans h3) ((hli j h1).2.mpr h4) n 0 (Nat.zero_le _) (by omega) (fun i _ hi hb hg => absurd (h5 i (by omega) ((hli i (by omega)).1.symm.trans hb) ((hli i (by omega)).2.mp hg)) (Nat.ne_of_lt hi))
theorem s_pass (hR : zRl G k n ct (nI n) dy dy pp pp po po bh t0 t1 t2 t3 t4 be bf sx tk bt bl bd yy bs bm lf lc gn pr bo) (nn : Int32) : zS_L_pass_0 G k n ct dy pp po bh t0 t1 t2 t3 t4 ff be bf sx tk bt bl bd yy bs bm lf lc gn pr bo nn ∨ zS_L_pass_2 G k n ct dy pp po bh t0 t1 t2 t3 t4 ff be bf sx tk bt bl bd yy bs bm lf lc gn pr bo nn := by
  by_cases h : f_X3_in nn 1 100 = 0
  · obtain ⟨-, m1, m2⟩ := fl_X3_pass_0 dy nn h
    refine Or.inr ⟨fl_X2_pass_0 nn h, m2, ?_⟩
    rw [m1]
    exact hR.mono
  · obtain ⟨m0, m1, m2⟩ := fl_X3_pass_1 dy nn h
    obtain ⟨v, hv, hv1, hv2⟩ := z_inOf 1 100 rfl rfl (by decide) (by decide) h
    refine Or.inl ⟨fl_X2_pass_1 nn h, m2, m0.symm, ?_⟩
    obtain ⟨⟨h1, h2, ⟨d, h3, h4⟩, -⟩, h6⟩ := hR
    exact ⟨⟨h1, Nat.le_succ_of_le h2, ⟨d + v, by omega, by rw [h4, hv, nI_add]⟩, rfl, m1, rfl, rfl⟩, h6⟩
theorem s_pay (hR : zRl G k n ct (nI n) dy dy pp pp po po bh t0 t1 t2 t3 t4 be bf sx tk bt bl bd yy bs bm lf lc gn pr bo) (mo : Int32) : zS_L_pay_0 G k n ct dy pp po bh t0 t1 t2 t3 t4 ff be bf sx tk bt bl bd yy bs bm lf lc gn pr bo mo ∨ zS_L_pay_2 G k n ct dy pp po bh t0 t1 t2 t3 t4 ff be bf sx tk bt bl bd yy bs bm lf lc gn pr bo mo := by
  by_cases h : f_X3_in mo 1 100000 = 0
  · obtain ⟨-, m1, m2⟩ := fl_X3_pay_0 po mo h
    obtain ⟨-, c2⟩ := fl_X2_pay_0 po mo h
    refine Or.inr ⟨c2, m2, ?_⟩
    rw [m1]
    exact hR.mono
  · obtain ⟨c1, c2⟩ := fl_X2_pay_1 po mo h
    by_cases h2 : po < mo
    · obtain ⟨m0, m1, m2⟩ := fl_X3_pay_2 po mo h (Int32.not_le.mpr h2)
      refine Or.inl ⟨c2, m2, by rw [c1, m0, if_pos h2], ?_⟩
      exact hR.pm rfl (by rw [m1, if_pos h2])
    · obtain ⟨m0, m1, m2⟩ := fl_X3_pay_1 po mo h (Int32.not_lt.mp h2)
      refine Or.inl ⟨c2, m2, by rw [c1, m0, if_neg h2], ?_⟩
      exact hR.pm rfl (by rw [m1, if_neg h2])
theorem s_inTank (hR : zRl G k n ct (nI n) dy dy pp pp po po bh t0 t1 t2 t3 t4 be bf sx tk bt bl bd yy bs bm lf lc gn pr bo) (tt : Int32) : zS_L_inTank_0 G k n ct dy pp po bh t0 t1 t2 t3 t4 ff be bf sx tk bt bl bd yy bs bm lf lc gn pr bo tt ∨ zS_L_inTank_1 G k n ct dy pp po bh t0 t1 t2 t3 t4 ff be bf sx tk bt bl bd yy bs bm lf lc gn pr bo tt := by
  by_cases h : f_X3_in tt 0 7 = 0
  · obtain ⟨-, m2⟩ := fl_X3_inTank_0 tk tt h
    exact Or.inr ⟨fl_X2_inTank_0 tt h, m2, hR.mono⟩
  · obtain ⟨m0, m2⟩ := fl_X3_inTank_1 tk tt h
    obtain ⟨t, ht, -, ht2⟩ := z_inOf 0 7 rfl rfl (by decide) (by decide) h
    refine Or.inl ⟨fl_X2_inTank_1 tt h, m2, ?_, hR.mono⟩
    rw [m0, ht, nI_clamp (by omega)]
    exact z_gIn hR (by omega)
theorem s_classAnew (hR : zRl G k n ct (nI n) dy dy pp pp po po bh t0 t1 t2 t3 t4 be bf sx tk bt bl bd yy bs bm lf lc gn pr bo) {jj : Nat} (hj : jj < n) : zS_L_classAnew_ok_0 G k n ct dy pp po bh t0 t1 t2 t3 t4 ff be bf sx tk bt bl bd yy bs bm lf lc gn pr bo jj := by
  have hR0 := hR
  obtain ⟨⟨hn, -⟩, -, -, -, -, htel⟩ := hR
  refine ⟨rfl, ?_, hR0.mono⟩
  rw [z_vr20 _ (by omega), htel ff jj hj]
  rfl
theorem s_labelU (hR : zRl G k n ct (nI n) dy dy pp pp po po bh t0 t1 t2 t3 t4 be bf sx tk bt bl bd yy bs bm lf lc gn pr bo) {jj : Nat} (hpr : pr jj = -1) (pl : Int32) : zS_L_label_okU_0 G k n ct dy pp po bh t0 t1 t2 t3 t4 ff be bf sx tk bt bl bd yy bs bm lf lc gn pr bo jj pl ∨ zS_L_label_okU_1 G k n ct dy pp po bh t0 t1 t2 t3 t4 ff be bf sx tk bt bl bd yy bs bm lf lc gn pr bo jj pl := by
  by_cases h : pl < 0
  · obtain ⟨-, m1⟩ := fl_X3_label_ok_0 bt pr jj pl h
    obtain ⟨-, c1⟩ := fl_X2_label_okU_1 pl (Int32.not_le.mpr h)
    exact Or.inr ⟨c1, m1, hR.mono⟩
  · obtain ⟨m0, m1⟩ := fl_X3_label_ok_2 bt pr jj pl h (by rw [hpr]; decide)
    obtain ⟨c0, c1⟩ := fl_X2_label_okU_0 pl (Int32.not_lt.mp h)
    exact Or.inl ⟨c1, m1, by rw [c0, m0], hR.mono⟩
theorem s_labelP (hR : zRl G k n ct (nI n) dy dy pp pp po po bh t0 t1 t2 t3 t4 be bf sx tk bt bl bd yy bs bm lf lc gn pr bo) {jj sg vv : Nat} (sv : Nat) (hs : sg ≤ 250) (hv : vv < 8) (hpr : pr jj = nI sg) (hbt : bt jj = nI vv) (pl : Int32) : zS_L_label_okP_0 G k n ct dy pp po bh t0 t1 t2 t3 t4 ff be bf sx tk bt bl bd yy bs bm lf lc gn pr bo vv sg jj sv pl ∨ zS_L_label_okP_1 G k n ct dy pp po bh t0 t1 t2 t3 t4 ff be bf sx tk bt bl bd yy bs bm lf lc gn pr bo vv sg jj sv pl := by
  by_cases h : pl < 0
  · obtain ⟨-, m1⟩ := fl_X3_label_ok_0 bt pr jj pl h
    obtain ⟨-, c1⟩ := fl_X2_label_okP_2 (zTn sg) (f_X2_textOfLabel_sf sg vv) pl (Int32.not_le.mpr h)
    exact Or.inr ⟨c1, m1, hR.mono⟩
  · have h0 := Int32.not_lt.mp h
    obtain ⟨m0, m1⟩ := fl_X3_label_ok_1 bt pr jj pl h (by rw [hpr]; exact nI_pos' (by omega))
    obtain ⟨q, hq, hq2⟩ := nI_of h
    have hT : zTn sg < 2 ^ 31 := by
      unfold zTn
      split
      · decide
      · split <;> decide
    by_cases h2 : nI (zTn sg) ≤ pl
    · obtain ⟨c0, c1⟩ := fl_X2_label_okP_0 (zTn sg) (f_X2_textOfLabel_sf sg vv) pl h0 h2
      refine Or.inl ⟨c1, m1, ?_, hR.mono⟩
      rw [c0, m0, hq2]
      rw [hq2, nI_leI hT hq] at h2
      exact (z_beyond hpr hs h2 hq).symm
    · obtain ⟨c0, c1⟩ := fl_X2_label_okP_1 (zTn sg) (f_X2_textOfLabel_sf sg vv) pl h0 h2
      refine Or.inl ⟨c1, m1, ?_, hR.mono⟩
      rw [c0, m0, hq2]
      rw [hq2, nI_leI hT hq] at h2
      rw [z_signOf hpr hbt]
      exact z_chars hs hv (by omega)
theorem s_ofBrew (hR : zRl G k n ct (nI n) dy dy pp pp po po bh t0 t1 t2 t3 t4 be bf sx tk bt bl bd yy bs bm lf lc gn pr bo) (hk : k < 512) {jj : Nat} (hj : jj < n) (wh : Int32) : zS_L_ofBrew_ok_0 G k n ct dy pp po bh t0 t1 t2 t3 t4 ff be bf sx tk bt bl bd yy bs bm lf lc gn pr bo jj wh ∨ zS_L_ofBrew_ok_2 G k n ct dy pp po bh t0 t1 t2 t3 t4 ff be bf sx tk bt bl bd yy bs bm lf lc gn pr bo jj wh := by
  have hR0 := hR
  obtain ⟨⟨hn, -, ⟨d, hd, hdy⟩, -⟩, -, hpe, -, -, -⟩ := hR
  obtain ⟨⟨e1, e2, e3, e4, e5, e6, e7, e8, e9⟩, ⟨v1, ⟨w2, hw2, v2⟩, ⟨w3, hw3, v3⟩, ⟨w4, hw4, v4⟩, v5, v6, v7⟩, -⟩ := hpe jj hj
  have hrd : f_X0_isReady (be jj).rp (be jj).li dy = f_X3_isRipe dy bl bd yy jj := by
    rw [e3]
    exact z_ready v2 v3 v4 hdy e2 hw2 hw3 hw4 (by omega)
  have hgo : f_X0_isGone (be jj).li = 0 ↔ ¬ bl jj = 0 := by
    rw [e3, v2]
    exact z_goneI (by omega)
  have c9 : ∀ c, c < 4 → bf jj c = bo (4 * jj + c) := e9
  by_cases h : f_X3_in wh 0 8 = 0
  · obtain ⟨-, m2⟩ := fl_X3_ofBrew_ok_0 bt bl bd yy bs bm lf gn bo dy jj wh h
    have hne : ∀ x : Int32, ¬ f_X3_in x 0 8 = 0 → ¬ wh = x := fun x hx e => hx (e ▸ h)
    obtain ⟨-, c2⟩ := fl_X2_ofBrew_ok_12 dy (be jj).tk (be jj).rp (be jj).li (be jj).st (be jj).me (be jj).la (be jj).vo (bf jj) wh (hne 0 (by decide)) (hne 1 (by decide)) (hne 2 (by decide)) (hne 3 (by decide)) (hne 4 (by decide)) (hne 5 (by decide)) (hne 6 (by decide)) (hne 7 (by decide)) (hne 8 (by decide))
    exact Or.inr ⟨c2, m2, hR0.mono⟩
  · refine Or.inl ?_
    obtain ⟨w, hw, -, hw8⟩ := z_inOf 0 8 rfl rfl (by decide) (by decide) h
    rcases (by omega : w = 0 ∨ w = 1 ∨ w = 2 ∨ w = 3 ∨ w = 4 ∨ w = 5 ∨ w = 6 ∨ w = 7 ∨ w = 8) with e | e | e | e | e | e | e | e | e <;> subst e <;> subst hw
    · obtain ⟨m0, m1⟩ := fl_X3_ofBrew_ok_1 bt bl bd yy bs bm lf gn bo dy jj (nI 0) h (by decide)
      obtain ⟨c0, c1⟩ := fl_X2_ofBrew_ok_0 dy (be jj).tk (be jj).rp (be jj).li (be jj).st (be jj).me (be jj).la (be jj).vo (bf jj) (nI 0) (by decide)
      exact ⟨c1, m1, by rw [c0, m0, e1], hR0.mono⟩
    · obtain ⟨m0, m1⟩ := fl_X3_ofBrew_ok_2 bt bl bd yy bs bm lf gn bo dy jj (nI 1) h (by decide) (by decide)
      obtain ⟨c0, c1⟩ := fl_X2_ofBrew_ok_1 dy (be jj).tk (be jj).rp (be jj).li (be jj).st (be jj).me (be jj).la (be jj).vo (bf jj) (nI 1) (by decide) (by decide)
      exact ⟨c1, m1, by rw [c0, m0, e3], hR0.mono⟩
    · obtain ⟨m0, m1⟩ := fl_X3_ofBrew_ok_3 bt bl bd yy bs bm lf gn bo dy jj (nI 2) h (by decide) (by decide) (by decide)
      obtain ⟨c0, c1⟩ := fl_X2_ofBrew_ok_2 dy (be jj).tk (be jj).rp (be jj).li (be jj).st (be jj).me (be jj).la (be jj).vo (bf jj) (nI 2) (by decide) (by decide) (by decide)
      exact ⟨c1, m1, by rw [c0, m0, e4], hR0.mono⟩
    · obtain ⟨m0, m1⟩ := fl_X3_ofBrew_ok_4 bt bl bd yy bs bm lf gn bo dy jj (nI 3) h (by decide) (by decide) (by decide) (by decide)
      rcases v6 with v6 | v6
      · obtain ⟨c0, c1⟩ := fl_X2_ofBrew_ok_3 dy (be jj).tk (be jj).rp (be jj).li (be jj).st (be jj).me (be jj).la (be jj).vo (bf jj) (nI 3) (by decide) (by decide) (by decide) (by decide) (e5.trans v6)
        exact ⟨c1, m1, by rw [c0, m0, v6], hR0.mono⟩
      · obtain ⟨c0, c1⟩ := fl_X2_ofBrew_ok_4 dy (be jj).tk (be jj).rp (be jj).li (be jj).st (be jj).me (be jj).la (be jj).vo (bf jj) (nI 3) (by decide) (by decide) (by decide) (by decide) (by rw [e5, v6]; decide)
        exact ⟨c1, m1, by rw [c0, m0, v6], hR0.mono⟩
    · obtain ⟨m0, m1⟩ := fl_X3_ofBrew_ok_5 bt bl bd yy bs bm lf gn bo dy jj (nI 4) h (by decide) (by decide) (by decide) (by decide) (by decide)
      obtain ⟨c0, c1⟩ := fl_X2_ofBrew_ok_5 dy (be jj).tk (be jj).rp (be jj).li (be jj).st (be jj).me (be jj).la (be jj).vo (bf jj) (nI 4) (by decide) (by decide) (by decide) (by decide) (by decide)
      exact ⟨c1, m1, by rw [c0, m0, e4]; rfl, hR0.mono⟩
    · obtain ⟨m0, m1⟩ := fl_X3_ofBrew_ok_6 bt bl bd yy bs bm lf gn bo dy jj (nI 5) h (by decide) (by decide) (by decide) (by decide) (by decide) (by decide)
      obtain ⟨c0, c1⟩ := fl_X2_ofBrew_ok_6 dy (be jj).tk (be jj).rp (be jj).li (be jj).st (be jj).me (be jj).la (be jj).vo (bf jj) (nI 5) (by decide) (by decide) (by decide) (by decide) (by decide) (by decide)
      exact ⟨c1, m1, by rw [c0, m0, e6], hR0.mono⟩
    · obtain ⟨m0, m1⟩ := fl_X3_ofBrew_ok_7 bt bl bd yy bs bm lf gn bo dy jj (nI 6) h (by decide) (by decide) (by decide) (by decide) (by decide) (by decide) (by decide)
      obtain ⟨c0, c1⟩ := fl_X2_ofBrew_ok_7 dy (be jj).tk (be jj).rp (be jj).li (be jj).st (be jj).me (be jj).la (be jj).vo (bf jj) (nI 6) (by decide) (by decide) (by decide) (by decide) (by decide) (by decide) (by decide)
      exact ⟨c1, m1, by rw [c0, m0, e8], hR0.mono⟩
    · obtain ⟨m0, m1⟩ := fl_X3_ofBrew_ok_8 bt bl bd yy bs bm lf gn bo dy jj (nI 7) h (by decide) (by decide) (by decide) (by decide) (by decide) (by decide) (by decide) (by decide)
      obtain ⟨c0, c1⟩ := fl_X2_ofBrew_ok_8 dy (be jj).tk (be jj).rp (be jj).li (be jj).st (be jj).me (be jj).la (be jj).vo (bf jj) (nI 7) (by decide) (by decide) (by decide) (by decide) (by decide) (by decide) (by decide) (by decide)
      refine ⟨c1, m1, ?_, hR0.mono⟩
      rw [c0, m0]
      unfold f_X0_countBottles
      rw [c9 0 (by decide), c9 1 (by decide), c9 2 (by decide), c9 3 (by decide), Int32.zero_add, Nat.add_zero]
    · by_cases hg : bl jj = 0
      · obtain ⟨m0, m1⟩ := fl_X3_ofBrew_ok_9 bt bl bd yy bs bm lf gn bo dy jj (nI 8) h (by decide) (by decide) (by decide) (by decide) (by decide) (by decide) (by decide) (by decide) hg
        obtain ⟨c0, c1⟩ := fl_X2_ofBrew_ok_11 dy (be jj).tk (be jj).rp (be jj).li (be jj).st (be jj).me (be jj).la (be jj).vo (bf jj) (nI 8) (by decide) (by decide) (by decide) (by decide) (by decide) (by decide) (by decide) (by decide) (by decide) (fun x => hgo.mp x hg)
        exact ⟨c1, m1, by rw [c0, m0], hR0.mono⟩
      · by_cases hp : f_X3_isRipe dy bl bd yy jj = 0
        · obtain ⟨m0, m1⟩ := fl_X3_ofBrew_ok_10 bt bl bd yy bs bm lf gn bo dy jj (nI 8) h (by decide) (by decide) (by decide) (by decide) (by decide) (by decide) (by decide) (by decide) hg hp
          obtain ⟨c0, c1⟩ := fl_X2_ofBrew_ok_9 dy (be jj).tk (be jj).rp (be jj).li (be jj).st (be jj).me (be jj).la (be jj).vo (bf jj) (nI 8) (by decide) (by decide) (by decide) (by decide) (by decide) (by decide) (by decide) (by decide) (by decide) (hgo.mpr hg) (by rw [hrd]; exact hp)
          exact ⟨c1, m1, by rw [c0, m0], hR0.mono⟩
        · obtain ⟨m0, m1⟩ := fl_X3_ofBrew_ok_11 bt bl bd yy bs bm lf gn bo dy jj (nI 8) h (by decide) (by decide) (by decide) (by decide) (by decide) (by decide) (by decide) (by decide) hg hp
          obtain ⟨c0, c1⟩ := fl_X2_ofBrew_ok_10 dy (be jj).tk (be jj).rp (be jj).li (be jj).st (be jj).me (be jj).la (be jj).vo (bf jj) (nI 8) (by decide) (by decide) (by decide) (by decide) (by decide) (by decide) (by decide) (by decide) (by decide) (hgo.mpr hg) (by rw [hrd]; exact hp)
          exact ⟨c1, m1, by rw [c0, m0], hR0.mono⟩
theorem z_mlfN {ow : Int32} {lf lc gn bo : Nat → Int32} {jj i : Nat} {sg : Int32} (hi : i ≠ jj) : f_X3_measures_lf ow lf lc gn bo jj sg i = lf i := by
  rw [z_mlf]
  by_cases h : f_X3_classOf sg ≤ lc jj
  · rw [if_pos h]
  · rw [if_neg h, z_un _ _ hi]
theorem z_mgnN {ow : Int32} {lf lc gn bo : Nat → Int32} {jj i : Nat} {sg : Int32} (hi : i ≠ jj) : f_X3_measures_gn ow lf lc gn bo jj sg i = gn i := by
  rw [z_mgn]
  by_cases h : f_X3_classOf sg ≤ lc jj
  · rw [if_pos h]
  · rw [if_neg h, z_un _ _ hi]
theorem z_mlfS {ow : Int32} {lf lc gn bo : Nat → Int32} {jj : Nat} {sg a b c : Int32} (h1 : a = lf jj) (h2 : b = lc jj) : f_X0_setMeasured_la a b c sg = f_X3_measures_lf ow lf lc gn bo jj sg jj := by
  rw [z_mlf]
  unfold f_X0_setMeasured_la
  rw [h1, h2, z_clsEq]
  by_cases h : f_X3_classOf sg ≤ lc jj
  · rw [if_pos h, if_pos h]
  · rw [if_neg h, if_neg h, z_us]
theorem z_mgnS {ow : Int32} {lf lc gn bo : Nat → Int32} {jj : Nat} {sg a b c : Int32} (h1 : a = lf jj) (h2 : b = lc jj) (h3 : c = gn jj) : f_X0_setMeasured_vo a b c sg = f_X3_measures_gn ow lf lc gn bo jj sg jj := by
  rw [z_mgn]
  unfold f_X0_setMeasured_vo
  rw [h1, h2, h3, z_clsEq]
  by_cases h : f_X3_classOf sg ≤ lc jj
  · rw [if_pos h, if_pos h]
  · rw [if_neg h, if_neg h, z_us]
theorem s_measure (hR : zRl G k n ct (nI n) dy dy pp pp po po bh t0 t1 t2 t3 t4 be bf sx tk bt bl bd yy bs bm lf lc gn pr bo) (hc : ct < 512) {jj : Nat} (hj : jj < n) (sg : Int32) : zS_L_measure_ok_0 G k n ct dy pp po bh t0 t1 t2 t3 t4 ff be bf sx tk bt bl bd yy bs bm lf lc gn pr bo jj sg ∨ zS_L_measure_ok_2 G k n ct dy pp po bh t0 t1 t2 t3 t4 ff be bf sx tk bt bl bd yy bs bm lf lc gn pr bo jj sg := by
  have hR0 := hR
  obtain ⟨⟨hn, hct, -⟩, -, hpe, -, htk, htel⟩ := hR
  obtain ⟨⟨e1, e2, e3, e4, e5, e6, e7, e8, e9⟩, ⟨v1, v2, v3, v4, v5, v6, v7⟩, lab⟩ := hpe jj hj
  by_cases h : f_X3_in sg 0 250 = 0
  · obtain ⟨-, m1, m2, m3, m4, m5, m6, m7⟩ := fl_X3_measure_ok_0 bs bm lf lc gn bo po jj sg h
    refine Or.inr ⟨fl_X2_measure_ok_0 sg h, m7, ?_⟩
    rw [m1, m2, m3, m4, m5, m6]
    exact hR0.mono
  · obtain ⟨m0, m1, m2, m3, m4, m5, m6, m7⟩ := fl_X3_measure_ok_1 bs bm lf lc gn bo po jj sg h
    obtain ⟨r1, r2, r3, r4⟩ := z_mbo po lf lc gn bo (bf jj) jj sg e9
    obtain ⟨v, hv, -, hv2⟩ := z_inOf 0 250 rfl rfl (by decide) (by decide) h
    refine Or.inl ⟨fl_X2_measure_ok_1 sg h, m7, r1.trans m0.symm, ?_⟩
    rw [m1, m2, m3, m4, m5, m6]
    refine z_R1 hR0 hj rfl (r2.trans (congrArg (fun z : Int32 => po + z) r1.symm)) (by omega) rfl ⟨⟨e1, e2, e3, (z_us _ _ _).symm, (z_us _ _ _).symm, ?_, e7, ?_, r3⟩, ⟨v1, v2, v3, v4, ⟨v, hv2, by rw [z_us]; exact hv⟩, Or.inr (z_us _ _ _), v7⟩, lab⟩
      (fun i hi => ⟨rfl, z_un _ _ hi, z_un _ _ hi, z_mlfN hi, rfl, z_mgnN hi, rfl, fun c hc => r4 _ (fun c2 hc2 => by omega)⟩) htk (fun ff i hi => ?_)
    · exact z_mlfS (c := (be jj).vo) e6 e7
    · exact z_mgnS e6 e7 e8
    · rw [z_gFup _ _ _ _ _ ff ct (by omega) sg (-1) 0 0, if_pos rfl]
      by_cases e : i = jj
      · subst e
        rw [z_us, z_us]
      · rw [z_un _ _ e, z_un _ _ e]
        exact htel ff i hi
theorem s_print (hR : zRl G k n ct (nI n) dy dy pp pp po po bh t0 t1 t2 t3 t4 be bf sx tk bt bl bd yy bs bm lf lc gn pr bo) {jj sg vv : Nat} (hj : jj < n) (hs : sg ≤ 250) (hv : vv < 8) (hst : bs jj = nI sg) (hbt : bt jj = nI vv) (mn : Int32) : zS_L_print_ok_0 G k n ct dy pp po bh t0 t1 t2 t3 t4 ff be bf sx tk bt bl bd yy bs bm lf lc gn pr bo jj vv sg mn ∨ zS_L_print_ok_2 G k n ct dy pp po bh t0 t1 t2 t3 t4 ff be bf sx tk bt bl bd yy bs bm lf lc gn pr bo jj vv sg mn ∨ zS_L_print_ok_3 G k n ct dy pp po bh t0 t1 t2 t3 t4 ff be bf sx tk bt bl bd yy bs bm lf lc gn pr bo jj vv sg mn := by
  have hR0 := hR
  obtain ⟨⟨hn, hct, -⟩, -, hpe, -, htk, htel⟩ := hR
  obtain ⟨⟨e1, e2, e3, e4, e5, e6, e7, e8, e9⟩, ⟨v1, ⟨w2, hw2, v2⟩, v3, v4, v5, v6, v7⟩, lab⟩ := hpe jj hj
  have hgo : f_X0_isGone (be jj).li = 0 ↔ ¬ bl jj = 0 := by
    rw [e3, v2]
    exact z_goneI (by omega)
  have hcl : f_X2_classOf (nI sg) = f_X3_classOf (bs jj) := by rw [hst]; rfl
  by_cases h : f_X3_in mn 1 1000 = 0
  · have c1 := fl_X2_print_ok_0 (be jj).li sg (be jj).la (be jj).lc mn h
    refine Or.inr (Or.inl ⟨c1, ?_⟩)
    by_cases hq : lc jj = f_X3_classOf (bs jj)
    · obtain ⟨-, m1, m2, m3, m4, m5⟩ := fl_X3_print_ok_0 bl bs lf lc gn pr jj mn hq h
      exact ⟨m5, by rw [m1, m2, m3, m4]; exact hR0.mono⟩
    · obtain ⟨-, m1, m2, m3, m4, m5⟩ := fl_X3_print_ok_4 bl bs lf lc gn pr jj mn hq h
      exact ⟨m5, by rw [m1, m2, m3, m4]; exact hR0.mono⟩
  · by_cases hg : bl jj = 0
    · have c1 := fl_X2_print_ok_3 (be jj).li sg (be jj).la (be jj).lc mn h (fun x => hgo.mp x hg)
      refine Or.inr (Or.inr ⟨c1, ?_⟩)
      by_cases hq : lc jj = f_X3_classOf (bs jj)
      · obtain ⟨-, m1, m2, m3, m4, m5⟩ := fl_X3_print_ok_1 bl bs lf lc gn pr jj mn hq h hg
        exact ⟨m5, by rw [m1, m2, m3, m4]; exact hR0.mono⟩
      · obtain ⟨-, m1, m2, m3, m4, m5⟩ := fl_X3_print_ok_5 bl bs lf lc gn pr jj mn hq h hg
        exact ⟨m5, by rw [m1, m2, m3, m4]; exact hR0.mono⟩
    · have hlab : ∀ q0 q1 : Nat, (nI sg = -1 ∧ q0 = G.2.2 10 ∧ ([(q0, .inr (0, [.ref q1, .int 0, .int 0, .int 0])), (q1, .inl (G.2.1 1, zTn sg, .inl (f_X2_textOfLabel_sf sg vv)))] : va_W) = []) ∨ ∃ sg2 sv vv2, sg2 ≤ 250 ∧ nI sg = nI sg2 ∧ vv2 < 8 ∧ bt jj = nI vv2 ∧ ([(q0, .inr (0, [.ref q1, .int 0, .int 0, .int 0])), (q1, .inl (G.2.1 1, zTn sg, .inl (f_X2_textOfLabel_sf sg vv)))] : va_W) = [(q0, .inr (0, [.ref sv, .int 0, .int 0, .int 0])), (sv, .inl (G.2.1 1, zTn sg2, .inl (f_X2_textOfLabel_sf sg2 vv2)))] :=
        fun q0 q1 => Or.inr ⟨sg, q1, vv, hs, rfl, hv, hbt, rfl⟩
      have hcl4 : ∃ v, v < 4 ∧ f_X3_classOf (bs jj) = nI v := z_cls4 _
      by_cases hq : lc jj = f_X3_classOf (bs jj)
      · have hlb : f_X0_labelsOfItsClass (nI sg) (be jj).la (be jj).lc = lf jj := by
          unfold f_X0_labelsOfItsClass
          rw [hcl, e7, if_pos hq, e6]
        by_cases hm : lf jj + mn ≤ 2000
        · obtain ⟨m0, m1, m2, m3, m4, m5⟩ := fl_X3_print_ok_2 bl bs lf lc gn pr jj mn hq h hg hm
          have c1 := fl_X2_print_ok_1 (be jj).li sg (be jj).la (be jj).lc mn h (hgo.mpr hg) (by rw [hlb]; exact hm)
          have la' : f_X0_addLabels_la sg (be jj).la (be jj).lc (be jj).vo mn = lf jj + mn := by
            unfold f_X0_addLabels_la
            rw [hcl, e7, if_pos hq, e6]
          have vo' : f_X0_addLabels_vo sg (be jj).la (be jj).lc (be jj).vo mn = gn jj := by
            unfold f_X0_addLabels_vo
            rw [hcl, e7, if_pos hq, e8]
          refine Or.inl ⟨c1, m5, by rw [la', m0], fun q0 q1 => ?_⟩
          rw [m1, m2, m3, m4, la', vo', hcl]
          refine z_R1 hR0 hj rfl rfl (by omega) rfl ⟨⟨hbt.symm, e2, e3, hst.symm, e5, (z_us _ _ _).symm, (z_us _ _ _).symm, rfl, e9⟩, ⟨v1, ⟨w2, hw2, v2⟩, v3, v4, v5, v6, ?_⟩, ?_⟩
            (fun i hi => ⟨rfl, rfl, rfl, z_un _ _ hi, z_un _ _ hi, rfl, z_un _ _ hi, fun c hc => rfl⟩) htk htel
          · rw [z_us]
            exact hcl4
          · rw [z_us, hst]
            exact hlab q0 q1
        · obtain ⟨-, m1, m2, m3, m4, m5⟩ := fl_X3_print_ok_3 bl bs lf lc gn pr jj mn hq h hg hm
          have c1 := fl_X2_print_ok_2 (be jj).li sg (be jj).la (be jj).lc mn h (hgo.mpr hg) (by rw [hlb]; exact hm)
          exact Or.inr (Or.inr ⟨c1, m5, by rw [m1, m2, m3, m4]; exact hR0.mono⟩)
      · have hlb : f_X0_labelsOfItsClass (nI sg) (be jj).la (be jj).lc = 0 := by
          unfold f_X0_labelsOfItsClass
          rw [hcl, e7, if_neg hq]
        by_cases hm : 0 + mn ≤ 2000
        · obtain ⟨m0, m1, m2, m3, m4, m5⟩ := fl_X3_print_ok_6 bl bs lf lc gn pr jj mn hq h hg hm
          have c1 := fl_X2_print_ok_1 (be jj).li sg (be jj).la (be jj).lc mn h (hgo.mpr hg) (by rw [hlb]; exact hm)
          have la' : f_X0_addLabels_la sg (be jj).la (be jj).lc (be jj).vo mn = 0 + mn := by
            unfold f_X0_addLabels_la
            rw [hcl, e7, if_neg hq]
          have vo' : f_X0_addLabels_vo sg (be jj).la (be jj).lc (be jj).vo mn = gn jj + lf jj := by
            unfold f_X0_addLabels_vo
            rw [hcl, e7, if_neg hq, e8, e6]
          refine Or.inl ⟨c1, m5, by rw [la', m0], fun q0 q1 => ?_⟩
          rw [m1, m2, m3, m4, la', vo', hcl]
          refine z_R1 hR0 hj rfl rfl (by omega) rfl ⟨⟨hbt.symm, e2, e3, hst.symm, e5, (z_us _ _ _).symm, (z_us _ _ _).symm, (z_us _ _ _).symm, e9⟩, ⟨v1, ⟨w2, hw2, v2⟩, v3, v4, v5, v6, ?_⟩, ?_⟩
            (fun i hi => ⟨rfl, rfl, rfl, by rw [z_un _ _ hi, z_un _ _ hi], z_un _ _ hi, z_un _ _ hi, z_un _ _ hi, fun c hc => rfl⟩) htk htel
          · rw [z_us]
            exact hcl4
          · rw [z_us, hst]
            exact hlab q0 q1
        · obtain ⟨-, m1, m2, m3, m4, m5⟩ := fl_X3_print_ok_7 bl bs lf lc gn pr jj mn hq h hg hm
          have c1 := fl_X2_print_ok_2 (be jj).li sg (be jj).la (be jj).lc mn h (hgo.mpr hg) (by rw [hlb]; exact hm)
          exact Or.inr (Or.inr ⟨c1, m5, by rw [m1, m2, m3, m4]; exact hR0.mono⟩)
theorem s_bottle (hR : zRl G k n ct (nI n) dy dy pp pp po po bh t0 t1 t2 t3 t4 be bf sx tk bt bl bd yy bs bm lf lc gn pr bo) (hk : k < 512) {jj kc vv : Nat} (hj : jj < n) (hkc : lc jj = nI kc) (hk4 : kc < 4) (hvv : vv < 8) (hbv : bt jj = nI vv) (mn : Int32) : zS_L_bottle_ok_0 G k n ct dy pp po bh t0 t1 t2 t3 t4 ff be bf sx tk bt bl bd yy bs bm lf lc gn pr bo jj mn kc vv ∨ zS_L_bottle_ok_2 G k n ct dy pp po bh t0 t1 t2 t3 t4 ff be bf sx tk bt bl bd yy bs bm lf lc gn pr bo jj mn kc vv ∨ zS_L_bottle_ok_3 G k n ct dy pp po bh t0 t1 t2 t3 t4 ff be bf sx tk bt bl bd yy bs bm lf lc gn pr bo jj mn kc vv := by
  have hR0 := hR
  obtain ⟨⟨hn, hct, ⟨d, hd, hdy⟩, -⟩, -, hpe, -, htk, htel⟩ := hR
  obtain ⟨⟨e1, e2, e3, e4, e5, e6, e7, e8, e9⟩, ⟨v1, ⟨w2, hw2, v2⟩, ⟨w3, hw3, v3⟩, ⟨w4, hw4, v4⟩, v5, v6, v7⟩, lab⟩ := hpe jj hj
  have c9 : ∀ c, c < 4 → bf jj c = bo (4 * jj + c) := e9
  have hrd : f_X0_isReady (be jj).rp (be jj).li dy = f_X3_isRipe dy bl bd yy jj := by
    rw [e3]
    exact z_ready v2 v3 v4 hdy e2 hw2 hw3 hw4 (by omega)
  have hcl : f_X2_classOf (be jj).st = f_X3_classOf (bs jj) := by rw [e4]; rfl
  by_cases h : f_X3_in mn 1 1000 = 0
  · have c1 := fl_X2_bottle_ok_0 dy (be jj).rp (be jj).li (be jj).st (be jj).la (be jj).lc mn h
    by_cases hp : f_X3_isRipe dy bl bd yy jj = 0
    · obtain ⟨-, m1, m2, m3, m4, m5, m6⟩ := fl_X3_bottle_ok_0 tk bl bd yy bs lf lc bo dy pp jj mn kc vv hp h
      exact Or.inr (Or.inl ⟨c1, m6, by rw [m1, m2, m3, m4, m5]; exact hR0.mono⟩)
    · by_cases ha : bl jj < mn
      · obtain ⟨-, m1, m2, m3, m4, m5, m6⟩ := fl_X3_bottle_ok_2 tk bl bd yy bs lf lc bo dy pp jj mn kc vv hp ha h
        exact Or.inr (Or.inl ⟨c1, m6, by rw [m1, m2, m3, m4, m5]; exact hR0.mono⟩)
      · by_cases hb : lf jj < mn
        · obtain ⟨-, m1, m2, m3, m4, m5, m6⟩ := fl_X3_bottle_ok_4 tk bl bd yy bs lf lc bo dy pp jj mn kc vv hp ha hb h
          exact Or.inr (Or.inl ⟨c1, m6, by rw [m1, m2, m3, m4, m5]; exact hR0.mono⟩)
        · by_cases hq : lc jj = f_X3_classOf (bs jj)
          · obtain ⟨-, m1, m2, m3, m4, m5, m6⟩ := fl_X3_bottle_ok_6 tk bl bd yy bs lf lc bo dy pp jj mn kc vv hp ha hb hq h
            exact Or.inr (Or.inl ⟨c1, m6, by rw [m1, m2, m3, m4, m5]; exact hR0.mono⟩)
          · obtain ⟨-, m1, m2, m3, m4, m5, m6⟩ := fl_X3_bottle_ok_8 tk bl bd yy bs lf lc bo dy pp jj mn kc vv hp ha hb hq h
            exact Or.inr (Or.inl ⟨c1, m6, by rw [m1, m2, m3, m4, m5]; exact hR0.mono⟩)
  · obtain ⟨v, hv, hv1, hv2⟩ := z_inOf 1 1000 rfl rfl (by decide) (by decide) h
    have h1m : ¬ mn ≤ 0 := by rw [hv]; exact nI_nle (by omega) (by omega)
    by_cases hp : f_X3_isRipe dy bl bd yy jj = 0
    · have c1 := fl_X2_bottle_ok_1 dy (be jj).rp (be jj).li (be jj).st (be jj).la (be jj).lc mn h (by rw [hrd]; exact hp)
      obtain ⟨-, m1, m2, m3, m4, m5, m6⟩ := fl_X3_bottle_ok_1 tk bl bd yy bs lf lc bo dy pp jj mn kc vv hp h
      exact Or.inr (Or.inr ⟨c1, m6, by rw [m1, m2, m3, m4, m5]; exact hR0.mono⟩)
    · have hp' : ¬ f_X0_isReady (be jj).rp (be jj).li dy = 0 := by rw [hrd]; exact hp
      by_cases ha : bl jj < mn
      · have c1 := fl_X2_bottle_ok_2 dy (be jj).rp (be jj).li (be jj).st (be jj).la (be jj).lc mn h hp' (by rw [e3]; exact ha)
        obtain ⟨-, m1, m2, m3, m4, m5, m6⟩ := fl_X3_bottle_ok_3 tk bl bd yy bs lf lc bo dy pp jj mn kc vv hp ha h
        exact Or.inr (Or.inr ⟨c1, m6, by rw [m1, m2, m3, m4, m5]; exact hR0.mono⟩)
      · have ha' : ¬ (be jj).li < mn := by rw [e3]; exact ha
        by_cases hq : lc jj = f_X3_classOf (bs jj)
        · have hlb : f_X0_labelsOfItsClass (be jj).st (be jj).la (be jj).lc = lf jj := by
            unfold f_X0_labelsOfItsClass
            rw [hcl, e7, if_pos hq, e6]
          by_cases hb : lf jj < mn
          · have c1 := fl_X2_bottle_ok_4 dy (be jj).rp (be jj).li (be jj).st (be jj).la (be jj).lc mn h hp' ha' (by rw [hlb]; exact Int32.not_le.mpr hb)
            obtain ⟨-, m1, m2, m3, m4, m5, m6⟩ := fl_X3_bottle_ok_5 tk bl bd yy bs lf lc bo dy pp jj mn kc vv hp ha hb h
            exact Or.inr (Or.inr ⟨c1, m6, by rw [m1, m2, m3, m4, m5]; exact hR0.mono⟩)
          · have c1 := fl_X2_bottle_ok_3 dy (be jj).rp (be jj).li (be jj).st (be jj).la (be jj).lc mn h hp' ha' (by rw [hlb]; exact Int32.not_lt.mp hb)
            obtain ⟨m0, m1, m2, m3, m4, m5, m6⟩ := fl_X3_bottle_ok_7 tk bl bd yy bs lf lc bo dy pp jj mn kc vv hp ha hb hq h
            have hck : f_X2_classOf (be jj).st = nI kc := by rw [hcl, ← hq, hkc]
            have hsm : mn * f_X2_stampOf (f_X2_classOf (be jj).st) = mn * f_X3_stamp (nI kc) := by rw [hck, z_stamp hk4]
            rw [v2, hv, nI_ltI (by omega) (by omega)] at ha
            have hnz : ¬ bl jj = 0 := by rw [v2]; exact nI_ne0 (by omega) (by omega)
            have hnew : upd bl jj (bl jj - mn) jj = nI (w2 - v) := by rw [z_us, v2, hv, pk_sub (by omega)]
            refine Or.inl ⟨c1, m6, by rw [m0, hsm], ?_⟩
            rw [m1, m2, m3, m4, m5, hsm, hck, z_addB _ hk4]
            refine z_R1 hR0 hj rfl rfl (by omega) rfl ⟨⟨e1, e2, ?_, e4, e5, ?_, e7, e8, fun c hc => ?_⟩, ⟨v1, ⟨w2 - v, by omega, hnew⟩, ⟨w3, hw3, v3⟩, ⟨w4, hw4, v4⟩, v5, v6, v7⟩, lab⟩
              (fun i hi => ⟨z_un _ _ hi, rfl, rfl, z_un _ _ hi, rfl, rfl, rfl, fun c hc => z_un _ _ (by omega)⟩) ?_ htel
            · show (be jj).li - mn = _
              rw [z_us, e3]
            · show (be jj).la - mn = _
              rw [z_us, e6]
            · show upd (bf jj) kc (bf jj kc + mn) c = upd bo (4 * jj + kc) (bo (4 * jj + kc) + mn) (4 * jj + c)
              by_cases e : c = kc
              · subst e
                rw [z_us, z_us, c9 c hc]
              · rw [z_un _ _ e, z_un _ _ (by omega), c9 c hc]
            · unfold f_X3_empties_tk
              by_cases hz : upd bl jj (bl jj - mn) jj = 0
              · rw [if_pos hz]
                exact htk.gone hj hvv hbv hnz hz (fun i hi hne => by rw [z_un _ _ hne])
              · rw [if_neg hz]
                refine htk.same (fun i hi => ?_)
                by_cases e : i = jj
                · subst e
                  exact ⟨fun x => absurd x hz, fun x => absurd x hnz⟩
                · rw [z_un _ _ e]
        · have hlb : f_X0_labelsOfItsClass (be jj).st (be jj).la (be jj).lc = 0 := by
            unfold f_X0_labelsOfItsClass
            rw [hcl, e7, if_neg hq]
          have c1 := fl_X2_bottle_ok_4 dy (be jj).rp (be jj).li (be jj).st (be jj).la (be jj).lc mn h hp' ha' (by rw [hlb]; exact h1m)
          by_cases hb : lf jj < mn
          · obtain ⟨-, m1, m2, m3, m4, m5, m6⟩ := fl_X3_bottle_ok_5 tk bl bd yy bs lf lc bo dy pp jj mn kc vv hp ha hb h
            exact Or.inr (Or.inr ⟨c1, m6, by rw [m1, m2, m3, m4, m5]; exact hR0.mono⟩)
          · obtain ⟨-, m1, m2, m3, m4, m5, m6⟩ := fl_X3_bottle_ok_9 tk bl bd yy bs lf lc bo dy pp jj mn kc vv hp ha hb hq h
            exact Or.inr (Or.inr ⟨c1, m6, by rw [m1, m2, m3, m4, m5]; exact hR0.mono⟩)
theorem s_brew (hR : zRl G k n ct (nI n) dy dy pp pp po po bh t0 t1 t2 t3 t4 be bf sx tk bt bl bd yy bs bm lf lc gn pr bo) (hk : k < 512) (tt li ex ye : Int32) : zS_L_brew_0 G k n ct dy pp po bh t0 t1 t2 t3 t4 ff be bf sx tk bt bl bd yy bs bm lf lc gn pr bo tt li ex ye ∨ zS_L_brew_1 G k n ct dy pp po bh t0 t1 t2 t3 t4 ff be bf sx tk bt bl bd yy bs bm lf lc gn pr bo tt li ex ye ∨ zS_L_brew_2 G k n ct dy pp po bh t0 t1 t2 t3 t4 ff be bf sx tk bt bl bd yy bs bm lf lc gn pr bo tt li ex ye ∨ zS_L_brew_3 G k n ct dy pp po bh t0 t1 t2 t3 t4 ff be bf sx tk bt bl bd yy bs bm lf lc gn pr bo tt li ex ye := by
  have hR0 := hR
  obtain ⟨⟨hn, hct, ⟨d, hd, hdy⟩, -⟩, hbh, hpe, hfr, htk, htel⟩ := hR
  by_cases h1 : f_X3_in tt 0 7 = 0
  · have c1 := fl_X2_brew_0 n be tt li ex ye h1
    by_cases h2 : f_X3_in li 1 1000 = 0
    · obtain ⟨-, m1, m2, m3, m4, m5, m6, m7, m8, m9⟩ := fl_X3_brew_0 tk bt bl bd yy bs pr n dy tt li ex ye h1 h2
      exact Or.inr (Or.inl ⟨c1, m9, by rw [m1, m2, m3, m4, m5, m6, m7, m8]; exact hR0.mono⟩)
    · by_cases h3 : f_X3_in ex 50 300 = 0
      · obtain ⟨-, m1, m2, m3, m4, m5, m6, m7, m8, m9⟩ := fl_X3_brew_1 tk bt bl bd yy bs pr n dy tt li ex ye h1 h2 h3
        exact Or.inr (Or.inl ⟨c1, m9, by rw [m1, m2, m3, m4, m5, m6, m7, m8]; exact hR0.mono⟩)
      · obtain ⟨-, m1, m2, m3, m4, m5, m6, m7, m8, m9⟩ := fl_X3_brew_2 tk bt bl bd yy bs pr n dy tt li ex ye h1 h2 h3
        exact Or.inr (Or.inl ⟨c1, m9, by rw [m1, m2, m3, m4, m5, m6, m7, m8]; exact hR0.mono⟩)
  · by_cases h4 : f_X3_in ye 0 2 = 0
    · have c1 := fl_X2_brew_1 n be tt li ex ye h1 h4
      by_cases h2 : f_X3_in li 1 1000 = 0
      · obtain ⟨-, m1, m2, m3, m4, m5, m6, m7, m8, m9⟩ := fl_X3_brew_3 tk bt bl bd yy bs pr n dy tt li ex ye h1 h4 h2
        exact Or.inr (Or.inl ⟨c1, m9, by rw [m1, m2, m3, m4, m5, m6, m7, m8]; exact hR0.mono⟩)
      · by_cases h3 : f_X3_in ex 50 300 = 0
        · obtain ⟨-, m1, m2, m3, m4, m5, m6, m7, m8, m9⟩ := fl_X3_brew_4 tk bt bl bd yy bs pr n dy tt li ex ye h1 h4 h2 h3
          exact Or.inr (Or.inl ⟨c1, m9, by rw [m1, m2, m3, m4, m5, m6, m7, m8]; exact hR0.mono⟩)
        · obtain ⟨-, m1, m2, m3, m4, m5, m6, m7, m8, m9⟩ := fl_X3_brew_5 tk bt bl bd yy bs pr n dy tt li ex ye h1 h4 h2 h3
          exact Or.inr (Or.inl ⟨c1, m9, by rw [m1, m2, m3, m4, m5, m6, m7, m8]; exact hR0.mono⟩)
    · by_cases h2 : f_X3_in li 1 1000 = 0
      · have c1 := fl_X2_brew_2 n be tt li ex ye h1 h4 h2
        obtain ⟨-, m1, m2, m3, m4, m5, m6, m7, m8, m9⟩ := fl_X3_brew_6 tk bt bl bd yy bs pr n dy tt li ex ye h1 h4 h2
        exact Or.inr (Or.inr (Or.inl ⟨c1, m9, by rw [m1, m2, m3, m4, m5, m6, m7, m8]; exact hR0.mono⟩))
      · by_cases h3 : f_X3_in ex 50 300 = 0
        · have c1 := fl_X2_brew_3 n be tt li ex ye h1 h4 h2 h3
          obtain ⟨-, m1, m2, m3, m4, m5, m6, m7, m8, m9⟩ := fl_X3_brew_7 tk bt bl bd yy bs pr n dy tt li ex ye h1 h4 h2 h3
          exact Or.inr (Or.inr (Or.inl ⟨c1, m9, by rw [m1, m2, m3, m4, m5, m6, m7, m8]; exact hR0.mono⟩))
        · obtain ⟨t, ht, -, ht7⟩ := z_inOf 0 7 rfl rfl (by decide) (by decide) h1
          obtain ⟨y, hy, -, hy2⟩ := z_inOf 0 2 rfl rfl (by decide) (by decide) h4
          obtain ⟨w, hw, hw1, hw2⟩ := z_inOf 1 1000 rfl rfl (by decide) (by decide) h2
          obtain ⟨x, hx, hx1, hx2⟩ := z_inOf 50 300 rfl rfl (by decide) (by decide) h3
          have htc : tt.toNatClampNeg = t := by rw [ht]; exact nI_clamp (by omega)
          have hg : gIn be tt n 0 = tk tt.toNatClampNeg := by
            rw [htc, ht]
            exact z_gIn hR0 (by omega)
          by_cases h5 : 0 ≤ tk tt.toNatClampNeg
          · have c1 := fl_X2_brew_6 n be tt li ex ye h1 h4 h2 h3 (by rw [hg]; exact fun e => absurd h5 (by rw [e]; decide))
            obtain ⟨-, m1, m2, m3, m4, m5, m6, m7, m8, m9⟩ := fl_X3_brew_8 tk bt bl bd yy bs pr n dy tt li ex ye h1 h4 h2 h3 h5
            exact Or.inr (Or.inr (Or.inr ⟨c1, m9, by rw [m1, m2, m3, m4, m5, m6, m7, m8]; exact hR0.mono⟩))
          · have htm : tk t = -1 := by
              rcases htk t (by omega) with ⟨q, -⟩ | ⟨j, hj, q, -⟩
              · exact q
              · rw [htc, q] at h5
                exact absurd (nI_pos' (by omega)) h5
            have hg1 : gIn be tt n 0 = -1 := by rw [hg, htc, htm]
            by_cases h6 : nI n = 20
            · have c1 := fl_X2_brew_5 n be tt li ex ye h1 h4 h2 h3 hg1 (by rw [h6]; decide)
              obtain ⟨-, m1, m2, m3, m4, m5, m6, m7, m8, m9⟩ := fl_X3_brew_9 tk bt bl bd yy bs pr n dy tt li ex ye h1 h4 h2 h3 h5 h6
              exact Or.inr (Or.inr (Or.inr ⟨c1, m9, by rw [m1, m2, m3, m4, m5, m6, m7, m8]; exact hR0.mono⟩))
            · have hn2 : n < 20 := by
                rcases Nat.lt_or_eq_of_le hn with q | q
                · exact q
                · subst q
                  exact absurd rfl h6
              have c1 := fl_X2_brew_4 n be tt li ex ye h1 h4 h2 h3 hg1 (nI_lt (b := 20) hn2 (by decide))
              obtain ⟨m0, m1, m2, m3, m4, m5, m6, m7, m8, m9⟩ := fl_X3_brew_10 tk bt bl bd yy bs pr n dy tt li ex ye h1 h4 h2 h3 h5 h6
              refine Or.inl ⟨c1, m9, m0.symm, fun q0 q1 => ?_⟩
              obtain ⟨fv, hfv, f1, f2⟩ := z_fore (e := x) (w := y) (by omega) (by omega)
              have hfo : f_X2_foretoldStrength ex ye = nI fv := by rw [hx, hy]; exact f1
              have hfm : (ex * f_X3_percent ye) / 200 = nI fv := by rw [hx, hy]; exact f2
              obtain ⟨dv, hdv, d1, d2⟩ := z_days3 (w := y) (by omega)
              rw [m1, m2, m3, m4, m5, m6, m7, m8, htc, hfo, hfm]
              obtain ⟨b1, b2, b3, b4, b5⟩ := hfr n (Nat.le_refl n)
              refine ⟨⟨hn2, by omega, ⟨d, by omega, hdy⟩, rfl, rfl, rfl, rfl⟩, fun i hi => ?_, fun i hi => ?_, fun i hi => hfr i (by omega), ?_, fun ff i hi => ?_⟩
              · by_cases e : i = n
                · subst e
                  rw [va_up_self, va_up_self]
                  all_goals rfl
                · rw [va_up_ne _ _ e, va_up_ne _ _ e]
                  exact hbh i (by omega)
              · by_cases e : i = n
                · subst e
                  rw [va_up_self, va_up_self, va_up_self, z_us, z_us, z_us, z_us, z_us, z_us, b1, b2, b3, b4]
                  refine ⟨⟨rfl, ?_, rfl, rfl, rfl, rfl, rfl, rfl, fun c hc => (b5 c hc).symm⟩, ⟨⟨t, by omega, ht⟩, ⟨w, hw2, hw⟩, ⟨d, by omega, hdy⟩, ⟨y, by omega, hy⟩, ⟨fv, hfv, rfl⟩, Or.inl rfl, ⟨0, by decide, rfl⟩⟩, Or.inl ⟨rfl, rfl, rfl⟩⟩
                  show dy + f_X2_valueAt_d ye = dy + f_X3_days ye
                  rw [hy, d1, d2]
                · rw [va_up_ne _ _ e, va_up_ne _ _ e, va_up_ne _ _ e, z_un _ _ e, z_un _ _ e, z_un _ _ e, z_un _ _ e, z_un _ _ e, z_un _ _ e]
                  exact hpe i (by omega)
              · rw [ht]
                exact htk.brew hn (by omega) htm (by rw [hw]; exact nI_ne0 (by omega) (by omega))
              · rw [z_gFup _ _ _ _ _ ff ct hn2 (nI fv) (-1) 0 0, if_pos rfl]
                by_cases e : i = n
                · subst e
                  rw [z_us, z_us]
                · rw [z_un _ _ e, z_un _ _ e]
                  exact htel ff i (by omega)
theorem s_blend (hR : zRl G k n ct (nI n) dy dy pp pp po po bh t0 t1 t2 t3 t4 be bf sx tk bt bl bd yy bs bm lf lc gn pr bo) (hk : k < 512) {jj kk vv : Nat} (hj : jj < n) (hkn : kk < n) (hne : jj ≠ kk) (hvv : vv < 8) (hbv : bt kk = nI vv) (lg : Int32) : zS_L_blend_ok_0 G k n ct dy pp po bh t0 t1 t2 t3 t4 ff be bf sx tk bt bl bd yy bs bm lf lc gn pr bo jj kk lg vv ∨ zS_L_blend_ok_2 G k n ct dy pp po bh t0 t1 t2 t3 t4 ff be bf sx tk bt bl bd yy bs bm lf lc gn pr bo jj kk lg vv ∨ zS_L_blend_ok_3 G k n ct dy pp po bh t0 t1 t2 t3 t4 ff be bf sx tk bt bl bd yy bs bm lf lc gn pr bo jj kk lg vv := by
  have hR0 := hR
  obtain ⟨⟨hn, hct, ⟨d, hd, hdy⟩, -⟩, -, hpe, -, htk, htel⟩ := hR
  obtain ⟨⟨e1, e2, e3, e4, e5, e6, e7, e8, e9⟩, ⟨v1, ⟨w2, hw2, v2⟩, ⟨w3, hw3, v3⟩, ⟨w4, hw4, v4⟩, ⟨w5, hw5, v5⟩, v6, v7⟩, lab⟩ := hpe jj hj
  obtain ⟨⟨g1, g2, g3, g4, g5, g6, g7, g8, g9⟩, ⟨y1, ⟨x2, hx2, y2⟩, ⟨x3, hx3, y3⟩, ⟨x4, hx4, y4⟩, ⟨x5, hx5, y5⟩, y6, y7⟩, labk⟩ := hpe kk hkn
  have hrd : f_X0_isReady (be jj).rp (be jj).li dy = f_X3_isRipe dy bl bd yy jj := by
    rw [e3]
    exact z_ready v2 v3 v4 hdy e2 hw2 hw3 hw4 (by omega)
  have hrk : f_X0_isReady (be kk).rp (be kk).li dy = f_X3_isRipe dy bl bd yy kk := by
    rw [g3]
    exact z_ready y2 y3 y4 hdy g2 hx2 hx3 hx4 (by omega)
  by_cases h : f_X3_in lg 1 1000 = 0
  · have c1 := fl_X2_blend_ok_0 dy po (be jj).rp (be jj).li (be jj).st (be jj).me (be jj).la (be jj).lc (be jj).vo (be kk).rp (be kk).li (be kk).st (be kk).me (bf jj) lg h
    obtain ⟨c1, -⟩ := c1
    by_cases hp : f_X3_isRipe dy bl bd yy jj = 0
    · obtain ⟨-, m1, m2, m3, m4, m5, m6, m7, m8, m9⟩ := fl_X3_blend_ok_0 tk bl bd yy bs bm lf lc gn bo dy po jj kk lg vv h hp
      exact Or.inr (Or.inl ⟨c1, m9, by rw [m1, m2, m3, m4, m5, m6, m7, m8]; exact hR0.mono⟩)
    · by_cases hp2 : f_X3_isRipe dy bl bd yy kk = 0
      · obtain ⟨-, m1, m2, m3, m4, m5, m6, m7, m8, m9⟩ := fl_X3_blend_ok_1 tk bl bd yy bs bm lf lc gn bo dy po jj kk lg vv h hp hp2
        exact Or.inr (Or.inl ⟨c1, m9, by rw [m1, m2, m3, m4, m5, m6, m7, m8]; exact hR0.mono⟩)
      · by_cases ha : bl kk < lg
        · obtain ⟨-, m1, m2, m3, m4, m5, m6, m7, m8, m9⟩ := fl_X3_blend_ok_2 tk bl bd yy bs bm lf lc gn bo dy po jj kk lg vv h hp hp2 ha
          exact Or.inr (Or.inl ⟨c1, m9, by rw [m1, m2, m3, m4, m5, m6, m7, m8]; exact hR0.mono⟩)
        · by_cases hb : bl jj + lg ≤ 1000
          · obtain ⟨-, m1, m2, m3, m4, m5, m6, m7, m8, m9⟩ := fl_X3_blend_ok_3 tk bl bd yy bs bm lf lc gn bo dy po jj kk lg vv h hp hp2 ha hb
            exact Or.inr (Or.inl ⟨c1, m9, by rw [m1, m2, m3, m4, m5, m6, m7, m8]; exact hR0.mono⟩)
          · obtain ⟨-, m1, m2, m3, m4, m5, m6, m7, m8, m9⟩ := fl_X3_blend_ok_4 tk bl bd yy bs bm lf lc gn bo dy po jj kk lg vv h hp hp2 ha hb
            exact Or.inr (Or.inl ⟨c1, m9, by rw [m1, m2, m3, m4, m5, m6, m7, m8]; exact hR0.mono⟩)
  · by_cases hp : f_X3_isRipe dy bl bd yy jj = 0
    · obtain ⟨c1, -⟩ := fl_X2_blend_ok_1 dy po (be jj).rp (be jj).li (be jj).st (be jj).me (be jj).la (be jj).lc (be jj).vo (be kk).rp (be kk).li (be kk).st (be kk).me (bf jj) lg h (by rw [hrd]; exact hp)
      obtain ⟨-, m1, m2, m3, m4, m5, m6, m7, m8, m9⟩ := fl_X3_blend_ok_5 tk bl bd yy bs bm lf lc gn bo dy po jj kk lg vv h hp
      exact Or.inr (Or.inr ⟨c1, m9, by rw [m1, m2, m3, m4, m5, m6, m7, m8]; exact hR0.mono⟩)
    · have hp' : ¬ f_X0_isReady (be jj).rp (be jj).li dy = 0 := by rw [hrd]; exact hp
      by_cases hp2 : f_X3_isRipe dy bl bd yy kk = 0
      · obtain ⟨c1, -⟩ := fl_X2_blend_ok_2 dy po (be jj).rp (be jj).li (be jj).st (be jj).me (be jj).la (be jj).lc (be jj).vo (be kk).rp (be kk).li (be kk).st (be kk).me (bf jj) lg h hp' (by rw [hrk]; exact hp2)
        obtain ⟨-, m1, m2, m3, m4, m5, m6, m7, m8, m9⟩ := fl_X3_blend_ok_6 tk bl bd yy bs bm lf lc gn bo dy po jj kk lg vv h hp hp2
        exact Or.inr (Or.inr ⟨c1, m9, by rw [m1, m2, m3, m4, m5, m6, m7, m8]; exact hR0.mono⟩)
      · have hp2' : ¬ f_X0_isReady (be kk).rp (be kk).li dy = 0 := by rw [hrk]; exact hp2
        by_cases ha : bl kk < lg
        · obtain ⟨c1, -⟩ := fl_X2_blend_ok_3 dy po (be jj).rp (be jj).li (be jj).st (be jj).me (be jj).la (be jj).lc (be jj).vo (be kk).rp (be kk).li (be kk).st (be kk).me (bf jj) lg h hp' hp2' (by rw [g3]; exact ha)
          obtain ⟨-, m1, m2, m3, m4, m5, m6, m7, m8, m9⟩ := fl_X3_blend_ok_7 tk bl bd yy bs bm lf lc gn bo dy po jj kk lg vv h hp hp2 ha
          exact Or.inr (Or.inr ⟨c1, m9, by rw [m1, m2, m3, m4, m5, m6, m7, m8]; exact hR0.mono⟩)
        · have ha' : ¬ (be kk).li < lg := by rw [g3]; exact ha
          by_cases hb : bl jj + lg ≤ 1000
          · have hb' : (be jj).li + lg ≤ 1000 := by rw [e3]; exact hb
            obtain ⟨v, hv, hv1, hv2⟩ := z_inOf 1 1000 rfl rfl (by decide) (by decide) h
            have ha2 : v ≤ x2 := by
              rw [y2, hv, nI_ltI (by omega) (by omega)] at ha
              omega
            have hb2 : w2 + v ≤ 1000 := by
              rw [v2, hv, nI_add] at hb
              exact (nI_leI (b := 1000) (by omega) (by decide)).mp hb
            have hjz : ¬ bl jj = 0 := fun e => hp (by unfold f_X3_isRipe; rw [if_pos (by rw [e]; decide)])
            have hkz : ¬ bl kk = 0 := fun e => hp2 (by unfold f_X3_isRipe; rw [if_pos (by rw [e]; decide)])
            obtain ⟨n1, n2, n3⟩ := z_blendN (s := w5) (l := w2) (s2 := x5) (g := v) hw5 hx5 hv1 hb2
            have hS : f_X2_blendedStrength (be jj).st (be jj).li (be kk).st lg = nI ((w5 * w2 + x5 * v) / (w2 + v)) := by rw [e4, v5, e3, v2, g4, y5, hv]; exact n1
            have hM : (bs jj * bl jj + bs kk * lg) / (bl jj + lg) = nI ((w5 * w2 + x5 * v) / (w2 + v)) := by rw [v5, v2, y5, hv]; exact n2
            -- the litres
            have hne' : kk ≠ jj := fun e => hne e.symm
            have lj : upd (upd bl jj (bl jj + lg)) kk (upd bl jj (bl jj + lg) kk - lg) jj = bl jj + lg := by rw [z_un _ _ hne, z_us]
            have lk : upd (upd bl jj (bl jj + lg)) kk (upd bl jj (bl jj + lg) kk - lg) kk = bl kk - lg := by rw [z_us, z_un _ _ hne']
            have lo : ∀ i, i ≠ jj → i ≠ kk → upd (upd bl jj (bl jj + lg)) kk (upd bl jj (bl jj + lg) kk - lg) i = bl i := fun i h1 h2 => by rw [z_un _ _ h2, z_un _ _ h1]
            have ljn : bl jj + lg = nI (w2 + v) := by rw [v2, hv, nI_add]
            have lkn : bl kk - lg = nI (x2 - v) := by rw [y2, hv, pk_sub ha2]
            have hjz2 : ¬ bl jj + lg = 0 := by rw [ljn]; exact nI_ne0 (by omega) (by omega)
            have hper3 : zPer G ((be kk).h, (be kk).tk, (be kk).rp, (be kk).li - lg, (be kk).st, (be kk).me, (be kk).la, (be kk).lc, (be kk).vo, (be kk).tx, (be kk).bo) (bf kk) (sx kk) (bt kk) (upd (upd bl jj (bl jj + lg)) kk (upd bl jj (bl jj + lg) kk - lg) kk) (bd kk) (yy kk) (bs kk) (bm kk) (lf kk) (lc kk) (gn kk) (pr kk) (fun c => bo (4 * kk + c)) := by
              rw [lk]
              exact ⟨⟨g1, g2, congrArg (fun z : Int32 => z - lg) g3, g4, g5, g6, g7, g8, g9⟩, ⟨y1, ⟨x2 - v, by omega, lkn⟩, ⟨x3, hx3, y3⟩, ⟨x4, hx4, y4⟩, ⟨x5, hx5, y5⟩, y6, y7⟩, labk⟩
            have htk2 : zTk (f_X3_empties_tk tk (upd (upd bl jj (bl jj + lg)) kk (upd bl jj (bl jj + lg) kk - lg)) kk vv) bt (upd (upd bl jj (bl jj + lg)) kk (upd bl jj (bl jj + lg) kk - lg)) n := by
              unfold f_X3_empties_tk
              by_cases hz : upd (upd bl jj (bl jj + lg)) kk (upd bl jj (bl jj + lg) kk - lg) kk = 0
              · rw [if_pos hz]
                refine htk.gone hkn hvv hbv hkz hz (fun i hi hik => ?_)
                by_cases e : i = jj
                · subst e
                  rw [lj]
                  exact ⟨fun q => absurd q hjz2, fun q => absurd q hjz⟩
                · rw [lo i e hik]
              · rw [if_neg hz]
                refine htk.same (fun i hi => ?_)
                by_cases e2 : i = kk
                · subst e2
                  exact ⟨fun q => absurd q hz, fun q => absurd q hkz⟩
                · by_cases e : i = jj
                  · subst e
                    rw [lj]
                    exact ⟨fun q => absurd q hjz2, fun q => absurd q hjz⟩
                  · rw [lo i e e2]
            have htel2 : ∀ ff i, i < n → gF (upd t0 ct (nI jj)) (upd t1 ct 0) (upd t2 ct (nI kk)) (upd t3 ct (be jj).li) (upd t4 ct lg) ff (ct + 1) i = upd bs jj (nI ((w5 * w2 + x5 * v) / (w2 + v))) i := fun ff i hi => by
              rw [z_gFup _ _ _ _ _ ff ct (by omega) 0 (nI kk) (be jj).li lg, if_neg (fun e => z_m1ne (by omega) e.symm), z_vr20 _ (by omega), htel ff jj hj, htel ff kk hkn]
              by_cases e : i = jj
              · subst e
                rw [z_us, z_us, ← hS, e4, g4]
              · rw [z_un _ _ e, z_un _ _ e]
                exact htel ff i hi
            by_cases hmj : bm jj = 1
            · have hmj' : ¬ (be jj).me = 0 := by rw [e5, hmj]; decide
              by_cases hmk : bm kk = 1
              · have hmk' : ¬ (be kk).me = 0 := by rw [g5, hmk]; decide
                obtain ⟨c1, c2, c3, c4, c5, c6⟩ := fl_X2_blend_ok_6 dy po (be jj).rp (be jj).li (be jj).st (be jj).me (be jj).la (be jj).lc (be jj).vo (be kk).rp (be kk).li (be kk).st (be kk).me (bf jj) lg h hp' hp2' ha' hb' hmj' hmk'
                obtain ⟨m0, m1, m2, m3, m4, m5, m6, m7, m8, m9⟩ := fl_X3_blend_ok_8 tk bl bd yy bs bm lf lc gn bo dy po jj kk lg vv h hp hp2 ha hb hmj hmk
                refine Or.inl ⟨c1, m9, by rw [m0, hS, hM], ?_⟩
                rw [m1, m2, m3, m4, m5, m6, m7, m8, c2, c3, c4, c5, c6, hS, hM]
                obtain ⟨r1, r2, r3, r4⟩ := z_mbo po lf lc gn bo (bf jj) jj (nI ((w5 * w2 + x5 * v) / (w2 + v))) e9
                refine z_R2 hR0 hj hkn hne rfl (r2.trans (congrArg (fun z : Int32 => po + z) r1.symm)) (by omega) rfl rfl ⟨⟨e1, e2, ?_, (z_us _ _ _).symm, (z_us _ _ _).symm, ?_, e7, ?_, r3⟩, ⟨v1, ⟨w2 + v, hb2, by rw [lj]; exact ljn⟩, ⟨w3, hw3, v3⟩, ⟨w4, hw4, v4⟩, ⟨_, n3, by rw [z_us]⟩, Or.inr (z_us _ _ _), v7⟩, lab⟩ hper3 lo
                  (fun i hi => ⟨z_un _ _ hi, z_un _ _ hi, z_mlfN hi, z_mgnN hi, fun c hc => r4 _ (fun c2 hc2 => by omega)⟩) htk2 htel2
                · rw [lj]
                  exact congrArg (fun z : Int32 => z + lg) e3
                · exact z_mlfS (c := (be jj).vo) e6 e7
                · exact z_mgnS e6 e7 e8
              · have hmk' : (be kk).me = 0 := by
                  rcases y6 with q | q
                  · rw [g5, q]
                  · exact absurd q hmk
                obtain ⟨c1, c2, c3, c4, c5, c6⟩ := fl_X2_blend_ok_5 dy po (be jj).rp (be jj).li (be jj).st (be jj).me (be jj).la (be jj).lc (be jj).vo (be kk).rp (be kk).li (be kk).st (be kk).me (bf jj) lg h hp' hp2' ha' hb' hmj' hmk'
                obtain ⟨m0, m1, m2, m3, m4, m5, m6, m7, m8, m9⟩ := fl_X3_blend_ok_9 tk bl bd yy bs bm lf lc gn bo dy po jj kk lg vv h hp hp2 ha hb hmj hmk
                refine Or.inl ⟨c1, m9, by rw [m0, hS, hM], ?_⟩
                rw [m1, m2, m3, m4, m5, m6, m7, m8, c2, c3, c4, c5, c6, hS, hM]
                refine z_R2 hR0 hj hkn hne rfl rfl (by omega) rfl rfl ⟨⟨e1, e2, ?_, (z_us _ _ _).symm, (z_us _ _ _).symm, e6, e7, e8, e9⟩, ⟨v1, ⟨w2 + v, hb2, by rw [lj]; exact ljn⟩, ⟨w3, hw3, v3⟩, ⟨w4, hw4, v4⟩, ⟨_, n3, by rw [z_us]⟩, Or.inl (z_us _ _ _), v7⟩, lab⟩ hper3 lo
                  (fun i hi => ⟨z_un _ _ hi, z_un _ _ hi, rfl, rfl, fun c hc => rfl⟩) htk2 htel2
                rw [lj]
                exact congrArg (fun z : Int32 => z + lg) e3
            · have hmj' : (be jj).me = 0 := by
                rcases v6 with q | q
                · rw [e5, q]
                · exact absurd q hmj
              obtain ⟨c1, c2, c3, c4, c5, c6⟩ := fl_X2_blend_ok_4 dy po (be jj).rp (be jj).li (be jj).st (be jj).me (be jj).la (be jj).lc (be jj).vo (be kk).rp (be kk).li (be kk).st (be kk).me (bf jj) lg h hp' hp2' ha' hb' hmj'
              obtain ⟨m0, m1, m2, m3, m4, m5, m6, m7, m8, m9⟩ := fl_X3_blend_ok_10 tk bl bd yy bs bm lf lc gn bo dy po jj kk lg vv h hp hp2 ha hb hmj
              refine Or.inl ⟨c1, m9, by rw [m0, hS, hM], ?_⟩
              rw [m1, m2, m3, m4, m5, m6, m7, m8, c2, c3, c4, c5, c6, hS, hM]
              refine z_R2 hR0 hj hkn hne rfl rfl (by omega) rfl rfl ⟨⟨e1, e2, ?_, (z_us _ _ _).symm, (z_us _ _ _).symm, e6, e7, e8, e9⟩, ⟨v1, ⟨w2 + v, hb2, by rw [lj]; exact ljn⟩, ⟨w3, hw3, v3⟩, ⟨w4, hw4, v4⟩, ⟨_, n3, by rw [z_us]⟩, Or.inl (z_us _ _ _), v7⟩, lab⟩ hper3 lo
                (fun i hi => ⟨z_un _ _ hi, z_un _ _ hi, rfl, rfl, fun c hc => rfl⟩) htk2 htel2
              rw [lj]
              exact congrArg (fun z : Int32 => z + lg) e3
          · obtain ⟨c1, -⟩ := fl_X2_blend_ok_7 dy po (be jj).rp (be jj).li (be jj).st (be jj).me (be jj).la (be jj).lc (be jj).vo (be kk).rp (be kk).li (be kk).st (be kk).me (bf jj) lg h hp' hp2' ha' (by rw [e3]; exact hb)
            obtain ⟨-, m1, m2, m3, m4, m5, m6, m7, m8, m9⟩ := fl_X3_blend_ok_11 tk bl bd yy bs bm lf lc gn bo dy po jj kk lg vv h hp hp2 ha hb
            exact Or.inr (Or.inr ⟨c1, m9, by rw [m1, m2, m3, m4, m5, m6, m7, m8]; exact hR0.mono⟩)
end ZS
