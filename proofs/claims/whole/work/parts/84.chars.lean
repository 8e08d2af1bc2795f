/-! ===== the characters of a label, as class and model have them ===== -/
def zChk (sg vv q : Nat) : Bool := decide (f_J1_charAt (nI q) (f_X2_textOfLabel_sf sg vv) = f_X3_signOf (fun _ => nI vv) (fun _ => nI sg) 0 (nI q))
def zChks (a m : Nat) : Bool := (List.range m).all (fun i => (List.range 8).all (fun vv => (List.range (zTn (a + i))).all (fun q => zChk (a + i) vv q)))
theorem z_chks {a m : Nat} (h : zChks a m = true) {sg vv q : Nat} (h1 : a ≤ sg) (h2 : sg < a + m) (hv : vv < 8) (hq : q < zTn sg) : f_J1_charAt (nI q) (f_X2_textOfLabel_sf sg vv) = f_X3_signOf (fun _ => nI vv) (fun _ => nI sg) 0 (nI q) := by
  obtain ⟨i, rfl⟩ : ∃ i, sg = a + i := ⟨sg - a, by omega⟩
  have h3 := List.all_eq_true.mp h i (List.mem_range.mpr (by omega))
  have h4 := List.all_eq_true.mp h3 vv (List.mem_range.mpr hv)
  have h5 := List.all_eq_true.mp h4 q (List.mem_range.mpr hq)
  exact of_decide_eq_true h5
set_option maxRecDepth 100000 in
set_option maxHeartbeats 4000000 in
theorem z_ch_0 : zChks 0 16 = true := by decide +kernel
set_option maxRecDepth 100000 in
set_option maxHeartbeats 4000000 in
theorem z_ch_16 : zChks 16 16 = true := by decide +kernel
set_option maxRecDepth 100000 in
set_option maxHeartbeats 4000000 in
theorem z_ch_32 : zChks 32 16 = true := by decide +kernel
set_option maxRecDepth 100000 in
set_option maxHeartbeats 4000000 in
theorem z_ch_48 : zChks 48 16 = true := by decide +kernel
set_option maxRecDepth 100000 in
set_option maxHeartbeats 4000000 in
theorem z_ch_64 : zChks 64 16 = true := by decide +kernel
set_option maxRecDepth 100000 in
set_option maxHeartbeats 4000000 in
theorem z_ch_80 : zChks 80 16 = true := by decide +kernel
set_option maxRecDepth 100000 in
set_option maxHeartbeats 4000000 in
theorem z_ch_96 : zChks 96 16 = true := by decide +kernel
set_option maxRecDepth 100000 in
set_option maxHeartbeats 4000000 in
theorem z_ch_112 : zChks 112 16 = true := by decide +kernel
set_option maxRecDepth 100000 in
set_option maxHeartbeats 4000000 in
theorem z_ch_128 : zChks 128 16 = true := by decide +kernel
set_option maxRecDepth 100000 in
set_option maxHeartbeats 4000000 in
theorem z_ch_144 : zChks 144 16 = true := by decide +kernel
set_option maxRecDepth 100000 in
set_option maxHeartbeats 4000000 in
theorem z_ch_160 : zChks 160 16 = true := by decide +kernel
set_option maxRecDepth 100000 in
set_option maxHeartbeats 4000000 in
theorem z_ch_176 : zChks 176 16 = true := by decide +kernel
set_option maxRecDepth 100000 in
set_option maxHeartbeats 4000000 in
theorem z_ch_192 : zChks 192 16 = true := by decide +kernel
set_option maxRecDepth 100000 in
set_option maxHeartbeats 4000000 in
theorem z_ch_208 : zChks 208 16 = true := by decide +kernel
set_option maxRecDepth 100000 in
set_option maxHeartbeats 4000000 in
theorem z_ch_224 : zChks 224 16 = true := by decide +kernel
set_option maxRecDepth 100000 in
set_option maxHeartbeats 4000000 in
theorem z_ch_240 : zChks 240 11 = true := by decide +kernel
theorem z_chars {sg vv q : Nat} (hs : sg ≤ 250) (hv : vv < 8) (hq : q < zTn sg) : f_J1_charAt (nI q) (f_X2_textOfLabel_sf sg vv) = f_X3_signOf (fun _ => nI vv) (fun _ => nI sg) 0 (nI q) := by
  by_cases h0 : sg < 16
  · exact z_chks z_ch_0 (by omega) (by omega) hv hq
  by_cases h16 : sg < 32
  · exact z_chks z_ch_16 (by omega) (by omega) hv hq
  by_cases h32 : sg < 48
  · exact z_chks z_ch_32 (by omega) (by omega) hv hq
  by_cases h48 : sg < 64
  · exact z_chks z_ch_48 (by omega) (by omega) hv hq
  by_cases h64 : sg < 80
  · exact z_chks z_ch_64 (by omega) (by omega) hv hq
  by_cases h80 : sg < 96
  · exact z_chks z_ch_80 (by omega) (by omega) hv hq
  by_cases h96 : sg < 112
  · exact z_chks z_ch_96 (by omega) (by omega) hv hq
  by_cases h112 : sg < 128
  · exact z_chks z_ch_112 (by omega) (by omega) hv hq
  by_cases h128 : sg < 144
  · exact z_chks z_ch_128 (by omega) (by omega) hv hq
  by_cases h144 : sg < 160
  · exact z_chks z_ch_144 (by omega) (by omega) hv hq
  by_cases h160 : sg < 176
  · exact z_chks z_ch_160 (by omega) (by omega) hv hq
  by_cases h176 : sg < 192
  · exact z_chks z_ch_176 (by omega) (by omega) hv hq
  by_cases h192 : sg < 208
  · exact z_chks z_ch_192 (by omega) (by omega) hv hq
  by_cases h208 : sg < 224
  · exact z_chks z_ch_208 (by omega) (by omega) hv hq
  by_cases h224 : sg < 240
  · exact z_chks z_ch_224 (by omega) (by omega) hv hq
  exact z_chks z_ch_240 (by omega) (by omega) hv hq
theorem z_signOf {bt pr : Nat → Int32} {jj : Nat} {sg vv : Nat} (hp : pr jj = nI sg) (hb : bt jj = nI vv) (pl : Int32) : f_X3_signOf bt pr jj pl = f_X3_signOf (fun _ => nI vv) (fun _ => nI sg) 0 pl := by
  unfold f_X3_signOf
  rw [hp, hb]
theorem z_ad {a b : Nat} (h : b ≤ a) : nI a + (-(nI b)) = nI (a - b) := by rw [← Int32.sub_eq_add_neg, pk_sub h]
theorem z_cls1 : ∀ sg, sg < 51 → f_X3_classOf (nI sg) ≤ 1 := by decide +kernel
theorem z_cls2 : ∀ sg, sg < 251 → 50 < sg → ¬ f_X3_classOf (nI sg) ≤ 1 := by decide +kernel
/-- behind the label's end there is nothing -/
theorem z_beyond {bt pr : Nat → Int32} {jj : Nat} {sg q : Nat} (hp : pr jj = nI sg) (hs : sg ≤ 250) (hq : zTn sg ≤ q) (hq2 : q < 2 ^ 31) : f_X3_signOf bt pr jj (nI q) = 0 := by
  unfold zTn at hq
  unfold f_X3_signOf
  rw [hp]
  by_cases h1 : sg ≤ 50
  · rw [if_pos h1] at hq
    have e2 : nI q + (-4) = nI (q - 4) := (z_ad (a := q) (b := 4) (by omega)).trans (congrArg nI (by omega))
    have e3 : nI (q - 4) - 1 = nI (q - 5) := (pk_sub (a := q - 4) (b := 1) (by omega)).trans (congrArg nI (by omega))
    have e4 : nI (q - 5) + (-3) = nI (q - 8) := (z_ad (a := q - 5) (b := 3) (by omega)).trans (congrArg nI (by omega))
    have a4 : (4 : Int32) ≤ nI q := nI_le (a := 4) (by omega) (by omega)
    have aw : (1 : Int32) ≤ nI (q - 4) := nI_le (a := 1) (by omega) (by omega)
    have a3 : (3 : Int32) ≤ nI (q - 5) := nI_le (a := 3) (by omega) (by omega)
    have a9 : (9 : Int32) ≤ nI (q - 8) := nI_le (a := 9) (by omega) (by omega)
    have n9 : ¬ nI (q - 8) = (9 : Int32) := fun h => absurd ((nI_eq (b := 9) (by omega) (by decide)).mp h) (by omega)
    have a100 : ¬ (100 : Int32) ≤ nI sg := nI_ge (b := 100) (a := sg) (by omega) (by decide)
    rw [if_pos (z_cls1 sg (by omega)), if_pos (nI_pos' hq2), Int32.sub_zero, if_pos a4, if_neg a100, e2, if_pos aw, e3, if_pos a3, e4, if_pos a9, if_neg n9]
  · rw [if_neg h1] at hq
    have hq7 : 25 ≤ q := by
      split at hq <;> omega
    have e1 : nI q - 7 = nI (q - 7) := pk_sub (b := 7) (by omega)
    have a7 : (7 : Int32) ≤ nI q := nI_le (a := 7) (by omega) hq2
    by_cases h2 : sg < 100
    · rw [if_pos h2] at hq
      have e2 : nI (q - 7) + (-4) = nI (q - 11) := (z_ad (a := (q - 7)) (b := 4) (by omega)).trans (congrArg nI (by omega))
      have e3 : nI (q - 11) - 1 = nI (q - 12) := (pk_sub (a := q - 11) (b := 1) (by omega)).trans (congrArg nI (by omega))
      have e4 : nI (q - 12) + (-3) = nI (q - 15) := (z_ad (a := q - 12) (b := 3) (by omega)).trans (congrArg nI (by omega))
      have a4 : (4 : Int32) ≤ nI (q - 7) := nI_le (a := 4) (by omega) (by omega)
      have aw : (1 : Int32) ≤ nI (q - 11) := nI_le (a := 1) (by omega) (by omega)
      have a3 : (3 : Int32) ≤ nI (q - 12) := nI_le (a := 3) (by omega) (by omega)
      have a9 : (9 : Int32) ≤ nI (q - 15) := nI_le (a := 9) (by omega) (by omega)
      have n9 : ¬ nI (q - 15) = (9 : Int32) := fun h => absurd ((nI_eq (b := 9) (by omega) (by decide)).mp h) (by omega)
      have a100 : ¬ (100 : Int32) ≤ nI sg := nI_ge (b := 100) (a := sg) (by omega) (by decide)
      rw [if_neg (z_cls2 sg (by omega) (by omega)), if_pos a7, e1, if_pos a4, if_neg a100, e2, if_pos aw, e3, if_pos a3, e4, if_pos a9, if_neg n9]
    · rw [if_neg h2] at hq
      have e2 : nI (q - 7) + (-4) = nI (q - 11) := (z_ad (a := (q - 7)) (b := 4) (by omega)).trans (congrArg nI (by omega))
      have e3 : nI (q - 11) - 2 = nI (q - 13) := (pk_sub (a := q - 11) (b := 2) (by omega)).trans (congrArg nI (by omega))
      have e4 : nI (q - 13) + (-3) = nI (q - 16) := (z_ad (a := q - 13) (b := 3) (by omega)).trans (congrArg nI (by omega))
      have a4 : (4 : Int32) ≤ nI (q - 7) := nI_le (a := 4) (by omega) (by omega)
      have aw : (2 : Int32) ≤ nI (q - 11) := nI_le (a := 2) (by omega) (by omega)
      have a3 : (3 : Int32) ≤ nI (q - 13) := nI_le (a := 3) (by omega) (by omega)
      have a9 : (9 : Int32) ≤ nI (q - 16) := nI_le (a := 9) (by omega) (by omega)
      have n9 : ¬ nI (q - 16) = (9 : Int32) := fun h => absurd ((nI_eq (b := 9) (by omega) (by decide)).mp h) (by omega)
      have a100 : (100 : Int32) ≤ nI sg := nI_le (a := 100) (b := sg) (by omega) (by omega)
      rw [if_neg (z_cls2 sg (by omega) (by omega)), if_pos a7, e1, if_pos a4, if_pos a100, e2, if_pos aw, e3, if_pos a3, e4, if_pos a9, if_neg n9]
