theorem nw_L_7 : zNw RL 7 8 10 [.inr none, .inr none, .inr none, .inr none, .inr none, .inr none, .inr none, .inr none, .inr none, .inl 1] := ⟨RX8, TX8, tyX8, rfl, in_X8, tyX8_ok, (zg_in 56 (by decide +kernel) rfl), (zg_in 57 (by decide +kernel) rfl), (zg_in 43 (by decide +kernel) rfl), rfl, fun j hj => by
  match j, hj with
  | 0, _ => rfl
  | 1, _ => rfl
  | 2, _ => rfl
  | 3, _ => rfl
  | 4, _ => rfl
  | 5, _ => rfl
  | 6, _ => rfl
  | 7, _ => rfl
  | 8, _ => rfl
  | 9, _ => rfl
  | j + 10, hj => exact absurd hj (by omega)⟩
theorem nw_L_10 : zNw RL 10 9 34 [.inl 0, .inr none, .inl 0, .inl 0, .inl 0, .inr none, .inr none, .inl 0, .inr none, .inl 0, .inl 0, .inr none, .inl 0, .inr none, .inr none, .inr none, .inr none, .inl 0, .inr none, .inr none, .inl 0, .inr none, .inr none, .inl 1, .inl 0, .inr none, .inl 0, .inl 0, .inl 0, .inl 0, .inl 0, .inl 0, .inr none, .inr none] := ⟨RX9, TX9, tyX9, rfl, in_X9, tyX9_ok, (zg_in 728 (by decide +kernel) rfl), (zg_in 729 (by decide +kernel) rfl), (zg_in 53 (by decide +kernel) rfl), rfl, fun j hj => by
  match j, hj with
  | 0, _ => rfl
  | 1, _ => rfl
  | 2, _ => rfl
  | 3, _ => rfl
  | 4, _ => rfl
  | 5, _ => rfl
  | 6, _ => rfl
  | 7, _ => rfl
  | 8, _ => rfl
  | 9, _ => rfl
  | 10, _ => rfl
  | 11, _ => rfl
  | 12, _ => rfl
  | 13, _ => rfl
  | 14, _ => rfl
  | 15, _ => rfl
  | 16, _ => rfl
  | 17, _ => rfl
  | 18, _ => rfl
  | 19, _ => rfl
  | 20, _ => rfl
  | 21, _ => rfl
  | 22, _ => rfl
  | 23, _ => rfl
  | 24, _ => rfl
  | 25, _ => rfl
  | 26, _ => rfl
  | 27, _ => rfl
  | 28, _ => rfl
  | 29, _ => rfl
  | 30, _ => rfl
  | 31, _ => rfl
  | 32, _ => rfl
  | 33, _ => rfl
  | j + 34, hj => exact absurd hj (by omega)⟩
set_option maxHeartbeats 4000000 in
theorem law_loop {χ : zX} {la : Launch} {g0 : zG} {ad : Nat → Nat} {b L : Nat} {xs : Nat → Int32} (K : zOk χ cL_law RL 4 11 (some .boolean)) (hrc : zrcs χ = (56, 1213)) (hl1 : χ.2.1 = la) (hg1 : χ.2.2.2.2.2.2.2.2.2.2.1 = g0) (X : zSx χ b L xs) (hL : L ≤ 256) (T : zLP χ) : ∀ i, i ≤ L → ∀ μ, zInv μ → zV χ 4 ad zSH 56 1213 18 [(0, .ref b), (1, .ref (ad 0)), (2, .ref (ad 39)), (3, .int (zi ((i : Nat) : Int)))] [] μ := by
  refine zfor ?_
  intro i hi ih μ hI
  refine z_iload_n K dL_law_18 rfl ?_
  refine z_aload_n K dL_law_19 rfl ?_
  refine z_slen K X dL_law_20 ?_
  refine z_iconst K dL_law_21 ?_
  refine z_isub K dL_law_22 ?_
  refine z_icmpgt (tgt := 996) K dL_law_23 (by decide) (by omega) (by omega) (fun h23 => ?_) (fun h23 => ?_)
  · refine z_iconst K dL_law_996 ?_
    exact z_true K T hrc rfl dL_law_997
  · have hi4 : i + 4 ≤ L := by omega
    have kk : ∀ ν, zInv ν → zV χ 4 ad zSH 56 1213 990 [(0, .ref b), (1, .ref (ad 0)), (2, .ref (ad 39)), (3, .int (zi ((i : Nat) : Int)))] [] ν := by
      intro ν hν
      refine z_iinc (lv' := [(0, .ref b), (1, .ref (ad 0)), (2, .ref (ad 39)), (3, .int (zi (((i : Nat) : Int) + (4 : Int))))]) K dL_law_990 rfl (by decide) rfl ?_
      refine z_goto (tgt := 18) K dL_law_993 (by decide) ?_
      exact ih (i + 4) (by omega) (by omega) ν hν
    refine z_aload_n K dL_law_26 rfl ?_
    refine z_iload_n K dL_law_27 rfl ?_
    refine z_sld K X dL_law_28 i rfl ⟨by omega, by omega⟩ ?_
    refine z_bipush K dL_law_29 (by decide +kernel) ?_
    have hsr := zi_rg (zi (xs i).toInt &&& zi 31)
    refine z_iandR (z := zi (zi (xs i).toInt &&& zi 31).toInt) K dL_law_31 (zi_of _) ?_
    generalize (zi (xs i).toInt &&& zi 31).toInt = s at hsr ⊢
    rcases (show s = 0 ∨ s = 1 ∨ s = 2 ∨ s = 3 ∨ s = 4 ∨ s = 5 ∨ s = 6 ∨ s = 7 ∨ s = 8 ∨ s = 9 ∨ s = 10 ∨ s = 11 ∨ s = 12 ∨ s = 13 ∨ s = 14 ∨ s = 15 ∨ s = 16 ∨ s = 17 ∨ s = 18 ∨ s = 19 ∨ s = 20 ∨ s = 21 ∨ s = 22 ∨ s = 23 ∨ s = 24 ∨ s = 25 ∨ s = 26 ∨ s = 27 ∨ s = 28 ∨ (s < 0 ∨ 28 < s) by omega) with hsw | hsw | hsw | hsw | hsw | hsw | hsw | hsw | hsw | hsw | hsw | hsw | hsw | hsw | hsw | hsw | hsw | hsw | hsw | hsw | hsw | hsw | hsw | hsw | hsw | hsw | hsw | hsw | hsw | hsw
    · refine z_tableIn (off := 132) (tgt := 164) K dL_law_32 hsr (by omega) (by omega) (by rw [hsw]; rfl) (by decide) ?_
      exact law_c0 K hrc hl1 hg1 X hL hi4 hI kk
    · refine z_tableIn (off := 155) (tgt := 187) K dL_law_32 hsr (by omega) (by omega) (by rw [hsw]; rfl) (by decide) ?_
      exact law_c1 K hrc hl1 hg1 X hL hi4 hI kk
    · refine z_tableIn (off := 168) (tgt := 200) K dL_law_32 hsr (by omega) (by omega) (by rw [hsw]; rfl) (by decide) ?_
      exact law_c2 K hrc hl1 hg1 X hL hi4 hI kk
    · refine z_tableIn (off := 181) (tgt := 213) K dL_law_32 hsr (by omega) (by omega) (by rw [hsw]; rfl) (by decide) ?_
      exact law_c3 K hrc hl1 hg1 X hL hi4 hI kk
    · refine z_tableIn (off := 194) (tgt := 226) K dL_law_32 hsr (by omega) (by omega) (by rw [hsw]; rfl) (by decide) ?_
      exact law_c4 K hrc hl1 hg1 X hL hi4 hI kk
    · refine z_tableIn (off := 217) (tgt := 249) K dL_law_32 hsr (by omega) (by omega) (by rw [hsw]; rfl) (by decide) ?_
      exact law_c5 K hrc hl1 hg1 X hL hi4 hI kk
    · refine z_tableIn (off := 250) (tgt := 282) K dL_law_32 hsr (by omega) (by omega) (by rw [hsw]; rfl) (by decide) ?_
      exact law_c6 K hrc hl1 hg1 X hL hi4 hI kk
    · refine z_tableIn (off := 283) (tgt := 315) K dL_law_32 hsr (by omega) (by omega) (by rw [hsw]; rfl) (by decide) ?_
      exact law_c7 K hrc hl1 hg1 X hL hi4 hI kk
    · refine z_tableIn (off := 306) (tgt := 338) K dL_law_32 hsr (by omega) (by omega) (by rw [hsw]; rfl) (by decide) ?_
      exact law_c8 K hrc hl1 hg1 X hL hi4 hI kk
    · refine z_tableIn (off := 319) (tgt := 351) K dL_law_32 hsr (by omega) (by omega) (by rw [hsw]; rfl) (by decide) ?_
      exact law_c9 K hrc hl1 hg1 X hL hi4 hI kk
    · refine z_tableIn (off := 352) (tgt := 384) K dL_law_32 hsr (by omega) (by omega) (by rw [hsw]; rfl) (by decide) ?_
      exact law_c10 K hrc hl1 hg1 X hL hi4 hI kk
    · refine z_tableIn (off := 375) (tgt := 407) K dL_law_32 hsr (by omega) (by omega) (by rw [hsw]; rfl) (by decide) ?_
      exact law_c11 K hrc hl1 hg1 X hL hi4 hI kk
    · refine z_tableIn (off := 408) (tgt := 440) K dL_law_32 hsr (by omega) (by omega) (by rw [hsw]; rfl) (by decide) ?_
      exact law_c12 K hrc hl1 hg1 X hL hi4 hI kk
    · refine z_tableIn (off := 421) (tgt := 453) K dL_law_32 hsr (by omega) (by omega) (by rw [hsw]; rfl) (by decide) ?_
      exact law_c13 K hrc hl1 hg1 X hL hi4 hI kk
    · refine z_tableIn (off := 454) (tgt := 486) K dL_law_32 hsr (by omega) (by omega) (by rw [hsw]; rfl) (by decide) ?_
      exact law_c14 K hrc hl1 hg1 X hL hi4 hI kk
    · refine z_tableIn (off := 477) (tgt := 509) K dL_law_32 hsr (by omega) (by omega) (by rw [hsw]; rfl) (by decide) ?_
      exact law_c15 K hrc hl1 hg1 X hL hi4 hI kk
    · refine z_tableIn (off := 516) (tgt := 548) K dL_law_32 hsr (by omega) (by omega) (by rw [hsw]; rfl) (by decide) ?_
      exact law_c16 K hrc hl1 hg1 X hL hi4 hI kk
    · refine z_tableIn (off := 539) (tgt := 571) K dL_law_32 hsr (by omega) (by omega) (by rw [hsw]; rfl) (by decide) ?_
      exact law_c17 K hrc hl1 hg1 X hL hi4 hI kk
    · refine z_tableIn (off := 552) (tgt := 584) K dL_law_32 hsr (by omega) (by omega) (by rw [hsw]; rfl) (by decide) ?_
      exact law_c18 K hrc hl1 hg1 X hL hi4 hI kk
    · refine z_tableIn (off := 615) (tgt := 647) K dL_law_32 hsr (by omega) (by omega) (by rw [hsw]; rfl) (by decide) ?_
      exact law_c19 K hrc hl1 hg1 X hL hi4 hI kk
    · refine z_tableIn (off := 664) (tgt := 696) K dL_law_32 hsr (by omega) (by omega) (by rw [hsw]; rfl) (by decide) ?_
      exact law_c20 K hrc hl1 hg1 X hL hi4 hI kk
    · refine z_tableIn (off := 697) (tgt := 729) K dL_law_32 hsr (by omega) (by omega) (by rw [hsw]; rfl) (by decide) ?_
      exact law_c21 K hrc hl1 hg1 X hL hi4 hI kk
    · refine z_tableIn (off := 710) (tgt := 742) K dL_law_32 hsr (by omega) (by omega) (by rw [hsw]; rfl) (by decide) ?_
      exact law_c22 K hrc hl1 hg1 X hL hi4 hI kk
    · refine z_tableIn (off := 733) (tgt := 765) K dL_law_32 hsr (by omega) (by omega) (by rw [hsw]; rfl) (by decide) ?_
      exact law_c23 K hrc hl1 hg1 X hL hi4 hI kk
    · refine z_tableIn (off := 776) (tgt := 808) K dL_law_32 hsr (by omega) (by omega) (by rw [hsw]; rfl) (by decide) ?_
      exact law_c24 K hrc hl1 hg1 X hL hi4 hI kk
    · refine z_tableIn (off := 835) (tgt := 867) K dL_law_32 hsr (by omega) (by omega) (by rw [hsw]; rfl) (by decide) ?_
      exact law_c25 K hrc hl1 hg1 X hL hi4 hI kk
    · refine z_tableIn (off := 889) (tgt := 921) K dL_law_32 hsr (by omega) (by omega) (by rw [hsw]; rfl) (by decide) ?_
      exact law_c26 K hrc hl1 hg1 X hL hi4 hI kk
    · refine z_tableIn (off := 912) (tgt := 944) K dL_law_32 hsr (by omega) (by omega) (by rw [hsw]; rfl) (by decide) ?_
      exact law_c27 K hrc hl1 hg1 X hL hi4 hI kk
    · refine z_tableIn (off := 935) (tgt := 967) K dL_law_32 hsr (by omega) (by omega) (by rw [hsw]; rfl) (by decide) ?_
      exact law_c28 K hrc hl1 hg1 X hL hi4 hI kk
    · refine z_tableOut (tgt := 990) K dL_law_32 hsr hsw (by decide) ?_
      exact kk μ hI
theorem zInv_0 : zInv zM2 := by
  refine ⟨0, 0, 0, 0, 0, 0, ⟨rfl, by omega, rfl, fun i hi => absurd hi (by omega), fun i _ => ?_⟩, ⟨⟨rfl, by omega, rfl, by omega, fun l hl => absurd hl (by omega), fun l hl => absurd hl (by omega)⟩, rfl, rfl, fun l hl => absurd hl (by omega), fun l hl => absurd hl (by omega), by omega, by omega, fun l hl => absurd hl (by omega), fun l hl => absurd hl (by omega)⟩, ⟨⟨⟨fun l hl => absurd hl (by omega), fun l hl => absurd hl (by omega), ?_, ?_⟩, fun l hl => absurd hl (by omega)⟩, fun l hl => absurd hl (by omega), fun l hl => absurd hl (by omega), rfl, rfl⟩, ⟨rfl, by omega, rfl, by omega, rfl, rfl, fun l hl => absurd hl (by omega)⟩, ⟨rfl, fun i _ => Or.inl ⟨rfl, rfl⟩⟩, ⟨rfl, by omega, rfl, fun l hl => absurd hl (by omega)⟩, rfl⟩
  · show (0 : Int) ≤ 0 ∧ (0 : Int) ≤ 255; omega
  · show (0 : Int) ≤ 0; omega
  · show (0 : Int) ≤ 99; omega
set_option maxHeartbeats 4000000 in
set_option maxRecDepth 100000 in
theorem law_begin {χ : zX} {la : Launch} {g0 : zG} {b L : Nat} {xs : Nat → Int32} (K : zOk χ cL_law RL 4 11 (some .boolean)) (hrc : zrcs χ = (56, 1213)) (hl1 : χ.2.1 = la) (hg1 : χ.2.2.2.2.2.2.2.2.2.2.1 = g0) (X : zSx χ b L xs) (hL : L ≤ 256) (T : zLP χ) : zV χ 4 (fun _ => 0) [] 0 0 0 [(0, .ref b)] [] zM0 := by
  refine z_new (ad := fun _ => 0) K [(0, .inr (.ref b))] [] dL_law_0 nw_L_7 0 rfl (sh2 := zs70) rfl rfl rfl (by rw [hrc]; exact ⟨Nat.le_of_ble_eq_true rfl, Nat.le_of_ble_eq_true rfl⟩) (fun ad1 h1 => ?_)
  show zV χ 4 ad1 zs70 1 10 3 [(0, .ref b)] [.ref (ad1 0)] zM0
  refine z_dup K dL_law_3 rfl ?_
  refine z_callI K hl1 hg1 (ad := ad1) (kb := 0) (As := []) [(0, .inr (.ref b))] [.inl 0] (cn_X8 la g0 ad1) (by decide) lk_L_9 cd_X8_init rfl rfl rfl (Nat.le_of_ble_eq_true rfl) dL_law_4 1 rfl rfl (by rw [hrc]; exact ⟨Nat.le_of_ble_eq_true rfl, Nat.le_of_ble_eq_true rfl⟩) (fun ad2 h2 => ?_)
  show zV χ 4 ad2 zs80 39 635 7 [(0, .ref b)] [.ref (ad2 0)] zM2
  refine z_astore_n (lv' := [(0, .ref b), (1, .ref (ad2 0))]) K dL_law_7 (by decide) rfl ?_
  refine z_new (ad := ad2) K [(0, .inr (.ref b)), (1, .inl 0)] [] dL_law_8 nw_L_10 39 rfl (sh2 := zs81) rfl rfl rfl (by rw [hrc]; exact ⟨Nat.le_of_ble_eq_true rfl, Nat.le_of_ble_eq_true rfl⟩) (fun ad3 h3 => ?_)
  show zV χ 4 ad3 zs81 40 669 11 [(0, .ref b), (1, .ref (ad3 0))] [.ref (ad3 39)] zM2
  refine z_dup K dL_law_11 rfl ?_
  refine z_callI K hl1 hg1 (ad := ad3) (kb := 39) (As := []) [(0, .inr (.ref b)), (1, .inl 0)] [.inl 39] (cn_X9 la g0 ad3) (by decide) lk_L_12 cd_X9_init rfl rfl rfl (Nat.le_of_ble_eq_true rfl) dL_law_12 40 rfl rfl (by rw [hrc]; exact ⟨Nat.le_of_ble_eq_true rfl, Nat.le_of_ble_eq_true rfl⟩) (fun ad4 h4 => ?_)
  show zV χ 4 ad4 zSH 56 1213 15 [(0, .ref b), (1, .ref (ad4 0))] [.ref (ad4 39)] zM2
  refine z_astore_n (lv' := [(0, .ref b), (1, .ref (ad4 0)), (2, .ref (ad4 39))]) K dL_law_15 (by decide) rfl ?_
  refine z_iconst K dL_law_16 ?_
  refine z_istore_n (lv' := [(0, .ref b), (1, .ref (ad4 0)), (2, .ref (ad4 39)), (3, .int (zi (0 : Int)))]) K dL_law_17 (by decide) rfl ?_
  exact law_loop K hrc hl1 hg1 X hL T 0 (Nat.zero_le _) zM2 zInv_0
