set_option maxHeartbeats 4000000 in
set_option maxRecDepth 100000 in
theorem ct_isFigure (la : Launch) (g0 : zG) (ad : Nat → Nat) (μ : zMem) (s u v : Int) (hs : 0 ≤ s ∧ s ≤ 255) (hu : 0 ≤ u ∧ u ≤ 9) (hvv : 0 ≤ v ∧ v ≤ 9) : zCon la g0 yX5_isFigure cX5_isFigure 3 (some .boolean) 0 ad zSH [.int (zi s), .int (zi u), .int (zi v)] μ (zPd μ (if 48 + u ≤ s ∧ s ≤ 48 + v then 1 else 0)) := by
  refine zCon_of (by decide +kernel) (Nat.le_of_ble_eq_true rfl) ?_
  intro χ K T hl1 hg1
  have K : zOk χ cX5_isFigure RX5 3 0 (some .boolean) := K
  show zV χ 3 ad zSH 0 0 0 [(0, .int (zi s)), (1, .int (zi u)), (2, .int (zi v))] [] μ
  refine z_iload_n K dX5_isFigure_0 rfl ?_
  refine z_bipush K dX5_isFigure_1 (by decide +kernel) ?_
  refine z_iload_n K dX5_isFigure_3 rfl ?_
  refine z_iadd K dX5_isFigure_4 ?_
  refine z_icmplt (tgt := 20) K dX5_isFigure_5 (by decide) (by omega) (by omega) (fun h5 => ?_) (fun h5 => ?_)
  · refine z_iconst K dX5_isFigure_20 ?_
    exact z_zretd K T rfl dX5_isFigure_21 (Or.inl rfl) (by omega) rfl
  · refine z_iload_n K dX5_isFigure_8 rfl ?_
    refine z_bipush K dX5_isFigure_9 (by decide +kernel) ?_
    refine z_iload_n K dX5_isFigure_11 rfl ?_
    refine z_iadd K dX5_isFigure_12 ?_
    refine z_icmpgt (tgt := 20) K dX5_isFigure_13 (by decide) (by omega) (by omega) (fun h13 => ?_) (fun h13 => ?_)
    · refine z_iconst K dX5_isFigure_20 ?_
      exact z_zretd K T rfl dX5_isFigure_21 (Or.inl rfl) (by omega) rfl
    · refine z_iconst K dX5_isFigure_16 ?_
      refine z_goto (tgt := 21) K dX5_isFigure_17 (by decide) ?_
      exact z_zretd K T rfl dX5_isFigure_21 (Or.inr rfl) (by omega) rfl
theorem zhi_le (h : Nat → Int) (x : Int) : ∀ n, zhi h x n ≤ n := by
  intro n
  induction n with
  | zero => exact Nat.le_refl _
  | succ n ih => rw [zhi_s]; split <;> omega
set_option maxHeartbeats 4000000 in
set_option maxRecDepth 100000 in
theorem ct_plan_clear_d (la : Launch) (g0 : zG) (ad : Nat → Nat) (μ : zMem)  : zCon la g0 yX4_clear cX4_clear 1 none 0 ad zSH [.ref (ad 3)] μ (zPm (zup μ 3 (zu1 (zu1 (zu1 (μ 3) 0 0) 1 0) 2 0))) := by
  refine zCon_of (by decide +kernel) (Nat.le_of_ble_eq_true rfl) ?_
  intro χ K T hl1 hg1
  have K : zOk χ cX4_clear RX4 1 0 none := K
  show zV χ 1 ad zSH 0 0 0 [(0, .ref (ad 3))] [] μ
  refine z_aload_n K dX4_clear_0 rfl ?_
  refine z_iconst K dX4_clear_1 ?_
  refine z_puti (k := 3) K dX4_clear_2 fp_X4_30 rfl rfl ?_
  refine z_aload_n K dX4_clear_5 rfl ?_
  refine z_iconst K dX4_clear_6 ?_
  refine z_puti (k := 3) K dX4_clear_7 fp_X4_34 rfl rfl ?_
  refine z_aload_n K dX4_clear_10 rfl ?_
  refine z_iconst K dX4_clear_11 ?_
  refine z_puti (k := 3) K dX4_clear_12 fp_X4_37 rfl rfl ?_
  exact z_vretd K T rfl dX4_clear_15 (by rw [zup_same, zup_same]; rfl)
set_option maxHeartbeats 4000000 in
set_option maxRecDepth 100000 in
theorem ct_homesIn_d (la : Launch) (g0 : zG) (ad : Nat → Nat) (μ : zMem) (n : Nat) (hn : μ 3 0 = (n : Int)) (hn6 : n ≤ 6) (x : Int) (hx : zR x) (hh : ∀ l, l < n → zR (μ 4 l)) : zCon la g0 yX4_homesIn cX4_homesIn 4 (some .int) 0 ad zSH [.ref (ad 3), .int (zi x)] μ (zPd μ ((zhi (μ 4) x n : Nat) : Int)) := by
  refine zCon_of (by decide +kernel) (Nat.le_of_ble_eq_true rfl) ?_
  intro χ K T hl1 hg1
  have K : zOk χ cX4_homesIn RX4 4 0 (some .int) := K
  show zV χ 4 ad zSH 0 0 0 [(0, .ref (ad 3)), (1, .int (zi x))] [] μ
  refine z_iconst K dX4_homesIn_0 ?_
  refine z_istore_n (lv' := [(0, .ref (ad 3)), (1, .int (zi x)), (2, .int (zi (0 : Int)))]) K dX4_homesIn_1 (by decide) rfl ?_
  refine z_iconst K dX4_homesIn_2 ?_
  refine z_istore_n (lv' := [(0, .ref (ad 3)), (1, .int (zi x)), (2, .int (zi (0 : Int))), (3, .int (zi (0 : Int)))]) K dX4_homesIn_3 (by decide) rfl ?_
  have L4 : ∀ l, l ≤ n → zV χ 4 ad zSH 0 0 4 [(0, .ref (ad 3)), (1, .int (zi x)), (2, .int (zi ((zhi (μ 4) x l : Nat) : Int))), (3, .int (zi ((l : Nat) : Int)))] [] μ := by
    refine zfor ?_
    intro l hl ih
    refine z_iload_n K dX4_homesIn_4 rfl ?_
    refine z_aload_n K dX4_homesIn_5 rfl ?_
    refine z_get (k := 3) (v := .int (zi (μ 3 0))) K dX4_homesIn_6 fl_X4_30 rfl rfl rfl ?_
    refine z_icmpge (tgt := 31) K dX4_homesIn_9 (by decide) (by omega) (by omega) (fun h9 => ?_) (fun h9 => ?_)
    · refine z_iload_n K dX4_homesIn_31 rfl ?_
      exact z_iretd K T rfl dX4_homesIn_32 (by rw [show l = n by omega]) rfl
    · have hhl := hh l (by omega)
      refine z_aload_n K dX4_homesIn_12 rfl ?_
      refine z_get (k := 3) (v := .ref (ad 4)) K dX4_homesIn_13 fl_X4_9 rfl rfl rfl ?_
      refine z_iload_n K dX4_homesIn_16 rfl ?_
      refine z_iald (k := 4) (v := μ 4 l) K dX4_homesIn_17 l rfl (by decide) (by omega) (by omega) rfl ?_
      refine z_iload_n K dX4_homesIn_18 rfl ?_
      refine z_icmpne (tgt := 25) K dX4_homesIn_19 (by decide) (by omega) (by omega) (fun h19 => ?_) (fun h19 => ?_)
      · refine z_iincN (lv' := [(0, .ref (ad 3)), (1, .int (zi x)), (2, .int (zi ((zhi (μ 4) x l : Nat) : Int))), (3, .int (zi ((l + 1 : Nat) : Int)))]) K dX4_homesIn_25 rfl (by decide) rfl ?_
        refine z_goto (tgt := 4) K dX4_homesIn_28 (by decide) ?_
        have e9 : zhi (μ 4) x l = zhi (μ 4) x (l + 1) := by
          rw [zhi_s]
          rw [if_neg h19]
        rw [e9]
        exact ih (l + 1) (by omega) (by omega)
      · refine z_iincN (lv' := [(0, .ref (ad 3)), (1, .int (zi x)), (2, .int (zi (((zhi (μ 4) x l) + 1 : Nat) : Int))), (3, .int (zi ((l : Nat) : Int)))]) K dX4_homesIn_22 rfl (by decide) rfl ?_
        refine z_iincN (lv' := [(0, .ref (ad 3)), (1, .int (zi x)), (2, .int (zi (((zhi (μ 4) x l) + 1 : Nat) : Int))), (3, .int (zi ((l + 1 : Nat) : Int)))]) K dX4_homesIn_25 rfl (by decide) rfl ?_
        refine z_goto (tgt := 4) K dX4_homesIn_28 (by decide) ?_
        have e9 : (zhi (μ 4) x l) + 1 = zhi (μ 4) x (l + 1) := by
          rw [zhi_s]
          rw [if_pos h19]
        rw [e9]
        exact ih (l + 1) (by omega) (by omega)
  exact L4 0 (by omega)
set_option maxHeartbeats 4000000 in
set_option maxRecDepth 100000 in
theorem ct_readOutside_d (la : Launch) (g0 : zG) (ad : Nat → Nat) (μ : zMem) (a : Int) (p : zP8) (s : Int) (hs : 0 ≤ s ∧ s ≤ 255) (hV : zPV a p) (hR : zPR (μ 3) (μ 4) (μ 5) (μ 6) (μ 7) (μ 8) (μ 9) a p) (ha : a ≤ 2) : zCon la g0 yX5_readOutside cX5_readOutside 3 (some .int) 1 ad zSH [.ref (ad 3), .int (zi a), .int (zi s)] μ (zPi (fun r ν => r = (zstep a p s).1 ∧ (¬ r = -1 → zPR (ν 3) (ν 4) (ν 5) (ν 6) (ν 7) (ν 8) (ν 9) r ((zstep a p s).2)) ∧ ∀ q, (q < 3 ∨ 9 < q) → ν q = μ q)) := by
  refine zCon_of (by decide +kernel) (Nat.le_of_ble_eq_true rfl) ?_
  intro χ K T hl1 hg1
  have K : zOk χ cX5_readOutside RX5 3 1 (some .int) := K
  obtain ⟨e0, e1, e2, e3, e4, e5, e6, e7⟩ := id hR
  obtain ⟨v1, v2, v3, v4, v5, v6, v7, v8, v9, v10, v11, v12⟩ := id hV
  show zV χ 3 ad zSH 0 0 0 [(0, .ref (ad 3)), (1, .int (zi a)), (2, .int (zi s))] [] μ
  refine z_iload_n K dX5_readOutside_0 rfl ?_
  refine z_ifne (tgt := 16) K dX5_readOutside_1 (by decide) (by omega) (fun h1 => ?_) (fun h1 => ?_)
  · refine z_iload_n K dX5_readOutside_16 rfl ?_
    refine z_iconst K dX5_readOutside_17 ?_
    refine z_icmpne (tgt := 45) K dX5_readOutside_18 (by decide) (by omega) ⟨by decide, by decide⟩ (fun h18 => ?_) (fun h18 => ?_)
    · refine z_iload_n K dX5_readOutside_45 rfl ?_
      refine z_bipush K dX5_readOutside_46 (by decide +kernel) ?_
      refine z_icmpne (tgt := 62) K dX5_readOutside_48 (by decide) (by omega) ⟨by decide, by decide⟩ (fun h48 => ?_) (fun h48 => ?_)
      · refine z_iload_n K dX5_readOutside_62 rfl ?_
        refine z_bipush K dX5_readOutside_63 (by decide +kernel) ?_
        refine z_icmpne (tgt := 81) K dX5_readOutside_65 (by decide) (by omega) ⟨by decide, by decide⟩ (fun h65 => ?_) (fun h65 => ?_)
        · refine z_iconst K dX5_readOutside_81 ?_
          exact z_ireti K T rfl dX5_readOutside_82 ⟨(by unfold zstep; rw [if_neg h1, if_neg h18, if_pos (by omega), if_neg (by omega), if_neg (by omega)]), fun h => absurd rfl h, fun _ _ => rfl⟩
        · refine z_aload_n K dX5_readOutside_68 rfl ?_
          refine z_get (k := 3) (v := .int (zi (μ 3 1))) K dX5_readOutside_69 fl_X5_50 rfl rfl rfl ?_
          refine z_iconst K dX5_readOutside_72 ?_
          refine z_icmpge (tgt := 81) K dX5_readOutside_73 (by decide) (by omega) ⟨by decide, by decide⟩ (fun h73 => ?_) (fun h73 => ?_)
          · refine z_iconst K dX5_readOutside_81 ?_
            exact z_ireti K T rfl dX5_readOutside_82 ⟨(by unfold zstep; rw [if_neg h1, if_neg h18, if_pos (by omega), if_neg (by omega), if_neg (by omega)]), fun h => absurd rfl h, fun _ _ => rfl⟩
          · refine z_bipush K dX5_readOutside_76 (by decide +kernel) ?_
            refine z_goto (tgt := 82) K dX5_readOutside_78 (by decide) ?_
            exact z_ireti K T rfl dX5_readOutside_82 ⟨(by unfold zstep; rw [if_neg h1, if_neg h18, if_pos (by omega), if_neg (by omega), if_pos ⟨by omega, by omega⟩]), fun _ => by unfold zstep; rw [if_neg h1, if_neg h18, if_pos (by omega)]; exact ⟨e0, e1, fun _ => e2 (by omega), fun l hl => e3 l (by dsimp only at hl; omega), fun l hl => e4 l (by dsimp only at hl; omega), e5, fun l hl => e6 l (by dsimp only at hl; omega), e7⟩, fun _ _ => rfl⟩
      · refine z_aload_n K dX5_readOutside_51 rfl ?_
        refine z_get (k := 3) (v := .int (zi (μ 3 0))) K dX5_readOutside_52 fl_X5_47 rfl rfl rfl ?_
        refine z_bipush K dX5_readOutside_55 (by decide +kernel) ?_
        refine z_icmpge (tgt := 62) K dX5_readOutside_57 (by decide) (by omega) ⟨by decide, by decide⟩ (fun h57 => ?_) (fun h57 => ?_)
        · refine z_iload_n K dX5_readOutside_62 rfl ?_
          refine z_bipush K dX5_readOutside_63 (by decide +kernel) ?_
          refine z_icmpne (tgt := 81) K dX5_readOutside_65 (by decide) (by omega) ⟨by decide, by decide⟩ (fun h65 => ?_) (fun h65 => ?_)
          · refine z_iconst K dX5_readOutside_81 ?_
            exact z_ireti K T rfl dX5_readOutside_82 ⟨(by unfold zstep; rw [if_neg h1, if_neg h18, if_pos (by omega), if_neg (by omega), if_neg (by omega)]), fun h => absurd rfl h, fun _ _ => rfl⟩
          · refine z_aload_n K dX5_readOutside_68 rfl ?_
            refine z_get (k := 3) (v := .int (zi (μ 3 1))) K dX5_readOutside_69 fl_X5_50 rfl rfl rfl ?_
            refine z_iconst K dX5_readOutside_72 ?_
            refine z_icmpge (tgt := 81) K dX5_readOutside_73 (by decide) (by omega) ⟨by decide, by decide⟩ (fun h73 => ?_) (fun h73 => ?_)
            · refine z_iconst K dX5_readOutside_81 ?_
              exact z_ireti K T rfl dX5_readOutside_82 ⟨(by unfold zstep; rw [if_neg h1, if_neg h18, if_pos (by omega), if_neg (by omega), if_neg (by omega)]), fun h => absurd rfl h, fun _ _ => rfl⟩
            · refine z_bipush K dX5_readOutside_76 (by decide +kernel) ?_
              refine z_goto (tgt := 82) K dX5_readOutside_78 (by decide) ?_
              exact z_ireti K T rfl dX5_readOutside_82 ⟨(by unfold zstep; rw [if_neg h1, if_neg h18, if_pos (by omega), if_neg (by omega), if_pos ⟨by omega, by omega⟩]), fun _ => by unfold zstep; rw [if_neg h1, if_neg h18, if_pos (by omega)]; exact ⟨e0, e1, fun _ => e2 (by omega), fun l hl => e3 l (by dsimp only at hl; omega), fun l hl => e4 l (by dsimp only at hl; omega), e5, fun l hl => e6 l (by dsimp only at hl; omega), e7⟩, fun _ _ => rfl⟩
        · refine z_iconst K dX5_readOutside_60 ?_
          exact z_ireti K T rfl dX5_readOutside_61 ⟨(by unfold zstep; rw [if_neg h1, if_neg h18, if_pos (by omega), if_pos ⟨by omega, by omega⟩]), fun _ => by unfold zstep; rw [if_neg h1, if_neg h18, if_pos (by omega)]; exact ⟨e0, e1, fun _ => e2 (by omega), fun l hl => e3 l (by dsimp only at hl; omega), fun l hl => e4 l (by dsimp only at hl; omega), e5, fun l hl => e6 l (by dsimp only at hl; omega), e7⟩, fun _ _ => rfl⟩
    · refine z_aload_n K dX5_readOutside_21 rfl ?_
      refine z_iload_n K dX5_readOutside_22 rfl ?_
      refine z_bipush K dX5_readOutside_23 (by decide +kernel) ?_
      refine z_isub K dX5_readOutside_25 ?_
      refine z_puti (k := 3) K dX5_readOutside_26 fp_X5_40 rfl rfl ?_
      refine z_iload_n K dX5_readOutside_29 rfl ?_
      refine z_iconst K dX5_readOutside_30 ?_
      refine z_bipush K dX5_readOutside_31 (by decide +kernel) ?_
      refine z_callSd K hl1 hg1 (As := [.int (zi s), .int (zi (0 : Int)), .int (zi (9 : Int))]) (rest := []) (ct_isFigure la g0 ad (zup μ 3 (zu1 (μ 3) 2 (s - (48 : Int)))) s 0 9 hs ⟨by decide, by decide⟩ ⟨by decide, by decide⟩) (by decide) lk_X5_43 cd_X5_isFigure rfl rfl (Nat.le_of_ble_eq_true rfl) dX5_readOutside_33 ?_
      refine z_ifeq (tgt := 43) K dX5_readOutside_36 (by decide) (by omega) (fun h36 => ?_) (fun h36 => ?_)
      · refine z_iconst K dX5_readOutside_43 ?_
        exact z_ireti K T rfl dX5_readOutside_44 ⟨(by unfold zstep; rw [if_neg h1, if_pos h18, if_neg (by omega)]), fun h => absurd rfl h, fun q hq => by unfold zup; rw [if_neg (by omega)]⟩
      · refine z_iconst K dX5_readOutside_39 ?_
        refine z_goto (tgt := 44) K dX5_readOutside_40 (by decide) ?_
        exact z_ireti K T rfl dX5_readOutside_44 ⟨(by unfold zstep; rw [if_neg h1, if_pos h18, if_pos (by omega)]), fun _ => by unfold zstep; rw [if_neg h1, if_pos h18]; exact ⟨e0, e1, fun _ => zu1_eq _ _ _, fun l hl => e3 l (by dsimp only at hl; omega), fun l hl => e4 l (by dsimp only at hl; omega), e5, fun l hl => e6 l (by dsimp only at hl; omega), e7⟩, fun q hq => by unfold zup; rw [if_neg (by omega)]⟩
  · refine z_iload_n K dX5_readOutside_4 rfl ?_
    refine z_bipush K dX5_readOutside_5 (by decide +kernel) ?_
    refine z_icmpne (tgt := 14) K dX5_readOutside_7 (by decide) (by omega) ⟨by decide, by decide⟩ (fun h7 => ?_) (fun h7 => ?_)
    · refine z_iconst K dX5_readOutside_14 ?_
      exact z_ireti K T rfl dX5_readOutside_15 ⟨(by unfold zstep; rw [if_pos h1, if_neg h7]), fun h => absurd rfl h, fun _ _ => rfl⟩
    · refine z_iconst K dX5_readOutside_10 ?_
      refine z_goto (tgt := 15) K dX5_readOutside_11 (by decide) ?_
      exact z_ireti K T rfl dX5_readOutside_15 ⟨(by unfold zstep; rw [if_pos h1, if_pos h7]), fun _ => by unfold zstep; rw [if_pos h1]; exact ⟨e0, e1, fun h => absurd h (by omega), fun l hl => e3 l (by dsimp only at hl; omega), fun l hl => e4 l (by dsimp only at hl; omega), e5, fun l hl => e6 l (by dsimp only at hl; omega), e7⟩, fun _ _ => rfl⟩
