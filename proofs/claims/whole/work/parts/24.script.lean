set_option maxHeartbeats 4000000 in
set_option maxRecDepth 100000 in
theorem ct_isFigure (la : Launch) (g0 : zG) (ad : Nat → Nat) (μ : zMem) (s u v : Int) (hs : 0 ≤ s ∧ s ≤ 255) (hu : 0 ≤ u ∧ u ≤ 9) (hvv : 0 ≤ v ∧ v ≤ 9) : zCon la g0 yX5_isFigure cX5_isFigure 3 (some .boolean) 0 ad zSH [.int (zi s), .int (zi u), .int (zi v)] μ (zPd μ (if 48 + u ≤ s ∧ s ≤ 48 + v then 1 else 0)) := by
  refine zCon_of (by decide +kernel) (Nat.le_of_ble_eq_true rfl) ?_
  intro χ K T hl1 hg1
  have K : zOk χ cX5_isFigure RX5 3 0 (some .boolean) := K
  show zV χ 3 ad zSH 0 0 0 [(0, .int (zi s)), (1, .int (zi u)), (2, .int (zi v))] [] μ
  refine z_iload_n K dX5_isFigure_0 rfl ?_
  refine z_bipush K dX5_isFigure_1 (by decide +kernel) ?_
  refine z_iload_n K dX5_isFigure_3 rfl ?_
  refine z_iadd K dX5_isFigure_4 ?_
  refine z_icmplt (tgt := 20) K dX5_isFigure_5 (by decide) (by omega) (by omega) (fun h5 => ?_) (fun h5 => ?_)
  · refine z_iconst K dX5_isFigure_20 ?_
    exact z_zretd K T rfl dX5_isFigure_21 (Or.inl rfl) (by omega) rfl
  · refine z_iload_n K dX5_isFigure_8 rfl ?_
    refine z_bipush K dX5_isFigure_9 (by decide +kernel) ?_
    refine z_iload_n K dX5_isFigure_11 rfl ?_
    refine z_iadd K dX5_isFigure_12 ?_
    refine z_icmpgt (tgt := 20) K dX5_isFigure_13 (by decide) (by omega) (by omega) (fun h13 => ?_) (fun h13 => ?_)
    · refine z_iconst K dX5_isFigure_20 ?_
      exact z_zretd K T rfl dX5_isFigure_21 (Or.inl rfl) (by omega) rfl
    · refine z_iconst K dX5_isFigure_16 ?_
      refine z_goto (tgt := 21) K dX5_isFigure_17 (by decide) ?_
      exact z_zretd K T rfl dX5_isFigure_21 (Or.inr rfl) (by omega) rfl
theorem zhi_le (h : Nat → Int) (x : Int) : ∀ n, zhi h x n ≤ n := by
  intro n
  induction n with
  | zero => exact Nat.le_refl _
  | succ n ih => rw [zhi_s]; split <;> omega
theorem zPR_00 (q h w k a o e : Nat → Int) (h0 : q 0 = 0) (h1 : q 1 = 0) : zPR q h w k a o e 0 zp0 :=
  ⟨h0, h1, fun h => absurd h (by decide), fun l hl => absurd hl (by show ¬ (l < 0 ∨ (l = 0 ∧ ((0 : Int) = 4 ∨ (0 : Int) = 5))); omega), fun l hl => absurd hl (by show ¬ (l < 0 ∨ (l = 0 ∧ (0 : Int) = 5)); omega), fun l hl => absurd hl (Nat.not_lt_zero l), fun l hl => absurd hl (by show ¬ (l < 0 ∨ (l = 0 ∧ (0 : Int) = 7)); omega), fun l hl => absurd hl (Nat.not_lt_zero l)⟩
set_option maxHeartbeats 4000000 in
set_option maxRecDepth 100000 in
theorem ct_plan_clear_d (la : Launch) (g0 : zG) (ad : Nat → Nat) (μ : zMem)  : zCon la g0 yX4_clear cX4_clear 1 none 0 ad zSH [.ref (ad 3)] μ (zPm (zup μ 3 (zu1 (zu1 (zu1 (μ 3) 0 0) 1 0) 2 0))) := by
  refine zCon_of (by decide +kernel) (Nat.le_of_ble_eq_true rfl) ?_
  intro χ K T hl1 hg1
  have K : zOk χ cX4_clear RX4 1 0 none := K
  show zV χ 1 ad zSH 0 0 0 [(0, .ref (ad 3))] [] μ
  refine z_aload_n K dX4_clear_0 rfl ?_
  refine z_iconst K dX4_clear_1 ?_
  refine z_puti (k := 3) K dX4_clear_2 fp_X4_30 rfl rfl ?_
  refine z_aload_n K dX4_clear_5 rfl ?_
  refine z_iconst K dX4_clear_6 ?_
  refine z_puti (k := 3) K dX4_clear_7 fp_X4_34 rfl rfl ?_
  refine z_aload_n K dX4_clear_10 rfl ?_
  refine z_iconst K dX4_clear_11 ?_
  refine z_puti (k := 3) K dX4_clear_12 fp_X4_37 rfl rfl ?_
  exact z_vretd K T rfl dX4_clear_15 (by rw [zup_same, zup_same]; rfl)
set_option maxHeartbeats 4000000 in
set_option maxRecDepth 100000 in
theorem ct_homesIn_d (la : Launch) (g0 : zG) (ad : Nat → Nat) (μ : zMem) (n : Nat) (hn : μ 3 0 = (n : Int)) (hn6 : n ≤ 6) (x : Int) (hx : zR x) (hh : ∀ l, l < n → zR (μ 4 l)) : zCon la g0 yX4_homesIn cX4_homesIn 4 (some .int) 0 ad zSH [.ref (ad 3), .int (zi x)] μ (zPd μ ((zhi (μ 4) x n : Nat) : Int)) := by
  refine zCon_of (by decide +kernel) (Nat.le_of_ble_eq_true rfl) ?_
  intro χ K T hl1 hg1
  have K : zOk χ cX4_homesIn RX4 4 0 (some .int) := K
  show zV χ 4 ad zSH 0 0 0 [(0, .ref (ad 3)), (1, .int (zi x))] [] μ
  refine z_iconst K dX4_homesIn_0 ?_
  refine z_istore_n (lv' := [(0, .ref (ad 3)), (1, .int (zi x)), (2, .int (zi (0 : Int)))]) K dX4_homesIn_1 (by decide) rfl ?_
  refine z_iconst K dX4_homesIn_2 ?_
  refine z_istore_n (lv' := [(0, .ref (ad 3)), (1, .int (zi x)), (2, .int (zi (0 : Int))), (3, .int (zi (0 : Int)))]) K dX4_homesIn_3 (by decide) rfl ?_
  have L4 : ∀ l, l ≤ n → zV χ 4 ad zSH 0 0 4 [(0, .ref (ad 3)), (1, .int (zi x)), (2, .int (zi ((zhi (μ 4) x l : Nat) : Int))), (3, .int (zi ((l : Nat) : Int)))] [] μ := by
    refine zfor ?_
    intro l hl ih
    refine z_iload_n K dX4_homesIn_4 rfl ?_
    refine z_aload_n K dX4_homesIn_5 rfl ?_
    refine z_get (k := 3) (v := .int (zi (μ 3 0))) K dX4_homesIn_6 fl_X4_30 rfl rfl rfl ?_
    refine z_icmpge (tgt := 31) K dX4_homesIn_9 (by decide) (by omega) (by omega) (fun h9 => ?_) (fun h9 => ?_)
    · refine z_iload_n K dX4_homesIn_31 rfl ?_
      exact z_iretd K T rfl dX4_homesIn_32 (by rw [show l = n by omega]) rfl
    · have hhl := hh l (by omega)
      refine z_aload_n K dX4_homesIn_12 rfl ?_
      refine z_get (k := 3) (v := .ref (ad 4)) K dX4_homesIn_13 fl_X4_9 rfl rfl rfl ?_
      refine z_iload_n K dX4_homesIn_16 rfl ?_
      refine z_iald (k := 4) (v := μ 4 l) K dX4_homesIn_17 l rfl (by decide) (by omega) (by omega) rfl ?_
      refine z_iload_n K dX4_homesIn_18 rfl ?_
      refine z_icmpne (tgt := 25) K dX4_homesIn_19 (by decide) (by omega) (by omega) (fun h19 => ?_) (fun h19 => ?_)
      · refine z_iincN (lv' := [(0, .ref (ad 3)), (1, .int (zi x)), (2, .int (zi ((zhi (μ 4) x l : Nat) : Int))), (3, .int (zi ((l + 1 : Nat) : Int)))]) K dX4_homesIn_25 rfl (by decide) rfl ?_
        refine z_goto (tgt := 4) K dX4_homesIn_28 (by decide) ?_
        have e9 : zhi (μ 4) x l = zhi (μ 4) x (l + 1) := by
          rw [zhi_s]
          rw [if_neg h19]
        rw [e9]
        exact ih (l + 1) (by omega) (by omega)
      · refine z_iincN (lv' := [(0, .ref (ad 3)), (1, .int (zi x)), (2, .int (zi (((zhi (μ 4) x l) + 1 : Nat) : Int))), (3, .int (zi ((l : Nat) : Int)))]) K dX4_homesIn_22 rfl (by decide) rfl ?_
        refine z_iincN (lv' := [(0, .ref (ad 3)), (1, .int (zi x)), (2, .int (zi (((zhi (μ 4) x l) + 1 : Nat) : Int))), (3, .int (zi ((l + 1 : Nat) : Int)))]) K dX4_homesIn_25 rfl (by decide) rfl ?_
        refine z_goto (tgt := 4) K dX4_homesIn_28 (by decide) ?_
        have e9 : (zhi (μ 4) x l) + 1 = zhi (μ 4) x (l + 1) := by
          rw [zhi_s]
          rw [if_pos h19]
        rw [e9]
        exact ih (l + 1) (by omega) (by omega)
  exact L4 0 (by omega)
set_option maxHeartbeats 4000000 in
set_option maxRecDepth 100000 in
theorem ct_readOutside_d (la : Launch) (g0 : zG) (ad : Nat → Nat) (μ : zMem) (a : Int) (p : zP8) (s : Int) (hs : 0 ≤ s ∧ s ≤ 255) (hV : zPV a p) (hR : zPR (μ 3) (μ 4) (μ 5) (μ 6) (μ 7) (μ 8) (μ 9) a p) (ha : a ≤ 2) : zCon la g0 yX5_readOutside cX5_readOutside 3 (some .int) 1 ad zSH [.ref (ad 3), .int (zi a), .int (zi s)] μ (zPi (fun r ν => r = (zstep a p s).1 ∧ (¬ r = -1 → zPR (ν 3) (ν 4) (ν 5) (ν 6) (ν 7) (ν 8) (ν 9) r ((zstep a p s).2)) ∧ ∀ q, (q < 3 ∨ 9 < q) → ν q = μ q)) := by
  refine zCon_of (by decide +kernel) (Nat.le_of_ble_eq_true rfl) ?_
  intro χ K T hl1 hg1
  have K : zOk χ cX5_readOutside RX5 3 1 (some .int) := K
  obtain ⟨e0, e1, e2, e3, e4, e5, e6, e7⟩ := id hR
  obtain ⟨v1, v2, v3, v4, v5, v6, v7, v8, v9, v10, v11, v12⟩ := id hV
  show zV χ 3 ad zSH 0 0 0 [(0, .ref (ad 3)), (1, .int (zi a)), (2, .int (zi s))] [] μ
  refine z_iload_n K dX5_readOutside_0 rfl ?_
  refine z_ifne (tgt := 16) K dX5_readOutside_1 (by decide) (by omega) (fun h1 => ?_) (fun h1 => ?_)
  · refine z_iload_n K dX5_readOutside_16 rfl ?_
    refine z_iconst K dX5_readOutside_17 ?_
    refine z_icmpne (tgt := 45) K dX5_readOutside_18 (by decide) (by omega) ⟨by decide, by decide⟩ (fun h18 => ?_) (fun h18 => ?_)
    · refine z_iload_n K dX5_readOutside_45 rfl ?_
      refine z_bipush K dX5_readOutside_46 (by decide +kernel) ?_
      refine z_icmpne (tgt := 62) K dX5_readOutside_48 (by decide) (by omega) ⟨by decide, by decide⟩ (fun h48 => ?_) (fun h48 => ?_)
      · refine z_iload_n K dX5_readOutside_62 rfl ?_
        refine z_bipush K dX5_readOutside_63 (by decide +kernel) ?_
        refine z_icmpne (tgt := 81) K dX5_readOutside_65 (by decide) (by omega) ⟨by decide, by decide⟩ (fun h65 => ?_) (fun h65 => ?_)
        · refine z_iconst K dX5_readOutside_81 ?_
          exact z_ireti K T rfl dX5_readOutside_82 ⟨(by rw [show a = 2 by omega, zstep_2, if_neg (by omega), if_neg (by omega)]), fun h => absurd rfl h, fun _ _ => rfl⟩
        · refine z_aload_n K dX5_readOutside_68 rfl ?_
          refine z_get (k := 3) (v := .int (zi (μ 3 1))) K dX5_readOutside_69 fl_X5_50 rfl rfl rfl ?_
          refine z_iconst K dX5_readOutside_72 ?_
          refine z_icmpge (tgt := 81) K dX5_readOutside_73 (by decide) (by omega) ⟨by decide, by decide⟩ (fun h73 => ?_) (fun h73 => ?_)
          · refine z_iconst K dX5_readOutside_81 ?_
            exact z_ireti K T rfl dX5_readOutside_82 ⟨(by rw [show a = 2 by omega, zstep_2, if_neg (by omega), if_neg (by omega)]), fun h => absurd rfl h, fun _ _ => rfl⟩
          · refine z_bipush K dX5_readOutside_76 (by decide +kernel) ?_
            refine z_goto (tgt := 82) K dX5_readOutside_78 (by decide) ?_
            exact z_ireti K T rfl dX5_readOutside_82 ⟨(by rw [show a = 2 by omega, zstep_2, if_neg (by omega), if_pos ⟨by omega, by omega⟩]), fun _ => by rw [show a = 2 by omega, zstep_2]; rw [show a = 2 by omega] at hR; exact zPR_26 hR, fun _ _ => rfl⟩
      · refine z_aload_n K dX5_readOutside_51 rfl ?_
        refine z_get (k := 3) (v := .int (zi (μ 3 0))) K dX5_readOutside_52 fl_X5_47 rfl rfl rfl ?_
        refine z_bipush K dX5_readOutside_55 (by decide +kernel) ?_
        refine z_icmpge (tgt := 62) K dX5_readOutside_57 (by decide) (by omega) ⟨by decide, by decide⟩ (fun h57 => ?_) (fun h57 => ?_)
        · refine z_iload_n K dX5_readOutside_62 rfl ?_
          refine z_bipush K dX5_readOutside_63 (by decide +kernel) ?_
          refine z_icmpne (tgt := 81) K dX5_readOutside_65 (by decide) (by omega) ⟨by decide, by decide⟩ (fun h65 => ?_) (fun h65 => ?_)
          · refine z_iconst K dX5_readOutside_81 ?_
            exact z_ireti K T rfl dX5_readOutside_82 ⟨(by rw [show a = 2 by omega, zstep_2, if_neg (by omega), if_neg (by omega)]), fun h => absurd rfl h, fun _ _ => rfl⟩
          · refine z_aload_n K dX5_readOutside_68 rfl ?_
            refine z_get (k := 3) (v := .int (zi (μ 3 1))) K dX5_readOutside_69 fl_X5_50 rfl rfl rfl ?_
            refine z_iconst K dX5_readOutside_72 ?_
            refine z_icmpge (tgt := 81) K dX5_readOutside_73 (by decide) (by omega) ⟨by decide, by decide⟩ (fun h73 => ?_) (fun h73 => ?_)
            · refine z_iconst K dX5_readOutside_81 ?_
              exact z_ireti K T rfl dX5_readOutside_82 ⟨(by rw [show a = 2 by omega, zstep_2, if_neg (by omega), if_neg (by omega)]), fun h => absurd rfl h, fun _ _ => rfl⟩
            · refine z_bipush K dX5_readOutside_76 (by decide +kernel) ?_
              refine z_goto (tgt := 82) K dX5_readOutside_78 (by decide) ?_
              exact z_ireti K T rfl dX5_readOutside_82 ⟨(by rw [show a = 2 by omega, zstep_2, if_neg (by omega), if_pos ⟨by omega, by omega⟩]), fun _ => by rw [show a = 2 by omega, zstep_2]; rw [show a = 2 by omega] at hR; exact zPR_26 hR, fun _ _ => rfl⟩
        · refine z_iconst K dX5_readOutside_60 ?_
          exact z_ireti K T rfl dX5_readOutside_61 ⟨(by rw [show a = 2 by omega, zstep_2, if_pos ⟨by omega, by omega⟩]), fun _ => by rw [show a = 2 by omega, zstep_2]; rw [show a = 2 by omega] at hR; exact zPR_23 hR, fun _ _ => rfl⟩
    · refine z_aload_n K dX5_readOutside_21 rfl ?_
      refine z_iload_n K dX5_readOutside_22 rfl ?_
      refine z_bipush K dX5_readOutside_23 (by decide +kernel) ?_
      refine z_isub K dX5_readOutside_25 ?_
      refine z_puti (k := 3) K dX5_readOutside_26 fp_X5_40 rfl rfl ?_
      refine z_iload_n K dX5_readOutside_29 rfl ?_
      refine z_iconst K dX5_readOutside_30 ?_
      refine z_bipush K dX5_readOutside_31 (by decide +kernel) ?_
      refine z_callSd K hl1 hg1 (As := [.int (zi s), .int (zi (0 : Int)), .int (zi (9 : Int))]) (rest := []) (ct_isFigure la g0 ad (zup μ 3 (zu1 (μ 3) 2 (s - (48 : Int)))) s 0 9 hs ⟨by decide, by decide⟩ ⟨by decide, by decide⟩) (by decide) lk_X5_43 cd_X5_isFigure rfl rfl (Nat.le_of_ble_eq_true rfl) dX5_readOutside_33 ?_
      refine z_ifeq (tgt := 43) K dX5_readOutside_36 (by decide) (by omega) (fun h36 => ?_) (fun h36 => ?_)
      · refine z_iconst K dX5_readOutside_43 ?_
        exact z_ireti K T rfl dX5_readOutside_44 ⟨(by rw [h18, zstep_1, if_neg (by omega)]), fun h => absurd rfl h, fun q hq => by unfold zup; rw [if_neg (by omega)]⟩
      · refine z_iconst K dX5_readOutside_39 ?_
        refine z_goto (tgt := 44) K dX5_readOutside_40 (by decide) ?_
        exact z_ireti K T rfl dX5_readOutside_44 ⟨(by rw [h18, zstep_1, if_pos (by omega)]), fun _ => by rw [h18, zstep_1]; rw [h18] at hR; exact zPR_12 hR _, fun q hq => by unfold zup; rw [if_neg (by omega)]⟩
  · refine z_iload_n K dX5_readOutside_4 rfl ?_
    refine z_bipush K dX5_readOutside_5 (by decide +kernel) ?_
    refine z_icmpne (tgt := 14) K dX5_readOutside_7 (by decide) (by omega) ⟨by decide, by decide⟩ (fun h7 => ?_) (fun h7 => ?_)
    · refine z_iconst K dX5_readOutside_14 ?_
      exact z_ireti K T rfl dX5_readOutside_15 ⟨(by rw [h1, zstep_0, if_neg h7]), fun h => absurd rfl h, fun _ _ => rfl⟩
    · refine z_iconst K dX5_readOutside_10 ?_
      refine z_goto (tgt := 15) K dX5_readOutside_11 (by decide) ?_
      exact z_ireti K T rfl dX5_readOutside_15 ⟨(by rw [h1, zstep_0, if_pos h7]), fun _ => by rw [h1, zstep_0]; rw [h1] at hR; exact zPR_01 hR, fun _ _ => rfl⟩
set_option maxHeartbeats 4000000 in
set_option maxRecDepth 100000 in
theorem ct_readInside_d (la : Launch) (g0 : zG) (ad : Nat → Nat) (μ : zMem) (a : Int) (p : zP8) (s : Int) (hs : 0 ≤ s ∧ s ≤ 255) (hV : zPV a p) (hR : zPR (μ 3) (μ 4) (μ 5) (μ 6) (μ 7) (μ 8) (μ 9) a p) (ha : 3 ≤ a) : zCon la g0 yX5_readInside cX5_readInside 5 (some .int) 2 ad zSH [.ref (ad 3), .int (zi a), .int (zi s)] μ (zPi (fun r ν => r = (zstep a p s).1 ∧ (¬ r = -1 → zPR (ν 3) (ν 4) (ν 5) (ν 6) (ν 7) (ν 8) (ν 9) r ((zstep a p s).2)) ∧ ∀ q, (q < 3 ∨ 9 < q) → ν q = μ q)) := by
  refine zCon_of (by decide +kernel) (Nat.le_of_ble_eq_true rfl) ?_
  intro χ K T hl1 hg1
  have K : zOk χ cX5_readInside RX5 5 2 (some .int) := K
  obtain ⟨e0, e1, e2, e3, e4, e5, e6, e7⟩ := id hR
  obtain ⟨v1, v2, v3, v4, v5, v6, v7, v8, v9, v10, v11, v12⟩ := id hV
  show zV χ 5 ad zSH 0 0 0 [(0, .ref (ad 3)), (1, .int (zi a)), (2, .int (zi s))] [] μ
  refine z_aload_n K dX5_readInside_0 rfl ?_
  refine z_get (k := 3) (v := .int (zi (μ 3 0))) K dX5_readInside_1 fl_X5_47 rfl rfl rfl ?_
  refine z_istore_n (lv' := [(0, .ref (ad 3)), (1, .int (zi a)), (2, .int (zi s)), (3, .int (zi (μ 3 0)))]) K dX5_readInside_4 (by decide) rfl ?_
  refine z_aload_n K dX5_readInside_5 rfl ?_
  refine z_get (k := 3) (v := .int (zi (μ 3 1))) K dX5_readInside_6 fl_X5_50 rfl rfl rfl ?_
  refine z_istore (lv' := [(0, .ref (ad 3)), (1, .int (zi a)), (2, .int (zi s)), (3, .int (zi (μ 3 0))), (4, .int (zi (μ 3 1)))]) K dX5_readInside_9 (by decide) rfl ?_
  refine z_iload_n K dX5_readInside_11 rfl ?_
  refine z_iconst K dX5_readInside_12 ?_
  refine z_icmpgt (tgt := 25) K dX5_readInside_13 (by decide) (by omega) ⟨by decide, by decide⟩ (fun h13 => ?_) (fun h13 => ?_)
  · refine z_iload K dX5_readInside_25 rfl ?_
    refine z_iconst K dX5_readInside_27 ?_
    refine z_icmplt (tgt := 33) K dX5_readInside_28 (by decide) (by omega) ⟨by decide, by decide⟩ (fun h28 => ?_) (fun h28 => ?_)
    · refine z_iload_n K dX5_readInside_33 rfl ?_
      rcases (show a = 3 ∨ a = 4 ∨ a = 5 ∨ a = 6 ∨ (a < 3 ∨ 6 < a) by omega) with hsw | hsw | hsw | hsw | hsw
      · refine z_tableIn (off := 30) (tgt := 64) K dX5_readInside_34 (by omega) (by omega) (by omega) (by rw [hsw]; rfl) (by decide) ?_
        refine z_aload_n K dX5_readInside_64 rfl ?_
        refine z_get (k := 3) (v := .ref (ad 4)) K dX5_readInside_65 fl_X5_53 rfl rfl rfl ?_
        refine z_iload_n K dX5_readInside_68 rfl ?_
        refine z_iload_n K dX5_readInside_69 rfl ?_
        refine z_bipush K dX5_readInside_70 (by decide +kernel) ?_
        refine z_isub K dX5_readInside_72 ?_
        refine z_iast (k := 4) K dX5_readInside_73 p.1 rfl (by decide) (by omega) (by omega) ?_
        refine z_iload_n K dX5_readInside_74 rfl ?_
        refine z_bipush K dX5_readInside_75 (by decide +kernel) ?_
        refine z_isub K dX5_readInside_77 ?_
        refine z_callSd K hl1 hg1 (As := [.int (zi (s - (97 : Int)))]) (rest := []) (ct_isHole la g0 ad (zup μ 4 (zu1 (μ 4) p.1 (s - (97 : Int)))) (s - 97) ⟨by omega, by omega⟩) (by decide) lk_X5_56 cd_X8_isHole rfl rfl (Nat.le_of_ble_eq_true rfl) dX5_readInside_78 ?_
        refine z_ifeq (tgt := 100) K dX5_readInside_81 (by decide) (by omega) (fun h81 => ?_) (fun h81 => ?_)
        · refine z_iconst K dX5_readInside_100 ?_
          exact z_ireti K T rfl dX5_readInside_101 ⟨(by rw [hsw, zstep_3, if_neg (by omega)]), fun h => absurd rfl h, fun q hq => by unfold zup; rw [if_neg (by omega)]⟩
        · refine z_aload_n K dX5_readInside_84 rfl ?_
          refine z_iload_n K dX5_readInside_85 rfl ?_
          refine z_bipush K dX5_readInside_86 (by decide +kernel) ?_
          refine z_isub K dX5_readInside_88 ?_
          have hzz : zhi (zu1 (μ 4) p.1 (s - 97)) (s - 97) p.1 = zhi p.2.2.2.1 (s - 97) p.1 := zhi_cg _ _ (fun l hl => by rw [zu1_ne _ _ (by omega)]; exact e3 l (Or.inl hl))
          refine z_callVd K hl1 hg1 (kb := 3) (As := [.int (zi (s - (97 : Int)))]) (rest := []) (ct_homesIn_d la g0 ad (zup μ 4 (zu1 (μ 4) p.1 (s - (97 : Int)))) p.1 e0 v1 (s - 97) ⟨by omega, by omega⟩ (fun l hl => by show zR (zu1 (μ 4) p.1 (s - 97) l); rw [zu1_ne _ _ (by omega), e3 l (Or.inl hl)]; have := v8 l (Or.inl hl); omega)) (by decide) lk_X5_60 cd_X4_homesIn rfl rfl rfl rfl (Nat.le_of_ble_eq_true rfl) dX5_readInside_89 ?_
          show zV χ 5 ad zSH 0 0 92 [(0, .ref (ad 3)), (1, .int (zi a)), (2, .int (zi s)), (3, .int (zi (μ 3 0))), (4, .int (zi (μ 3 1)))] [.int (zi ((zhi (zu1 (μ 4) p.1 (s - 97)) (s - 97) p.1 : Nat) : Int))] (zup μ 4 (zu1 (μ 4) p.1 (s - (97 : Int))))
          have hzc : zhi (zu1 (μ 4) p.1 (s - 97)) (s - 97) p.1 ≤ 6 := Nat.le_trans (zhi_le _ _ _) v1
          refine z_iconst K dX5_readInside_92 ?_
          refine z_icmpge (tgt := 100) K dX5_readInside_93 (by decide) (by omega) ⟨by decide, by decide⟩ (fun h93 => ?_) (fun h93 => ?_)
          · refine z_iconst K dX5_readInside_100 ?_
            exact z_ireti K T rfl dX5_readInside_101 ⟨(by rw [hsw, zstep_3, if_neg (by omega)]), fun h => absurd rfl h, fun q hq => by unfold zup; rw [if_neg (by omega)]⟩
          · refine z_iconst K dX5_readInside_96 ?_
            refine z_goto (tgt := 101) K dX5_readInside_97 (by decide) ?_
            exact z_ireti K T rfl dX5_readInside_101 ⟨(by rw [hsw, zstep_3, if_pos ⟨by omega, by omega⟩]), fun _ => by rw [hsw, zstep_3]; rw [hsw] at hR; exact zPR_34 hR _, fun q hq => by unfold zup; rw [if_neg (by omega)]⟩
      · refine z_tableIn (off := 68) (tgt := 102) K dX5_readInside_34 (by omega) (by omega) (by omega) (by rw [hsw]; rfl) (by decide) ?_
        refine z_aload_n K dX5_readInside_102 rfl ?_
        refine z_get (k := 3) (v := .ref (ad 5)) K dX5_readInside_103 fl_X5_64 rfl rfl rfl ?_
        refine z_iload_n K dX5_readInside_106 rfl ?_
        refine z_iload_n K dX5_readInside_107 rfl ?_
        refine z_bipush K dX5_readInside_108 (by decide +kernel) ?_
        refine z_isub K dX5_readInside_110 ?_
        refine z_iast (k := 5) K dX5_readInside_111 p.1 rfl (by decide) (by omega) (by omega) ?_
        refine z_iload_n K dX5_readInside_112 rfl ?_
        refine z_iconst K dX5_readInside_113 ?_
        refine z_bipush K dX5_readInside_114 (by decide +kernel) ?_
        refine z_callSd K hl1 hg1 (As := [.int (zi s), .int (zi (1 : Int)), .int (zi (9 : Int))]) (rest := []) (ct_isFigure la g0 ad (zup μ 5 (zu1 (μ 5) p.1 (s - (48 : Int)))) s 1 9 hs ⟨by decide, by decide⟩ ⟨by decide, by decide⟩) (by decide) lk_X5_43 cd_X5_isFigure rfl rfl (Nat.le_of_ble_eq_true rfl) dX5_readInside_116 ?_
        refine z_ifeq (tgt := 126) K dX5_readInside_119 (by decide) (by omega) (fun h119 => ?_) (fun h119 => ?_)
        · refine z_iconst K dX5_readInside_126 ?_
          exact z_ireti K T rfl dX5_readInside_127 ⟨(by rw [hsw, zstep_4, if_neg (by omega)]), fun h => absurd rfl h, fun q hq => by unfold zup; rw [if_neg (by omega)]⟩
        · refine z_iconst K dX5_readInside_122 ?_
          refine z_goto (tgt := 127) K dX5_readInside_123 (by decide) ?_
          exact z_ireti K T rfl dX5_readInside_127 ⟨(by rw [hsw, zstep_4, if_pos (by omega)]), fun _ => by rw [hsw, zstep_4]; rw [hsw] at hR; exact zPR_45 hR _, fun q hq => by unfold zup; rw [if_neg (by omega)]⟩
      · refine z_tableIn (off := 94) (tgt := 128) K dX5_readInside_34 (by omega) (by omega) (by omega) (by rw [hsw]; rfl) (by decide) ?_
        refine z_iload_n K dX5_readInside_128 rfl ?_
        refine z_iconst K dX5_readInside_129 ?_
        refine z_iconst K dX5_readInside_130 ?_
        refine z_callSd K hl1 hg1 (As := [.int (zi s), .int (zi (0 : Int)), .int (zi (3 : Int))]) (rest := []) (ct_isFigure la g0 ad μ s 0 3 hs ⟨by decide, by decide⟩ ⟨by decide, by decide⟩) (by decide) lk_X5_43 cd_X5_isFigure rfl rfl (Nat.le_of_ble_eq_true rfl) dX5_readInside_131 ?_
        refine z_ifne (tgt := 139) K dX5_readInside_134 (by decide) (by omega) (fun h134 => ?_) (fun h134 => ?_)
        · refine z_aload_n K dX5_readInside_139 rfl ?_
          refine z_get (k := 3) (v := .ref (ad 6)) K dX5_readInside_140 fl_X5_67 rfl rfl rfl ?_
          refine z_iload_n K dX5_readInside_143 rfl ?_
          refine z_iload_n K dX5_readInside_144 rfl ?_
          refine z_bipush K dX5_readInside_145 (by decide +kernel) ?_
          refine z_isub K dX5_readInside_147 ?_
          refine z_iast (k := 6) K dX5_readInside_148 p.1 rfl (by decide) (by omega) (by omega) ?_
          refine z_aload_n K dX5_readInside_149 rfl ?_
          refine z_get (k := 3) (v := .ref (ad 7)) K dX5_readInside_150 fl_X5_70 rfl rfl rfl ?_
          refine z_iload_n K dX5_readInside_153 rfl ?_
          refine z_aload_n K dX5_readInside_154 rfl ?_
          refine z_get (k := 3) (v := .ref (ad 5)) K dX5_readInside_155 fl_X5_64 rfl rfl rfl ?_
          refine z_iload_n K dX5_readInside_158 rfl ?_
          refine z_iald (k := 5) (v := μ 5 p.1) K dX5_readInside_159 p.1 rfl (by decide) (by omega) (by omega) rfl ?_
          refine z_aload_n K dX5_readInside_160 rfl ?_
          refine z_get (k := 3) (v := .ref (ad 6)) K dX5_readInside_161 fl_X5_67 rfl rfl rfl ?_
          refine z_iload_n K dX5_readInside_164 rfl ?_
          refine z_iald (k := 6) (v := s - (48 : Int)) K dX5_readInside_165 p.1 rfl (by decide) (by omega) (by omega) (zu1_eq _ _ _) ?_
          have hw9 := v9 p.1 (by omega)
          refine z_callSd K hl1 hg1 (As := [.int (zi (μ 5 p.1)), .int (zi (s - (48 : Int)))]) (rest := [.int (zi (μ 3 0)), .ref (ad 7)]) (ct_waitAlone la g0 ad (zup μ 6 (zu1 (μ 6) p.1 (s - (48 : Int)))) (μ 5 p.1) (s - 48) (by rw [e4 p.1 (by omega)]; omega) (by omega)) (by decide) lk_X5_73 cd_X8_waitAlone rfl rfl (Nat.le_of_ble_eq_true rfl) dX5_readInside_166 ?_
          refine z_iast (k := 7) K dX5_readInside_169 p.1 rfl (by decide) (by omega) (by omega) ?_
          refine z_aload_n K dX5_readInside_170 rfl ?_
          refine z_dup K dX5_readInside_171 rfl ?_
          refine z_get (k := 3) (v := .int (zi (μ 3 0))) K dX5_readInside_172 fl_X5_47 rfl rfl rfl ?_
          refine z_iconst K dX5_readInside_175 ?_
          refine z_iadd K dX5_readInside_176 ?_
          refine z_puti (k := 3) K dX5_readInside_177 fp_X5_47 rfl rfl ?_
          refine z_iconst K dX5_readInside_180 ?_
          exact z_ireti K T rfl dX5_readInside_181 ⟨(by rw [hsw, zstep_5, if_pos (by omega)]), fun _ => by rw [hsw, zstep_5]; rw [hsw] at hR; exact zPR_52 hR _, fun q hq => by unfold zup; rw [if_neg (by omega), if_neg (by omega), if_neg (by omega)]⟩
        · refine z_iconst K dX5_readInside_137 ?_
          exact z_ireti K T rfl dX5_readInside_138 ⟨(by rw [hsw, zstep_5, if_neg (by omega)]), fun h => absurd rfl h, fun _ _ => rfl⟩
      · refine z_tableIn (off := 148) (tgt := 182) K dX5_readInside_34 (by omega) (by omega) (by omega) (by rw [hsw]; rfl) (by decide) ?_
        refine z_aload_n K dX5_readInside_182 rfl ?_
        refine z_get (k := 3) (v := .ref (ad 8)) K dX5_readInside_183 fl_X5_77 rfl rfl rfl ?_
        refine z_iload K dX5_readInside_186 rfl ?_
        refine z_iload_n K dX5_readInside_188 rfl ?_
        refine z_bipush K dX5_readInside_189 (by decide +kernel) ?_
        refine z_isub K dX5_readInside_191 ?_
        refine z_iast (k := 8) K dX5_readInside_192 p.2.1 rfl (by decide) (by omega) (by omega) ?_
        refine z_iload_n K dX5_readInside_193 rfl ?_
        refine z_iconst K dX5_readInside_194 ?_
        refine z_iconst K dX5_readInside_195 ?_
        refine z_callSd K hl1 hg1 (As := [.int (zi s), .int (zi (0 : Int)), .int (zi (2 : Int))]) (rest := []) (ct_isFigure la g0 ad (zup μ 8 (zu1 (μ 8) p.2.1 (s - (48 : Int)))) s 0 2 hs ⟨by decide, by decide⟩ ⟨by decide, by decide⟩) (by decide) lk_X5_43 cd_X5_isFigure rfl rfl (Nat.le_of_ble_eq_true rfl) dX5_readInside_196 ?_
        refine z_ifeq (tgt := 207) K dX5_readInside_199 (by decide) (by omega) (fun h199 => ?_) (fun h199 => ?_)
        · refine z_iconst K dX5_readInside_207 ?_
          exact z_ireti K T rfl dX5_readInside_208 ⟨(by rw [hsw, zstep_6, if_neg (by omega)]), fun h => absurd rfl h, fun q hq => by unfold zup; rw [if_neg (by omega)]⟩
        · refine z_bipush K dX5_readInside_202 (by decide +kernel) ?_
          refine z_goto (tgt := 208) K dX5_readInside_204 (by decide) ?_
          exact z_ireti K T rfl dX5_readInside_208 ⟨(by rw [hsw, zstep_6, if_pos (by omega)]), fun _ => by rw [hsw, zstep_6]; rw [hsw] at hR; exact zPR_67 hR _, fun q hq => by unfold zup; rw [if_neg (by omega)]⟩
      · refine z_tableOut (tgt := 209) K dX5_readInside_34 (by omega) hsw (by decide) ?_
        refine z_iload_n K dX5_readInside_209 rfl ?_
        refine z_iconst K dX5_readInside_210 ?_
        refine z_iconst K dX5_readInside_211 ?_
        refine z_callSd K hl1 hg1 (As := [.int (zi s), .int (zi (1 : Int)), .int (zi (3 : Int))]) (rest := []) (ct_isFigure la g0 ad μ s 1 3 hs ⟨by decide, by decide⟩ ⟨by decide, by decide⟩) (by decide) lk_X5_43 cd_X5_isFigure rfl rfl (Nat.le_of_ble_eq_true rfl) dX5_readInside_212 ?_
        refine z_ifne (tgt := 220) K dX5_readInside_215 (by decide) (by omega) (fun h215 => ?_) (fun h215 => ?_)
        · refine z_aload_n K dX5_readInside_220 rfl ?_
          refine z_get (k := 3) (v := .ref (ad 9)) K dX5_readInside_221 fl_X5_80 rfl rfl rfl ?_
          refine z_iload K dX5_readInside_224 rfl ?_
          refine z_iload_n K dX5_readInside_226 rfl ?_
          refine z_bipush K dX5_readInside_227 (by decide +kernel) ?_
          refine z_isub K dX5_readInside_229 ?_
          refine z_iast (k := 9) K dX5_readInside_230 p.2.1 rfl (by decide) (by omega) (by omega) ?_
          refine z_aload_n K dX5_readInside_231 rfl ?_
          refine z_dup K dX5_readInside_232 rfl ?_
          refine z_get (k := 3) (v := .int (zi (μ 3 1))) K dX5_readInside_233 fl_X5_50 rfl rfl rfl ?_
          refine z_iconst K dX5_readInside_236 ?_
          refine z_iadd K dX5_readInside_237 ?_
          refine z_puti (k := 3) K dX5_readInside_238 fp_X5_50 rfl rfl ?_
          refine z_iconst K dX5_readInside_241 ?_
          exact z_ireti K T rfl dX5_readInside_242 ⟨(by rw [show a = 7 by omega, zstep_7, if_pos (by omega)]), fun _ => by rw [show a = 7 by omega, zstep_7]; rw [show a = 7 by omega] at hR; exact zPR_72 hR _, fun q hq => by unfold zup; rw [if_neg (by omega), if_neg (by omega)]⟩
        · refine z_iconst K dX5_readInside_218 ?_
          exact z_ireti K T rfl dX5_readInside_219 ⟨(by rw [show a = 7 by omega, zstep_7, if_neg (by omega)]), fun h => absurd rfl h, fun _ _ => rfl⟩
    · refine z_iconst K dX5_readInside_31 ?_
      exact z_ireti K T rfl dX5_readInside_32 (absurd (show False by omega) id)
  · refine z_iload_n K dX5_readInside_16 rfl ?_
    refine z_bipush K dX5_readInside_17 (by decide +kernel) ?_
    refine z_icmplt (tgt := 33) K dX5_readInside_19 (by decide) (by omega) ⟨by decide, by decide⟩ (fun h19 => ?_) (fun h19 => ?_)
    · refine z_iload_n K dX5_readInside_33 rfl ?_
      rcases (show a = 3 ∨ a = 4 ∨ a = 5 ∨ a = 6 ∨ (a < 3 ∨ 6 < a) by omega) with hsw | hsw | hsw | hsw | hsw
      · refine z_tableIn (off := 30) (tgt := 64) K dX5_readInside_34 (by omega) (by omega) (by omega) (by rw [hsw]; rfl) (by decide) ?_
        refine z_aload_n K dX5_readInside_64 rfl ?_
        refine z_get (k := 3) (v := .ref (ad 4)) K dX5_readInside_65 fl_X5_53 rfl rfl rfl ?_
        refine z_iload_n K dX5_readInside_68 rfl ?_
        refine z_iload_n K dX5_readInside_69 rfl ?_
        refine z_bipush K dX5_readInside_70 (by decide +kernel) ?_
        refine z_isub K dX5_readInside_72 ?_
        refine z_iast (k := 4) K dX5_readInside_73 p.1 rfl (by decide) (by omega) (by omega) ?_
        refine z_iload_n K dX5_readInside_74 rfl ?_
        refine z_bipush K dX5_readInside_75 (by decide +kernel) ?_
        refine z_isub K dX5_readInside_77 ?_
        refine z_callSd K hl1 hg1 (As := [.int (zi (s - (97 : Int)))]) (rest := []) (ct_isHole la g0 ad (zup μ 4 (zu1 (μ 4) p.1 (s - (97 : Int)))) (s - 97) ⟨by omega, by omega⟩) (by decide) lk_X5_56 cd_X8_isHole rfl rfl (Nat.le_of_ble_eq_true rfl) dX5_readInside_78 ?_
        refine z_ifeq (tgt := 100) K dX5_readInside_81 (by decide) (by omega) (fun h81 => ?_) (fun h81 => ?_)
        · refine z_iconst K dX5_readInside_100 ?_
          exact z_ireti K T rfl dX5_readInside_101 ⟨(by rw [hsw, zstep_3, if_neg (by omega)]), fun h => absurd rfl h, fun q hq => by unfold zup; rw [if_neg (by omega)]⟩
        · refine z_aload_n K dX5_readInside_84 rfl ?_
          refine z_iload_n K dX5_readInside_85 rfl ?_
          refine z_bipush K dX5_readInside_86 (by decide +kernel) ?_
          refine z_isub K dX5_readInside_88 ?_
          have hzz : zhi (zu1 (μ 4) p.1 (s - 97)) (s - 97) p.1 = zhi p.2.2.2.1 (s - 97) p.1 := zhi_cg _ _ (fun l hl => by rw [zu1_ne _ _ (by omega)]; exact e3 l (Or.inl hl))
          refine z_callVd K hl1 hg1 (kb := 3) (As := [.int (zi (s - (97 : Int)))]) (rest := []) (ct_homesIn_d la g0 ad (zup μ 4 (zu1 (μ 4) p.1 (s - (97 : Int)))) p.1 e0 v1 (s - 97) ⟨by omega, by omega⟩ (fun l hl => by show zR (zu1 (μ 4) p.1 (s - 97) l); rw [zu1_ne _ _ (by omega), e3 l (Or.inl hl)]; have := v8 l (Or.inl hl); omega)) (by decide) lk_X5_60 cd_X4_homesIn rfl rfl rfl rfl (Nat.le_of_ble_eq_true rfl) dX5_readInside_89 ?_
          show zV χ 5 ad zSH 0 0 92 [(0, .ref (ad 3)), (1, .int (zi a)), (2, .int (zi s)), (3, .int (zi (μ 3 0))), (4, .int (zi (μ 3 1)))] [.int (zi ((zhi (zu1 (μ 4) p.1 (s - 97)) (s - 97) p.1 : Nat) : Int))] (zup μ 4 (zu1 (μ 4) p.1 (s - (97 : Int))))
          have hzc : zhi (zu1 (μ 4) p.1 (s - 97)) (s - 97) p.1 ≤ 6 := Nat.le_trans (zhi_le _ _ _) v1
          refine z_iconst K dX5_readInside_92 ?_
          refine z_icmpge (tgt := 100) K dX5_readInside_93 (by decide) (by omega) ⟨by decide, by decide⟩ (fun h93 => ?_) (fun h93 => ?_)
          · refine z_iconst K dX5_readInside_100 ?_
            exact z_ireti K T rfl dX5_readInside_101 ⟨(by rw [hsw, zstep_3, if_neg (by omega)]), fun h => absurd rfl h, fun q hq => by unfold zup; rw [if_neg (by omega)]⟩
          · refine z_iconst K dX5_readInside_96 ?_
            refine z_goto (tgt := 101) K dX5_readInside_97 (by decide) ?_
            exact z_ireti K T rfl dX5_readInside_101 ⟨(by rw [hsw, zstep_3, if_pos ⟨by omega, by omega⟩]), fun _ => by rw [hsw, zstep_3]; rw [hsw] at hR; exact zPR_34 hR _, fun q hq => by unfold zup; rw [if_neg (by omega)]⟩
      · refine z_tableIn (off := 68) (tgt := 102) K dX5_readInside_34 (by omega) (by omega) (by omega) (by rw [hsw]; rfl) (by decide) ?_
        refine z_aload_n K dX5_readInside_102 rfl ?_
        refine z_get (k := 3) (v := .ref (ad 5)) K dX5_readInside_103 fl_X5_64 rfl rfl rfl ?_
        refine z_iload_n K dX5_readInside_106 rfl ?_
        refine z_iload_n K dX5_readInside_107 rfl ?_
        refine z_bipush K dX5_readInside_108 (by decide +kernel) ?_
        refine z_isub K dX5_readInside_110 ?_
        refine z_iast (k := 5) K dX5_readInside_111 p.1 rfl (by decide) (by omega) (by omega) ?_
        refine z_iload_n K dX5_readInside_112 rfl ?_
        refine z_iconst K dX5_readInside_113 ?_
        refine z_bipush K dX5_readInside_114 (by decide +kernel) ?_
        refine z_callSd K hl1 hg1 (As := [.int (zi s), .int (zi (1 : Int)), .int (zi (9 : Int))]) (rest := []) (ct_isFigure la g0 ad (zup μ 5 (zu1 (μ 5) p.1 (s - (48 : Int)))) s 1 9 hs ⟨by decide, by decide⟩ ⟨by decide, by decide⟩) (by decide) lk_X5_43 cd_X5_isFigure rfl rfl (Nat.le_of_ble_eq_true rfl) dX5_readInside_116 ?_
        refine z_ifeq (tgt := 126) K dX5_readInside_119 (by decide) (by omega) (fun h119 => ?_) (fun h119 => ?_)
        · refine z_iconst K dX5_readInside_126 ?_
          exact z_ireti K T rfl dX5_readInside_127 ⟨(by rw [hsw, zstep_4, if_neg (by omega)]), fun h => absurd rfl h, fun q hq => by unfold zup; rw [if_neg (by omega)]⟩
        · refine z_iconst K dX5_readInside_122 ?_
          refine z_goto (tgt := 127) K dX5_readInside_123 (by decide) ?_
          exact z_ireti K T rfl dX5_readInside_127 ⟨(by rw [hsw, zstep_4, if_pos (by omega)]), fun _ => by rw [hsw, zstep_4]; rw [hsw] at hR; exact zPR_45 hR _, fun q hq => by unfold zup; rw [if_neg (by omega)]⟩
      · refine z_tableIn (off := 94) (tgt := 128) K dX5_readInside_34 (by omega) (by omega) (by omega) (by rw [hsw]; rfl) (by decide) ?_
        refine z_iload_n K dX5_readInside_128 rfl ?_
        refine z_iconst K dX5_readInside_129 ?_
        refine z_iconst K dX5_readInside_130 ?_
        refine z_callSd K hl1 hg1 (As := [.int (zi s), .int (zi (0 : Int)), .int (zi (3 : Int))]) (rest := []) (ct_isFigure la g0 ad μ s 0 3 hs ⟨by decide, by decide⟩ ⟨by decide, by decide⟩) (by decide) lk_X5_43 cd_X5_isFigure rfl rfl (Nat.le_of_ble_eq_true rfl) dX5_readInside_131 ?_
        refine z_ifne (tgt := 139) K dX5_readInside_134 (by decide) (by omega) (fun h134 => ?_) (fun h134 => ?_)
        · refine z_aload_n K dX5_readInside_139 rfl ?_
          refine z_get (k := 3) (v := .ref (ad 6)) K dX5_readInside_140 fl_X5_67 rfl rfl rfl ?_
          refine z_iload_n K dX5_readInside_143 rfl ?_
          refine z_iload_n K dX5_readInside_144 rfl ?_
          refine z_bipush K dX5_readInside_145 (by decide +kernel) ?_
          refine z_isub K dX5_readInside_147 ?_
          refine z_iast (k := 6) K dX5_readInside_148 p.1 rfl (by decide) (by omega) (by omega) ?_
          refine z_aload_n K dX5_readInside_149 rfl ?_
          refine z_get (k := 3) (v := .ref (ad 7)) K dX5_readInside_150 fl_X5_70 rfl rfl rfl ?_
          refine z_iload_n K dX5_readInside_153 rfl ?_
          refine z_aload_n K dX5_readInside_154 rfl ?_
          refine z_get (k := 3) (v := .ref (ad 5)) K dX5_readInside_155 fl_X5_64 rfl rfl rfl ?_
          refine z_iload_n K dX5_readInside_158 rfl ?_
          refine z_iald (k := 5) (v := μ 5 p.1) K dX5_readInside_159 p.1 rfl (by decide) (by omega) (by omega) rfl ?_
          refine z_aload_n K dX5_readInside_160 rfl ?_
          refine z_get (k := 3) (v := .ref (ad 6)) K dX5_readInside_161 fl_X5_67 rfl rfl rfl ?_
          refine z_iload_n K dX5_readInside_164 rfl ?_
          refine z_iald (k := 6) (v := s - (48 : Int)) K dX5_readInside_165 p.1 rfl (by decide) (by omega) (by omega) (zu1_eq _ _ _) ?_
          have hw9 := v9 p.1 (by omega)
          refine z_callSd K hl1 hg1 (As := [.int (zi (μ 5 p.1)), .int (zi (s - (48 : Int)))]) (rest := [.int (zi (μ 3 0)), .ref (ad 7)]) (ct_waitAlone la g0 ad (zup μ 6 (zu1 (μ 6) p.1 (s - (48 : Int)))) (μ 5 p.1) (s - 48) (by rw [e4 p.1 (by omega)]; omega) (by omega)) (by decide) lk_X5_73 cd_X8_waitAlone rfl rfl (Nat.le_of_ble_eq_true rfl) dX5_readInside_166 ?_
          refine z_iast (k := 7) K dX5_readInside_169 p.1 rfl (by decide) (by omega) (by omega) ?_
          refine z_aload_n K dX5_readInside_170 rfl ?_
          refine z_dup K dX5_readInside_171 rfl ?_
          refine z_get (k := 3) (v := .int (zi (μ 3 0))) K dX5_readInside_172 fl_X5_47 rfl rfl rfl ?_
          refine z_iconst K dX5_readInside_175 ?_
          refine z_iadd K dX5_readInside_176 ?_
          refine z_puti (k := 3) K dX5_readInside_177 fp_X5_47 rfl rfl ?_
          refine z_iconst K dX5_readInside_180 ?_
          exact z_ireti K T rfl dX5_readInside_181 ⟨(by rw [hsw, zstep_5, if_pos (by omega)]), fun _ => by rw [hsw, zstep_5]; rw [hsw] at hR; exact zPR_52 hR _, fun q hq => by unfold zup; rw [if_neg (by omega), if_neg (by omega), if_neg (by omega)]⟩
        · refine z_iconst K dX5_readInside_137 ?_
          exact z_ireti K T rfl dX5_readInside_138 ⟨(by rw [hsw, zstep_5, if_neg (by omega)]), fun h => absurd rfl h, fun _ _ => rfl⟩
      · refine z_tableIn (off := 148) (tgt := 182) K dX5_readInside_34 (by omega) (by omega) (by omega) (by rw [hsw]; rfl) (by decide) ?_
        refine z_aload_n K dX5_readInside_182 rfl ?_
        refine z_get (k := 3) (v := .ref (ad 8)) K dX5_readInside_183 fl_X5_77 rfl rfl rfl ?_
        refine z_iload K dX5_readInside_186 rfl ?_
        refine z_iload_n K dX5_readInside_188 rfl ?_
        refine z_bipush K dX5_readInside_189 (by decide +kernel) ?_
        refine z_isub K dX5_readInside_191 ?_
        refine z_iast (k := 8) K dX5_readInside_192 p.2.1 rfl (by decide) (by omega) (by omega) ?_
        refine z_iload_n K dX5_readInside_193 rfl ?_
        refine z_iconst K dX5_readInside_194 ?_
        refine z_iconst K dX5_readInside_195 ?_
        refine z_callSd K hl1 hg1 (As := [.int (zi s), .int (zi (0 : Int)), .int (zi (2 : Int))]) (rest := []) (ct_isFigure la g0 ad (zup μ 8 (zu1 (μ 8) p.2.1 (s - (48 : Int)))) s 0 2 hs ⟨by decide, by decide⟩ ⟨by decide, by decide⟩) (by decide) lk_X5_43 cd_X5_isFigure rfl rfl (Nat.le_of_ble_eq_true rfl) dX5_readInside_196 ?_
        refine z_ifeq (tgt := 207) K dX5_readInside_199 (by decide) (by omega) (fun h199 => ?_) (fun h199 => ?_)
        · refine z_iconst K dX5_readInside_207 ?_
          exact z_ireti K T rfl dX5_readInside_208 ⟨(by rw [hsw, zstep_6, if_neg (by omega)]), fun h => absurd rfl h, fun q hq => by unfold zup; rw [if_neg (by omega)]⟩
        · refine z_bipush K dX5_readInside_202 (by decide +kernel) ?_
          refine z_goto (tgt := 208) K dX5_readInside_204 (by decide) ?_
          exact z_ireti K T rfl dX5_readInside_208 ⟨(by rw [hsw, zstep_6, if_pos (by omega)]), fun _ => by rw [hsw, zstep_6]; rw [hsw] at hR; exact zPR_67 hR _, fun q hq => by unfold zup; rw [if_neg (by omega)]⟩
      · refine z_tableOut (tgt := 209) K dX5_readInside_34 (by omega) hsw (by decide) ?_
        refine z_iload_n K dX5_readInside_209 rfl ?_
        refine z_iconst K dX5_readInside_210 ?_
        refine z_iconst K dX5_readInside_211 ?_
        refine z_callSd K hl1 hg1 (As := [.int (zi s), .int (zi (1 : Int)), .int (zi (3 : Int))]) (rest := []) (ct_isFigure la g0 ad μ s 1 3 hs ⟨by decide, by decide⟩ ⟨by decide, by decide⟩) (by decide) lk_X5_43 cd_X5_isFigure rfl rfl (Nat.le_of_ble_eq_true rfl) dX5_readInside_212 ?_
        refine z_ifne (tgt := 220) K dX5_readInside_215 (by decide) (by omega) (fun h215 => ?_) (fun h215 => ?_)
        · refine z_aload_n K dX5_readInside_220 rfl ?_
          refine z_get (k := 3) (v := .ref (ad 9)) K dX5_readInside_221 fl_X5_80 rfl rfl rfl ?_
          refine z_iload K dX5_readInside_224 rfl ?_
          refine z_iload_n K dX5_readInside_226 rfl ?_
          refine z_bipush K dX5_readInside_227 (by decide +kernel) ?_
          refine z_isub K dX5_readInside_229 ?_
          refine z_iast (k := 9) K dX5_readInside_230 p.2.1 rfl (by decide) (by omega) (by omega) ?_
          refine z_aload_n K dX5_readInside_231 rfl ?_
          refine z_dup K dX5_readInside_232 rfl ?_
          refine z_get (k := 3) (v := .int (zi (μ 3 1))) K dX5_readInside_233 fl_X5_50 rfl rfl rfl ?_
          refine z_iconst K dX5_readInside_236 ?_
          refine z_iadd K dX5_readInside_237 ?_
          refine z_puti (k := 3) K dX5_readInside_238 fp_X5_50 rfl rfl ?_
          refine z_iconst K dX5_readInside_241 ?_
          exact z_ireti K T rfl dX5_readInside_242 ⟨(by rw [show a = 7 by omega, zstep_7, if_pos (by omega)]), fun _ => by rw [show a = 7 by omega, zstep_7]; rw [show a = 7 by omega] at hR; exact zPR_72 hR _, fun q hq => by unfold zup; rw [if_neg (by omega), if_neg (by omega)]⟩
        · refine z_iconst K dX5_readInside_218 ?_
          exact z_ireti K T rfl dX5_readInside_219 ⟨(by rw [show a = 7 by omega, zstep_7, if_neg (by omega)]), fun h => absurd rfl h, fun _ _ => rfl⟩
    · refine z_goto (tgt := 31) K dX5_readInside_22 (by decide) ?_
      refine z_iconst K dX5_readInside_31 ?_
      exact z_ireti K T rfl dX5_readInside_32 (absurd (show False by omega) id)
set_option maxHeartbeats 4000000 in
set_option maxRecDepth 100000 in
theorem ct_readInto_d (la : Launch) (g0 : zG) (ad : Nat → Nat) (μ : zMem) (t : Nat) (ht : μ 1 1 = (t : Int)) (ht48 : t ≤ 48) (hy : ∀ i, i < t → 0 ≤ μ 2 i ∧ μ 2 i ≤ 255) : zCon la g0 yX5_readInto cX5_readInto 4 (some .int) 3 ad zSH [.ref (ad 1), .ref (ad 3)] μ (zPi (fun r ν => r = zfault (μ 2) t ∧ (r = -9 → zPR (ν 3) (ν 4) (ν 5) (ν 6) (ν 7) (ν 8) (ν 9) 2 ((zpre (μ 2) t).2)) ∧ ∀ q, (q < 3 ∨ 9 < q) → ν q = μ q)) := by
  refine zCon_of (by decide +kernel) (Nat.le_of_ble_eq_true rfl) ?_
  intro χ K T hl1 hg1
  have K : zOk χ cX5_readInto RX5 4 3 (some .int) := K
  show zV χ 4 ad zSH 0 0 0 [(0, .ref (ad 1)), (1, .ref (ad 3))] [] μ
  refine z_aload_n K dX5_readInto_0 rfl ?_
  refine z_callVm K hl1 hg1 (kb := 3) (As := []) (rest := []) (ct_plan_clear_d la g0 ad μ) (by decide) lk_X5_30 cd_X4_clear rfl rfl rfl rfl (Nat.le_of_ble_eq_true rfl) dX5_readInto_1 ?_
  refine z_iconst K dX5_readInto_4 ?_
  refine z_istore_n (lv' := [(0, .ref (ad 1)), (1, .ref (ad 3)), (2, .int (zi (0 : Int)))]) K dX5_readInto_5 (by decide) rfl ?_
  refine z_iconst K dX5_readInto_6 ?_
  refine z_istore_n (lv' := [(0, .ref (ad 1)), (1, .ref (ad 3)), (2, .int (zi (0 : Int))), (3, .int (zi (0 : Int)))]) K dX5_readInto_7 (by decide) rfl ?_
  have L8 : ∀ i, i ≤ t → ∀ ν : zMem, zPR (ν 3) (ν 4) (ν 5) (ν 6) (ν 7) (ν 8) (ν 9) ((zpre (μ 2) i).1) ((zpre (μ 2) i).2) ∧ (∀ q, (q < 3 ∨ 9 < q) → ν q = μ q) ∧ (∀ j, j ≤ i → ¬ (zpre (μ 2) j).1 = -1) ∧ zflt (μ 2) t (t - i) i = zfault (μ 2) t → zV χ 4 ad zSH 0 0 8 [(0, .ref (ad 1)), (1, .ref (ad 3)), (2, .int (zi ((zpre (μ 2) i).1))), (3, .int (zi ((i : Nat) : Int)))] [] ν := by
    refine zfor ?_
    intro i hi ih ν hI
    obtain ⟨hR, hfr, hok, hF⟩ := hI
    have hpv := zPV_pre (μ 2) i hok
    have hpv5 : 0 ≤ (zpre (μ 2) i).1 ∧ (zpre (μ 2) i).1 ≤ 7 := ⟨hpv.2.2.2.2.1, hpv.2.2.2.2.2.1⟩
    have e1 : ν 1 1 = (t : Int) := by rw [hfr 1 (by decide)]; exact ht
    refine z_iload_n K dX5_readInto_8 rfl ?_
    refine z_aload_n K dX5_readInto_9 rfl ?_
    refine z_get (k := 1) (v := .int (zi (ν 1 1))) K dX5_readInto_10 fl_X5_22 rfl rfl rfl ?_
    refine z_icmpge (tgt := 60) K dX5_readInto_13 (by decide) (by omega) (by omega) (fun h13 => ?_) (fun h13 => ?_)
    · refine z_iload_n K dX5_readInto_60 rfl ?_
      refine z_iconst K dX5_readInto_61 ?_
      refine z_icmpne (tgt := 70) K dX5_readInto_62 (by decide) (by omega) ⟨by decide, by decide⟩ (fun h62 => ?_) (fun h62 => ?_)
      · refine z_aload_n K dX5_readInto_70 rfl ?_
        refine z_get (k := 1) (v := .int (zi (ν 1 1))) K dX5_readInto_71 fl_X5_22 rfl rfl rfl ?_
        exact z_ireti K T rfl dX5_readInto_74 ⟨(by rw [← hF, show t - i = 0 by omega]; show _ = if _ then _ else _; rw [show t = i by omega, if_neg h62]; omega), fun h9 => absurd h9 (by omega), hfr⟩
      · refine z_bipush K dX5_readInto_65 (by decide +kernel) ?_
        refine z_goto (tgt := 74) K dX5_readInto_67 (by decide) ?_
        exact z_ireti K T rfl dX5_readInto_74 ⟨(by rw [← hF, show t - i = 0 by omega]; show _ = if _ then _ else _; rw [show t = i by omega, if_pos h62]), fun _ => by rw [show t = i by omega, ← h62]; exact hR, hfr⟩
    · have hyi := hy i (by omega)
      refine z_iload_n K dX5_readInto_16 rfl ?_
      refine z_iconst K dX5_readInto_17 ?_
      refine z_icmpgt (tgt := 35) K dX5_readInto_18 (by decide) (by omega) ⟨by decide, by decide⟩ (fun h18 => ?_) (fun h18 => ?_)
      · have e2m : ν 2 = μ 2 := hfr 2 (by decide)
        refine z_aload_n K dX5_readInto_35 rfl ?_
        refine z_iload_n K dX5_readInto_36 rfl ?_
        refine z_aload_n K dX5_readInto_37 rfl ?_
        refine z_get (k := 1) (v := .ref (ad 2)) K dX5_readInto_38 fl_X5_9 rfl rfl rfl ?_
        refine z_iload_n K dX5_readInto_41 rfl ?_
        refine z_iald (k := 2) (v := μ 2 i) K dX5_readInto_42 i rfl (by decide) (by omega) (by omega) (by rw [e2m]) ?_
        refine z_callSi K hl1 hg1 (As := [.ref (ad 3), .int (zi ((zpre (μ 2) i).1)), .int (zi (μ 2 i))]) (rest := []) (ct_readInside_d la g0 ad ν (zpre (μ 2) i).1 (zpre (μ 2) i).2 (μ 2 i) hyi hpv hR (by omega)) (by decide) lk_X5_37 cd_X5_readInside rfl rfl (Nat.le_of_ble_eq_true rfl) dX5_readInto_43 (fun r43 ν2 h43 => ?_)
        obtain ⟨hr43, hR2, hf2⟩ := h43
        have hst : r43 = (zpre (μ 2) (i + 1)).1 := by rw [zpre_s]; exact hr43
        have hR3 := fun h9 : ¬ r43 = -1 => hR2 h9
        subst hst
        refine z_istore_n (lv' := [(0, .ref (ad 1)), (1, .ref (ad 3)), (2, .int (zi ((zpre (μ 2) (i + 1)).1))), (3, .int (zi ((i : Nat) : Int)))]) K dX5_readInto_46 (by decide) rfl ?_
        have hrg9 : -1 ≤ (zpre (μ 2) (i + 1)).1 ∧ (zpre (μ 2) (i + 1)).1 ≤ 7 := by
          by_cases h9 : (zpre (μ 2) (i + 1)).1 = -1
          · omega
          · have := zPV_pre (μ 2) (i + 1) (fun j hj => by
              by_cases e9 : j = i + 1
              · rw [e9]; exact h9
              · exact hok j (by omega))
            exact ⟨by have := this.2.2.2.2.1; omega, this.2.2.2.2.2.1⟩
        refine z_iload_n K dX5_readInto_47 rfl ?_
        refine z_iconst K dX5_readInto_48 ?_
        refine z_icmpne (tgt := 54) K dX5_readInto_49 (by decide) (by omega) ⟨by decide, by decide⟩ (fun h49 => ?_) (fun h49 => ?_)
        · refine z_iincN (lv' := [(0, .ref (ad 1)), (1, .ref (ad 3)), (2, .int (zi ((zpre (μ 2) (i + 1)).1))), (3, .int (zi ((i + 1 : Nat) : Int)))]) K dX5_readInto_54 rfl (by decide) rfl ?_
          refine z_goto (tgt := 8) K dX5_readInto_57 (by decide) ?_
          exact ih (i + 1) (by omega) (by omega) _ ⟨by rw [zpre_s] at h49 hR3 ⊢; exact hR3 h49, fun q hq => by rw [hf2 q hq]; exact hfr q hq, fun j hj => by
            by_cases e9 : j = i + 1
            · rw [e9]; exact h49
            · exact hok j (by omega), by rw [show t - i = (t - (i + 1)) + 1 by omega, zflt_s, if_neg h49] at hF; exact hF⟩
        · refine z_iload_n K dX5_readInto_52 rfl ?_
          exact z_ireti K T rfl dX5_readInto_53 ⟨(by rw [← hF, show t - i = (t - (i + 1)) + 1 by omega, zflt_s, if_pos h49]), fun h9 => absurd h9 (by omega), fun q hq => by rw [hf2 q hq]; exact hfr q hq⟩
      · have e2m : ν 2 = μ 2 := hfr 2 (by decide)
        refine z_aload_n K dX5_readInto_21 rfl ?_
        refine z_iload_n K dX5_readInto_22 rfl ?_
        refine z_aload_n K dX5_readInto_23 rfl ?_
        refine z_get (k := 1) (v := .ref (ad 2)) K dX5_readInto_24 fl_X5_9 rfl rfl rfl ?_
        refine z_iload_n K dX5_readInto_27 rfl ?_
        refine z_iald (k := 2) (v := μ 2 i) K dX5_readInto_28 i rfl (by decide) (by omega) (by omega) (by rw [e2m]) ?_
        refine z_callSi K hl1 hg1 (As := [.ref (ad 3), .int (zi ((zpre (μ 2) i).1)), .int (zi (μ 2 i))]) (rest := []) (ct_readOutside_d la g0 ad ν (zpre (μ 2) i).1 (zpre (μ 2) i).2 (μ 2 i) hyi hpv hR (by omega)) (by decide) lk_X5_33 cd_X5_readOutside rfl rfl (Nat.le_of_ble_eq_true rfl) dX5_readInto_29 (fun r29 ν2 h29 => ?_)
        obtain ⟨hr29, hR2, hf2⟩ := h29
        have hst : r29 = (zpre (μ 2) (i + 1)).1 := by rw [zpre_s]; exact hr29
        have hR3 := fun h9 : ¬ r29 = -1 => hR2 h9
        subst hst
        refine z_goto (tgt := 46) K dX5_readInto_32 (by decide) ?_
        refine z_istore_n (lv' := [(0, .ref (ad 1)), (1, .ref (ad 3)), (2, .int (zi ((zpre (μ 2) (i + 1)).1))), (3, .int (zi ((i : Nat) : Int)))]) K dX5_readInto_46 (by decide) rfl ?_
        have hrg9 : -1 ≤ (zpre (μ 2) (i + 1)).1 ∧ (zpre (μ 2) (i + 1)).1 ≤ 7 := by
          by_cases h9 : (zpre (μ 2) (i + 1)).1 = -1
          · omega
          · have := zPV_pre (μ 2) (i + 1) (fun j hj => by
              by_cases e9 : j = i + 1
              · rw [e9]; exact h9
              · exact hok j (by omega))
            exact ⟨by have := this.2.2.2.2.1; omega, this.2.2.2.2.2.1⟩
        refine z_iload_n K dX5_readInto_47 rfl ?_
        refine z_iconst K dX5_readInto_48 ?_
        refine z_icmpne (tgt := 54) K dX5_readInto_49 (by decide) (by omega) ⟨by decide, by decide⟩ (fun h49 => ?_) (fun h49 => ?_)
        · refine z_iincN (lv' := [(0, .ref (ad 1)), (1, .ref (ad 3)), (2, .int (zi ((zpre (μ 2) (i + 1)).1))), (3, .int (zi ((i + 1 : Nat) : Int)))]) K dX5_readInto_54 rfl (by decide) rfl ?_
          refine z_goto (tgt := 8) K dX5_readInto_57 (by decide) ?_
          exact ih (i + 1) (by omega) (by omega) _ ⟨by rw [zpre_s] at h49 hR3 ⊢; exact hR3 h49, fun q hq => by rw [hf2 q hq]; exact hfr q hq, fun j hj => by
            by_cases e9 : j = i + 1
            · rw [e9]; exact h49
            · exact hok j (by omega), by rw [show t - i = (t - (i + 1)) + 1 by omega, zflt_s, if_neg h49] at hF; exact hF⟩
        · refine z_iload_n K dX5_readInto_52 rfl ?_
          exact z_ireti K T rfl dX5_readInto_53 ⟨(by rw [← hF, show t - i = (t - (i + 1)) + 1 by omega, zflt_s, if_pos h49]), fun h9 => absurd h9 (by omega), fun q hq => by rw [hf2 q hq]; exact hfr q hq⟩
  exact L8 0 (by omega) _ ⟨zPR_00 _ _ _ _ _ _ _ rfl rfl, fun q hq => by unfold zup; rw [if_neg (by omega)], fun j hj => by rw [show j = 0 by omega]; show ¬ (0 : Int) = -1; decide, rfl⟩
