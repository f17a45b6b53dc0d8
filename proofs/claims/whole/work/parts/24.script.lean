set_option maxHeartbeats 4000000 in
set_option maxRecDepth 100000 in
theorem ct_isFigure (la : Launch) (g0 : zG) (ad : Nat → Nat) (μ : zMem) (s u v : Int) (hs : 0 ≤ s ∧ s ≤ 255) (hu : 0 ≤ u ∧ u ≤ 9) (hvv : 0 ≤ v ∧ v ≤ 9) : zCon la g0 yX5_isFigure cX5_isFigure 3 (some .boolean) 0 ad zSH [.int (zi s), .int (zi u), .int (zi v)] μ (zPd μ (if 48 + u ≤ s ∧ s ≤ 48 + v then 1 else 0)) := by
  refine zCon_of (by decide +kernel) (Nat.le_of_ble_eq_true rfl) ?_
  intro χ K T hl1 hg1
  have K : zOk χ cX5_isFigure RX5 3 0 (some .boolean) := K
  show zV χ 3 ad zSH 0 0 0 [(0, .int (zi s)), (1, .int (zi u)), (2, .int (zi v))] [] μ
  refine z_iload_n K dX5_isFigure_0 rfl ?_
  refine z_bipush K dX5_isFigure_1 (by decide +kernel) ?_
  refine z_iload_n K dX5_isFigure_3 rfl ?_
  refine z_iadd K dX5_isFigure_4 ?_
  refine z_icmplt (tgt := 20) K dX5_isFigure_5 (by decide) (by omega) (by omega) (fun h5 => ?_) (fun h5 => ?_)
  · refine z_iconst K dX5_isFigure_20 ?_
    exact z_zretd K T rfl dX5_isFigure_21 (Or.inl rfl) (by omega) rfl
  · refine z_iload_n K dX5_isFigure_8 rfl ?_
    refine z_bipush K dX5_isFigure_9 (by decide +kernel) ?_
    refine z_iload_n K dX5_isFigure_11 rfl ?_
    refine z_iadd K dX5_isFigure_12 ?_
    refine z_icmpgt (tgt := 20) K dX5_isFigure_13 (by decide) (by omega) (by omega) (fun h13 => ?_) (fun h13 => ?_)
    · refine z_iconst K dX5_isFigure_20 ?_
      exact z_zretd K T rfl dX5_isFigure_21 (Or.inl rfl) (by omega) rfl
    · refine z_iconst K dX5_isFigure_16 ?_
      refine z_goto (tgt := 21) K dX5_isFigure_17 (by decide) ?_
      exact z_zretd K T rfl dX5_isFigure_21 (Or.inr rfl) (by omega) rfl
theorem zhi_le (h : Nat → Int) (x : Int) : ∀ n, zhi h x n ≤ n := by
  intro n
  induction n with
  | zero => exact Nat.le_refl _
  | succ n ih => rw [zhi_s]; split <;> omega
theorem zPR_00 (q h w k a o e : Nat → Int) (h0 : q 0 = 0) (h1 : q 1 = 0) : zPR q h w k a o e 0 zp0 :=
  ⟨h0, h1, fun h => absurd h (by decide), fun l hl => absurd hl (by show ¬ (l < 0 ∨ (l = 0 ∧ ((0 : Int) = 4 ∨ (0 : Int) = 5))); omega), fun l hl => absurd hl (by show ¬ (l < 0 ∨ (l = 0 ∧ (0 : Int) = 5)); omega), fun l hl => absurd hl (Nat.not_lt_zero l), fun l hl => absurd hl (by show ¬ (l < 0 ∨ (l = 0 ∧ (0 : Int) = 7)); omega), fun l hl => absurd hl (Nat.not_lt_zero l)⟩
set_option maxHeartbeats 4000000 in
set_option maxRecDepth 100000 in
theorem ct_plan_clear_d (la : Launch) (g0 : zG) (ad : Nat → Nat) (μ : zMem)  : zCon la g0 yX4_clear cX4_clear 1 none 0 ad zSH [.ref (ad 3)] μ (zPm (zup μ 3 (zu1 (zu1 (zu1 (μ 3) 0 0) 1 0) 2 0))) := by
  refine zCon_of (by decide +kernel) (Nat.le_of_ble_eq_true rfl) ?_
  intro χ K T hl1 hg1
  have K : zOk χ cX4_clear RX4 1 0 none := K
  show zV χ 1 ad zSH 0 0 0 [(0, .ref (ad 3))] [] μ
  refine z_aload_n K dX4_clear_0 rfl ?_
  refine z_iconst K dX4_clear_1 ?_
  refine z_puti (k := 3) K dX4_clear_2 fp_X4_30 rfl rfl ?_
  refine z_aload_n K dX4_clear_5 rfl ?_
  refine z_iconst K dX4_clear_6 ?_
  refine z_puti (k := 3) K dX4_clear_7 fp_X4_34 rfl rfl ?_
  refine z_aload_n K dX4_clear_10 rfl ?_
  refine z_iconst K dX4_clear_11 ?_
  refine z_puti (k := 3) K dX4_clear_12 fp_X4_37 rfl rfl ?_
  exact z_vretd K T rfl dX4_clear_15 (by rw [zup_same, zup_same]; rfl)
set_option maxHeartbeats 4000000 in
set_option maxRecDepth 100000 in
theorem ct_homesIn_d (la : Launch) (g0 : zG) (ad : Nat → Nat) (μ : zMem) (n : Nat) (hn : μ 3 0 = (n : Int)) (hn6 : n ≤ 6) (x : Int) (hx : zR x) (hh : ∀ l, l < n → zR (μ 4 l)) : zCon la g0 yX4_homesIn cX4_homesIn 4 (some .int) 0 ad zSH [.ref (ad 3), .int (zi x)] μ (zPd μ ((zhi (μ 4) x n : Nat) : Int)) := by
  refine zCon_of (by decide +kernel) (Nat.le_of_ble_eq_true rfl) ?_
  intro χ K T hl1 hg1
  have K : zOk χ cX4_homesIn RX4 4 0 (some .int) := K
  show zV χ 4 ad zSH 0 0 0 [(0, .ref (ad 3)), (1, .int (zi x))] [] μ
  refine z_iconst K dX4_homesIn_0 ?_
  refine z_istore_n (lv' := [(0, .ref (ad 3)), (1, .int (zi x)), (2, .int (zi (0 : Int)))]) K dX4_homesIn_1 (by decide) rfl ?_
  refine z_iconst K dX4_homesIn_2 ?_
  refine z_istore_n (lv' := [(0, .ref (ad 3)), (1, .int (zi x)), (2, .int (zi (0 : Int))), (3, .int (zi (0 : Int)))]) K dX4_homesIn_3 (by decide) rfl ?_
  have L4 : ∀ l, l ≤ n → zV χ 4 ad zSH 0 0 4 [(0, .ref (ad 3)), (1, .int (zi x)), (2, .int (zi ((zhi (μ 4) x l : Nat) : Int))), (3, .int (zi ((l : Nat) : Int)))] [] μ := by
    refine zfor ?_
    intro l hl ih
    refine z_iload_n K dX4_homesIn_4 rfl ?_
    refine z_aload_n K dX4_homesIn_5 rfl ?_
    refine z_get (k := 3) (v := .int (zi (μ 3 0))) K dX4_homesIn_6 fl_X4_30 rfl rfl rfl ?_
    refine z_icmpge (tgt := 31) K dX4_homesIn_9 (by decide) (by omega) (by omega) (fun h9 => ?_) (fun h9 => ?_)
    · refine z_iload_n K dX4_homesIn_31 rfl ?_
      exact z_iretd K T rfl dX4_homesIn_32 (by rw [show l = n by omega]) rfl
    · have hhl := hh l (by omega)
      refine z_aload_n K dX4_homesIn_12 rfl ?_
      refine z_get (k := 3) (v := .ref (ad 4)) K dX4_homesIn_13 fl_X4_9 rfl rfl rfl ?_
      refine z_iload_n K dX4_homesIn_16 rfl ?_
      refine z_iald (k := 4) (v := μ 4 l) K dX4_homesIn_17 l rfl (by decide) (by omega) (by omega) rfl ?_
      refine z_iload_n K dX4_homesIn_18 rfl ?_
      refine z_icmpne (tgt := 25) K dX4_homesIn_19 (by decide) (by omega) (by omega) (fun h19 => ?_) (fun h19 => ?_)
      · refine z_iincN (lv' := [(0, .ref (ad 3)), (1, .int (zi x)), (2, .int (zi ((zhi (μ 4) x l : Nat) : Int))), (3, .int (zi ((l + 1 : Nat) : Int)))]) K dX4_homesIn_25 rfl (by decide) rfl ?_
        refine z_goto (tgt := 4) K dX4_homesIn_28 (by decide) ?_
        have e9 : zhi (μ 4) x l = zhi (μ 4) x (l + 1) := by
          rw [zhi_s]
          rw [if_neg h19]
        rw [e9]
        exact ih (l + 1) (by omega) (by omega)
      · refine z_iincN (lv' := [(0, .ref (ad 3)), (1, .int (zi x)), (2, .int (zi (((zhi (μ 4) x l) + 1 : Nat) : Int))), (3, .int (zi ((l : Nat) : Int)))]) K dX4_homesIn_22 rfl (by decide) rfl ?_
        refine z_iincN (lv' := [(0, .ref (ad 3)), (1, .int (zi x)), (2, .int (zi (((zhi (μ 4) x l) + 1 : Nat) : Int))), (3, .int (zi ((l + 1 : Nat) : Int)))]) K dX4_homesIn_25 rfl (by decide) rfl ?_
        refine z_goto (tgt := 4) K dX4_homesIn_28 (by decide) ?_
        have e9 : (zhi (μ 4) x l) + 1 = zhi (μ 4) x (l + 1) := by
          rw [zhi_s]
          rw [if_pos h19]
        rw [e9]
        exact ih (l + 1) (by omega) (by omega)
  exact L4 0 (by omega)
set_option maxHeartbeats 4000000 in
set_option maxRecDepth 100000 in
theorem ct_readOutside_d (la : Launch) (g0 : zG) (ad : Nat → Nat) (μ : zMem) (a : Int) (p : zP8) (s : Int) (hs : 0 ≤ s ∧ s ≤ 255) (hV : zPV a p) (hR : zPR (μ 3) (μ 4) (μ 5) (μ 6) (μ 7) (μ 8) (μ 9) a p) (ha : a ≤ 2) : zCon la g0 yX5_readOutside cX5_readOutside 3 (some .int) 1 ad zSH [.ref (ad 3), .int (zi a), .int (zi s)] μ (zPi (fun r ν => r = (zstep a p s).1 ∧ (¬ r = -1 → zPR (ν 3) (ν 4) (ν 5) (ν 6) (ν 7) (ν 8) (ν 9) r ((zstep a p s).2)) ∧ ∀ q, (q < 3 ∨ 9 < q) → ν q = μ q)) := by
  refine zCon_of (by decide +kernel) (Nat.le_of_ble_eq_true rfl) ?_
  intro χ K T hl1 hg1
  have K : zOk χ cX5_readOutside RX5 3 1 (some .int) := K
  obtain ⟨e0, e1, e2, e3, e4, e5, e6, e7⟩ := id hR
  obtain ⟨v1, v2, v3, v4, v5, v6, v7, v8, v9, v10, v11, v12⟩ := id hV
  show zV χ 3 ad zSH 0 0 0 [(0, .ref (ad 3)), (1, .int (zi a)), (2, .int (zi s))] [] μ
  refine z_iload_n K dX5_readOutside_0 rfl ?_
  refine z_ifne (tgt := 16) K dX5_readOutside_1 (by decide) (by omega) (fun h1 => ?_) (fun h1 => ?_)
  · refine z_iload_n K dX5_readOutside_16 rfl ?_
    refine z_iconst K dX5_readOutside_17 ?_
    refine z_icmpne (tgt := 45) K dX5_readOutside_18 (by decide) (by omega) ⟨by decide, by decide⟩ (fun h18 => ?_) (fun h18 => ?_)
    · refine z_iload_n K dX5_readOutside_45 rfl ?_
      refine z_bipush K dX5_readOutside_46 (by decide +kernel) ?_
      refine z_icmpne (tgt := 62) K dX5_readOutside_48 (by decide) (by omega) ⟨by decide, by decide⟩ (fun h48 => ?_) (fun h48 => ?_)
      · refine z_iload_n K dX5_readOutside_62 rfl ?_
        refine z_bipush K dX5_readOutside_63 (by decide +kernel) ?_
        refine z_icmpne (tgt := 81) K dX5_readOutside_65 (by decide) (by omega) ⟨by decide, by decide⟩ (fun h65 => ?_) (fun h65 => ?_)
        · refine z_iconst K dX5_readOutside_81 ?_
          exact z_ireti K T rfl dX5_readOutside_82 ⟨(by rw [show a = 2 by omega, zstep_2, if_neg (by omega), if_neg (by omega)]), fun h => absurd rfl h, fun _ _ => rfl⟩
        · refine z_aload_n K dX5_readOutside_68 rfl ?_
          refine z_get (k := 3) (v := .int (zi (μ 3 1))) K dX5_readOutside_69 fl_X5_50 rfl rfl rfl ?_
          refine z_iconst K dX5_readOutside_72 ?_
          refine z_icmpge (tgt := 81) K dX5_readOutside_73 (by decide) (by omega) ⟨by decide, by decide⟩ (fun h73 => ?_) (fun h73 => ?_)
          · refine z_iconst K dX5_readOutside_81 ?_
            exact z_ireti K T rfl dX5_readOutside_82 ⟨(by rw [show a = 2 by omega, zstep_2, if_neg (by omega), if_neg (by omega)]), fun h => absurd rfl h, fun _ _ => rfl⟩
          · refine z_bipush K dX5_readOutside_76 (by decide +kernel) ?_
            refine z_goto (tgt := 82) K dX5_readOutside_78 (by decide) ?_
            exact z_ireti K T rfl dX5_readOutside_82 ⟨(by rw [show a = 2 by omega, zstep_2, if_neg (by omega), if_pos ⟨by omega, by omega⟩]), fun _ => by rw [show a = 2 by omega, zstep_2]; rw [show a = 2 by omega] at hR; exact zPR_26 hR, fun _ _ => rfl⟩
      · refine z_aload_n K dX5_readOutside_51 rfl ?_
        refine z_get (k := 3) (v := .int (zi (μ 3 0))) K dX5_readOutside_52 fl_X5_47 rfl rfl rfl ?_
        refine z_bipush K dX5_readOutside_55 (by decide +kernel) ?_
        refine z_icmpge (tgt := 62) K dX5_readOutside_57 (by decide) (by omega) ⟨by decide, by decide⟩ (fun h57 => ?_) (fun h57 => ?_)
        · refine z_iload_n K dX5_readOutside_62 rfl ?_
          refine z_bipush K dX5_readOutside_63 (by decide +kernel) ?_
          refine z_icmpne (tgt := 81) K dX5_readOutside_65 (by decide) (by omega) ⟨by decide, by decide⟩ (fun h65 => ?_) (fun h65 => ?_)
          · refine z_iconst K dX5_readOutside_81 ?_
            exact z_ireti K T rfl dX5_readOutside_82 ⟨(by rw [show a = 2 by omega, zstep_2, if_neg (by omega), if_neg (by omega)]), fun h => absurd rfl h, fun _ _ => rfl⟩
          · refine z_aload_n K dX5_readOutside_68 rfl ?_
            refine z_get (k := 3) (v := .int (zi (μ 3 1))) K dX5_readOutside_69 fl_X5_50 rfl rfl rfl ?_
            refine z_iconst K dX5_readOutside_72 ?_
            refine z_icmpge (tgt := 81) K dX5_readOutside_73 (by decide) (by omega) ⟨by decide, by decide⟩ (fun h73 => ?_) (fun h73 => ?_)
            · refine z_iconst K dX5_readOutside_81 ?_
              exact z_ireti K T rfl dX5_readOutside_82 ⟨(by rw [show a = 2 by omega, zstep_2, if_neg (by omega), if_neg (by omega)]), fun h => absurd rfl h, fun _ _ => rfl⟩
            · refine z_bipush K dX5_readOutside_76 (by decide +kernel) ?_
              refine z_goto (tgt := 82) K dX5_readOutside_78 (by decide) ?_
              exact z_ireti K T rfl dX5_readOutside_82 ⟨(by rw [show a = 2 by omega, zstep_2, if_neg (by omega), if_pos ⟨by omega, by omega⟩]), fun _ => by rw [show a = 2 by omega, zstep_2]; rw [show a = 2 by omega] at hR; exact zPR_26 hR, fun _ _ => rfl⟩
        · refine z_iconst K dX5_readOutside_60 ?_
          exact z_ireti K T rfl dX5_readOutside_61 ⟨(by rw [show a = 2 by omega, zstep_2, if_pos ⟨by omega, by omega⟩]), fun _ => by rw [show a = 2 by omega, zstep_2]; rw [show a = 2 by omega] at hR; exact zPR_23 hR, fun _ _ => rfl⟩
    · refine z_aload_n K dX5_readOutside_21 rfl ?_
      refine z_iload_n K dX5_readOutside_22 rfl ?_
      refine z_bipush K dX5_readOutside_23 (by decide +kernel) ?_
      refine z_isub K dX5_readOutside_25 ?_
      refine z_puti (k := 3) K dX5_readOutside_26 fp_X5_40 rfl rfl ?_
      refine z_iload_n K dX5_readOutside_29 rfl ?_
      refine z_iconst K dX5_readOutside_30 ?_
      refine z_bipush K dX5_readOutside_31 (by decide +kernel) ?_
      refine z_callSd K hl1 hg1 (As := [.int (zi s), .int (zi (0 : Int)), .int (zi (9 : Int))]) (rest := []) (ct_isFigure la g0 ad (zup μ 3 (zu1 (μ 3) 2 (s - (48 : Int)))) s 0 9 hs ⟨by decide, by decide⟩ ⟨by decide, by decide⟩) (by decide) lk_X5_43 cd_X5_isFigure rfl rfl (Nat.le_of_ble_eq_true rfl) dX5_readOutside_33 ?_
      refine z_ifeq (tgt := 43) K dX5_readOutside_36 (by decide) (by omega) (fun h36 => ?_) (fun h36 => ?_)
      · refine z_iconst K dX5_readOutside_43 ?_
        exact z_ireti K T rfl dX5_readOutside_44 ⟨(by rw [h18, zstep_1, if_neg (by omega)]), fun h => absurd rfl h, fun q hq => by unfold zup; rw [if_neg (by omega)]⟩
      · refine z_iconst K dX5_readOutside_39 ?_
        refine z_goto (tgt := 44) K dX5_readOutside_40 (by decide) ?_
        exact z_ireti K T rfl dX5_readOutside_44 ⟨(by rw [h18, zstep_1, if_pos (by omega)]), fun _ => by rw [h18, zstep_1]; rw [h18] at hR; exact zPR_12 hR _, fun q hq => by unfold zup; rw [if_neg (by omega)]⟩
  · refine z_iload_n K dX5_readOutside_4 rfl ?_
    refine z_bipush K dX5_readOutside_5 (by decide +kernel) ?_
    refine z_icmpne (tgt := 14) K dX5_readOutside_7 (by decide) (by omega) ⟨by decide, by decide⟩ (fun h7 => ?_) (fun h7 => ?_)
    · refine z_iconst K dX5_readOutside_14 ?_
      exact z_ireti K T rfl dX5_readOutside_15 ⟨(by rw [h1, zstep_0, if_neg h7]), fun h => absurd rfl h, fun _ _ => rfl⟩
    · refine z_iconst K dX5_readOutside_10 ?_
      refine z_goto (tgt := 15) K dX5_readOutside_11 (by decide) ?_
      exact z_ireti K T rfl dX5_readOutside_15 ⟨(by rw [h1, zstep_0, if_pos h7]), fun _ => by rw [h1, zstep_0]; rw [h1] at hR; exact zPR_01 hR, fun _ _ => rfl⟩
set_option maxHeartbeats 4000000 in
set_option maxRecDepth 100000 in
theorem ct_readInside_d (la : Launch) (g0 : zG) (ad : Nat → Nat) (μ : zMem) (a : Int) (p : zP8) (s : Int) (hs : 0 ≤ s ∧ s ≤ 255) (hV : zPV a p) (hR : zPR (μ 3) (μ 4) (μ 5) (μ 6) (μ 7) (μ 8) (μ 9) a p) (ha : 3 ≤ a) : zCon la g0 yX5_readInside cX5_readInside 5 (some .int) 2 ad zSH [.ref (ad 3), .int (zi a), .int (zi s)] μ (zPi (fun r ν => r = (zstep a p s).1 ∧ (¬ r = -1 → zPR (ν 3) (ν 4) (ν 5) (ν 6) (ν 7) (ν 8) (ν 9) r ((zstep a p s).2)) ∧ ∀ q, (q < 3 ∨ 9 < q) → ν q = μ q)) := by
  refine zCon_of (by decide +kernel) (Nat.le_of_ble_eq_true rfl) ?_
  intro χ K T hl1 hg1
  have K : zOk χ cX5_readInside RX5 5 2 (some .int) := K
  obtain ⟨e0, e1, e2, e3, e4, e5, e6, e7⟩ := id hR
  obtain ⟨v1, v2, v3, v4, v5, v6, v7, v8, v9, v10, v11, v12⟩ := id hV
  show zV χ 5 ad zSH 0 0 0 [(0, .ref (ad 3)), (1, .int (zi a)), (2, .int (zi s))] [] μ
  refine z_aload_n K dX5_readInside_0 rfl ?_
  refine z_get (k := 3) (v := .int (zi (μ 3 0))) K dX5_readInside_1 fl_X5_47 rfl rfl rfl ?_
  refine z_istore_n (lv' := [(0, .ref (ad 3)), (1, .int (zi a)), (2, .int (zi s)), (3, .int (zi (μ 3 0)))]) K dX5_readInside_4 (by decide) rfl ?_
  refine z_aload_n K dX5_readInside_5 rfl ?_
  refine z_get (k := 3) (v := .int (zi (μ 3 1))) K dX5_readInside_6 fl_X5_50 rfl rfl rfl ?_
  refine z_istore (lv' := [(0, .ref (ad 3)), (1, .int (zi a)), (2, .int (zi s)), (3, .int (zi (μ 3 0))), (4, .int (zi (μ 3 1)))]) K dX5_readInside_9 (by decide) rfl ?_
  refine z_iload_n K dX5_readInside_11 rfl ?_
  refine z_iconst K dX5_readInside_12 ?_
  refine z_icmpgt (tgt := 25) K dX5_readInside_13 (by decide) (by omega) ⟨by decide, by decide⟩ (fun h13 => ?_) (fun h13 => ?_)
  · refine z_iload K dX5_readInside_25 rfl ?_
    refine z_iconst K dX5_readInside_27 ?_
    refine z_icmplt (tgt := 33) K dX5_readInside_28 (by decide) (by omega) ⟨by decide, by decide⟩ (fun h28 => ?_) (fun h28 => ?_)
    · refine z_iload_n K dX5_readInside_33 rfl ?_
      rcases (show a = 3 ∨ a = 4 ∨ a = 5 ∨ a = 6 ∨ (a < 3 ∨ 6 < a) by omega) with hsw | hsw | hsw | hsw | hsw
      · refine z_tableIn (off := 30) (tgt := 64) K dX5_readInside_34 (by omega) (by omega) (by omega) (by rw [hsw]; rfl) (by decide) ?_
        refine z_aload_n K dX5_readInside_64 rfl ?_
        refine z_get (k := 3) (v := .ref (ad 4)) K dX5_readInside_65 fl_X5_53 rfl rfl rfl ?_
        refine z_iload_n K dX5_readInside_68 rfl ?_
        refine z_iload_n K dX5_readInside_69 rfl ?_
        refine z_bipush K dX5_readInside_70 (by decide +kernel) ?_
        refine z_isub K dX5_readInside_72 ?_
        refine z_iast (k := 4) K dX5_readInside_73 p.1 rfl (by decide) (by omega) (by omega) ?_
        refine z_iload_n K dX5_readInside_74 rfl ?_
        refine z_bipush K dX5_readInside_75 (by decide +kernel) ?_
        refine z_isub K dX5_readInside_77 ?_
        refine z_callSd K hl1 hg1 (As := [.int (zi (s - (97 : Int)))]) (rest := []) (ct_isHole la g0 ad (zup μ 4 (zu1 (μ 4) p.1 (s - (97 : Int)))) (s - 97) ⟨by omega, by omega⟩) (by decide) lk_X5_56 cd_X8_isHole rfl rfl (Nat.le_of_ble_eq_true rfl) dX5_readInside_78 ?_
        refine z_ifeq (tgt := 100) K dX5_readInside_81 (by decide) (by omega) (fun h81 => ?_) (fun h81 => ?_)
        · refine z_iconst K dX5_readInside_100 ?_
          exact z_ireti K T rfl dX5_readInside_101 ⟨(by rw [hsw, zstep_3, if_neg (by omega)]), fun h => absurd rfl h, fun q hq => by unfold zup; rw [if_neg (by omega)]⟩
        · refine z_aload_n K dX5_readInside_84 rfl ?_
          refine z_iload_n K dX5_readInside_85 rfl ?_
          refine z_bipush K dX5_readInside_86 (by decide +kernel) ?_
          refine z_isub K dX5_readInside_88 ?_
          have hzz : zhi (zu1 (μ 4) p.1 (s - 97)) (s - 97) p.1 = zhi p.2.2.2.1 (s - 97) p.1 := zhi_cg _ _ (fun l hl => by rw [zu1_ne _ _ (by omega)]; exact e3 l (Or.inl hl))
          refine z_callVd K hl1 hg1 (kb := 3) (As := [.int (zi (s - (97 : Int)))]) (rest := []) (ct_homesIn_d la g0 ad (zup μ 4 (zu1 (μ 4) p.1 (s - (97 : Int)))) p.1 e0 v1 (s - 97) ⟨by omega, by omega⟩ (fun l hl => by show zR (zu1 (μ 4) p.1 (s - 97) l); rw [zu1_ne _ _ (by omega), e3 l (Or.inl hl)]; have := v8 l (Or.inl hl); omega)) (by decide) lk_X5_60 cd_X4_homesIn rfl rfl rfl rfl (Nat.le_of_ble_eq_true rfl) dX5_readInside_89 ?_
          show zV χ 5 ad zSH 0 0 92 [(0, .ref (ad 3)), (1, .int (zi a)), (2, .int (zi s)), (3, .int (zi (μ 3 0))), (4, .int (zi (μ 3 1)))] [.int (zi ((zhi (zu1 (μ 4) p.1 (s - 97)) (s - 97) p.1 : Nat) : Int))] (zup μ 4 (zu1 (μ 4) p.1 (s - (97 : Int))))
          have hzc : zhi (zu1 (μ 4) p.1 (s - 97)) (s - 97) p.1 ≤ 6 := Nat.le_trans (zhi_le _ _ _) v1
          refine z_iconst K dX5_readInside_92 ?_
          refine z_icmpge (tgt := 100) K dX5_readInside_93 (by decide) (by omega) ⟨by decide, by decide⟩ (fun h93 => ?_) (fun h93 => ?_)
          · refine z_iconst K dX5_readInside_100 ?_
            exact z_ireti K T rfl dX5_readInside_101 ⟨(by rw [hsw, zstep_3, if_neg (by omega)]), fun h => absurd rfl h, fun q hq => by unfold zup; rw [if_neg (by omega)]⟩
          · refine z_iconst K dX5_readInside_96 ?_
            refine z_goto (tgt := 101) K dX5_readInside_97 (by decide) ?_
            exact z_ireti K T rfl dX5_readInside_101 ⟨(by rw [hsw, zstep_3, if_pos ⟨by omega, by omega⟩]), fun _ => by rw [hsw, zstep_3]; rw [hsw] at hR; exact zPR_34 hR _, fun q hq => by unfold zup; rw [if_neg (by omega)]⟩
      · refine z_tableIn (off := 68) (tgt := 102) K dX5_readInside_34 (by omega) (by omega) (by omega) (by rw [hsw]; rfl) (by decide) ?_
        refine z_aload_n K dX5_readInside_102 rfl ?_
        refine z_get (k := 3) (v := .ref (ad 5)) K dX5_readInside_103 fl_X5_64 rfl rfl rfl ?_
        refine z_iload_n K dX5_readInside_106 rfl ?_
        refine z_iload_n K dX5_readInside_107 rfl ?_
        refine z_bipush K dX5_readInside_108 (by decide +kernel) ?_
        refine z_isub K dX5_readInside_110 ?_
        refine z_iast (k := 5) K dX5_readInside_111 p.1 rfl (by decide) (by omega) (by omega) ?_
        refine z_iload_n K dX5_readInside_112 rfl ?_
        refine z_iconst K dX5_readInside_113 ?_
        refine z_bipush K dX5_readInside_114 (by decide +kernel) ?_
        refine z_callSd K hl1 hg1 (As := [.int (zi s), .int (zi (1 : Int)), .int (zi (9 : Int))]) (rest := []) (ct_isFigure la g0 ad (zup μ 5 (zu1 (μ 5) p.1 (s - (48 : Int)))) s 1 9 hs ⟨by decide, by decide⟩ ⟨by decide, by decide⟩) (by decide) lk_X5_43 cd_X5_isFigure rfl rfl (Nat.le_of_ble_eq_true rfl) dX5_readInside_116 ?_
        refine z_ifeq (tgt := 126) K dX5_readInside_119 (by decide) (by omega) (fun h119 => ?_) (fun h119 => ?_)
        · refine z_iconst K dX5_readInside_126 ?_
          exact z_ireti K T rfl dX5_readInside_127 ⟨(by rw [hsw, zstep_4, if_neg (by omega)]), fun h => absurd rfl h, fun q hq => by unfold zup; rw [if_neg (by omega)]⟩
        · refine z_iconst K dX5_readInside_122 ?_
          refine z_goto (tgt := 127) K dX5_readInside_123 (by decide) ?_
          exact z_ireti K T rfl dX5_readInside_127 ⟨(by rw [hsw, zstep_4, if_pos (by omega)]), fun _ => by rw [hsw, zstep_4]; rw [hsw] at hR; exact zPR_45 hR _, fun q hq => by unfold zup; rw [if_neg (by omega)]⟩
      · refine z_tableIn (off := 94) (tgt := 128) K dX5_readInside_34 (by omega) (by omega) (by omega) (by rw [hsw]; rfl) (by decide) ?_
        refine z_iload_n K dX5_readInside_128 rfl ?_
        refine z_iconst K dX5_readInside_129 ?_
        refine z_iconst K dX5_readInside_130 ?_
        refine z_callSd K hl1 hg1 (As := [.int (zi s), .int (zi (0 : Int)), .int (zi (3 : Int))]) (rest := []) (ct_isFigure la g0 ad μ s 0 3 hs ⟨by decide, by decide⟩ ⟨by decide, by decide⟩) (by decide) lk_X5_43 cd_X5_isFigure rfl rfl (Nat.le_of_ble_eq_true rfl) dX5_readInside_131 ?_
        refine z_ifne (tgt := 139) K dX5_readInside_134 (by decide) (by omega) (fun h134 => ?_) (fun h134 => ?_)
        · refine z_aload_n K dX5_readInside_139 rfl ?_
          refine z_get (k := 3) (v := .ref (ad 6)) K dX5_readInside_140 fl_X5_67 rfl rfl rfl ?_
          refine z_iload_n K dX5_readInside_143 rfl ?_
          refine z_iload_n K dX5_readInside_144 rfl ?_
          refine z_bipush K dX5_readInside_145 (by decide +kernel) ?_
          refine z_isub K dX5_readInside_147 ?_
          refine z_iast (k := 6) K dX5_readInside_148 p.1 rfl (by decide) (by omega) (by omega) ?_
          refine z_aload_n K dX5_readInside_149 rfl ?_
          refine z_get (k := 3) (v := .ref (ad 7)) K dX5_readInside_150 fl_X5_70 rfl rfl rfl ?_
          refine z_iload_n K dX5_readInside_153 rfl ?_
          refine z_aload_n K dX5_readInside_154 rfl ?_
          refine z_get (k := 3) (v := .ref (ad 5)) K dX5_readInside_155 fl_X5_64 rfl rfl rfl ?_
          refine z_iload_n K dX5_readInside_158 rfl ?_
          refine z_iald (k := 5) (v := μ 5 p.1) K dX5_readInside_159 p.1 rfl (by decide) (by omega) (by omega) rfl ?_
          refine z_aload_n K dX5_readInside_160 rfl ?_
          refine z_get (k := 3) (v := .ref (ad 6)) K dX5_readInside_161 fl_X5_67 rfl rfl rfl ?_
          refine z_iload_n K dX5_readInside_164 rfl ?_
          refine z_iald (k := 6) (v := s - (48 : Int)) K dX5_readInside_165 p.1 rfl (by decide) (by omega) (by omega) (zu1_eq _ _ _) ?_
          have hw9 := v9 p.1 (by omega)
          refine z_callSd K hl1 hg1 (As := [.int (zi (μ 5 p.1)), .int (zi (s - (48 : Int)))]) (rest := [.int (zi (μ 3 0)), .ref (ad 7)]) (ct_waitAlone la g0 ad (zup μ 6 (zu1 (μ 6) p.1 (s - (48 : Int)))) (μ 5 p.1) (s - 48) (by rw [e4 p.1 (by omega)]; omega) (by omega)) (by decide) lk_X5_73 cd_X8_waitAlone rfl rfl (Nat.le_of_ble_eq_true rfl) dX5_readInside_166 ?_
          refine z_iast (k := 7) K dX5_readInside_169 p.1 rfl (by decide) (by omega) (by omega) ?_
          refine z_aload_n K dX5_readInside_170 rfl ?_
          refine z_dup K dX5_readInside_171 rfl ?_
          refine z_get (k := 3) (v := .int (zi (μ 3 0))) K dX5_readInside_172 fl_X5_47 rfl rfl rfl ?_
          refine z_iconst K dX5_readInside_175 ?_
          refine z_iadd K dX5_readInside_176 ?_
          refine z_puti (k := 3) K dX5_readInside_177 fp_X5_47 rfl rfl ?_
          refine z_iconst K dX5_readInside_180 ?_
          exact z_ireti K T rfl dX5_readInside_181 ⟨(by rw [hsw, zstep_5, if_pos (by omega)]), fun _ => by rw [hsw, zstep_5]; rw [hsw] at hR; exact zPR_52 hR _, fun q hq => by unfold zup; rw [if_neg (by omega), if_neg (by omega), if_neg (by omega)]⟩
        · refine z_iconst K dX5_readInside_137 ?_
          exact z_ireti K T rfl dX5_readInside_138 ⟨(by rw [hsw, zstep_5, if_neg (by omega)]), fun h => absurd rfl h, fun _ _ => rfl⟩
      · refine z_tableIn (off := 148) (tgt := 182) K dX5_readInside_34 (by omega) (by omega) (by omega) (by rw [hsw]; rfl) (by decide) ?_
        refine z_aload_n K dX5_readInside_182 rfl ?_
        refine z_get (k := 3) (v := .ref (ad 8)) K dX5_readInside_183 fl_X5_77 rfl rfl rfl ?_
        refine z_iload K dX5_readInside_186 rfl ?_
        refine z_iload_n K dX5_readInside_188 rfl ?_
        refine z_bipush K dX5_readInside_189 (by decide +kernel) ?_
        refine z_isub K dX5_readInside_191 ?_
        refine z_iast (k := 8) K dX5_readInside_192 p.2.1 rfl (by decide) (by omega) (by omega) ?_
        refine z_iload_n K dX5_readInside_193 rfl ?_
        refine z_iconst K dX5_readInside_194 ?_
        refine z_iconst K dX5_readInside_195 ?_
        refine z_callSd K hl1 hg1 (As := [.int (zi s), .int (zi (0 : Int)), .int (zi (2 : Int))]) (rest := []) (ct_isFigure la g0 ad (zup μ 8 (zu1 (μ 8) p.2.1 (s - (48 : Int)))) s 0 2 hs ⟨by decide, by decide⟩ ⟨by decide, by decide⟩) (by decide) lk_X5_43 cd_X5_isFigure rfl rfl (Nat.le_of_ble_eq_true rfl) dX5_readInside_196 ?_
        refine z_ifeq (tgt := 207) K dX5_readInside_199 (by decide) (by omega) (fun h199 => ?_) (fun h199 => ?_)
        · refine z_iconst K dX5_readInside_207 ?_
          exact z_ireti K T rfl dX5_readInside_208 ⟨(by rw [hsw, zstep_6, if_neg (by omega)]), fun h => absurd rfl h, fun q hq => by unfold zup; rw [if_neg (by omega)]⟩
        · refine z_bipush K dX5_readInside_202 (by decide +kernel) ?_
          refine z_goto (tgt := 208) K dX5_readInside_204 (by decide) ?_
          exact z_ireti K T rfl dX5_readInside_208 ⟨(by rw [hsw, zstep_6, if_pos (by omega)]), fun _ => by rw [hsw, zstep_6]; rw [hsw] at hR; exact zPR_67 hR _, fun q hq => by unfold zup; rw [if_neg (by omega)]⟩
      · refine z_tableOut (tgt := 209) K dX5_readInside_34 (by omega) hsw (by decide) ?_
        refine z_iload_n K dX5_readInside_209 rfl ?_
        refine z_iconst K dX5_readInside_210 ?_
        refine z_iconst K dX5_readInside_211 ?_
        refine z_callSd K hl1 hg1 (As := [.int (zi s), .int (zi (1 : Int)), .int (zi (3 : Int))]) (rest := []) (ct_isFigure la g0 ad μ s 1 3 hs ⟨by decide, by decide⟩ ⟨by decide, by decide⟩) (by decide) lk_X5_43 cd_X5_isFigure rfl rfl (Nat.le_of_ble_eq_true rfl) dX5_readInside_212 ?_
        refine z_ifne (tgt := 220) K dX5_readInside_215 (by decide) (by omega) (fun h215 => ?_) (fun h215 => ?_)
        · refine z_aload_n K dX5_readInside_220 rfl ?_
          refine z_get (k := 3) (v := .ref (ad 9)) K dX5_readInside_221 fl_X5_80 rfl rfl rfl ?_
          refine z_iload K dX5_readInside_224 rfl ?_
          refine z_iload_n K dX5_readInside_226 rfl ?_
          refine z_bipush K dX5_readInside_227 (by decide +kernel) ?_
          refine z_isub K dX5_readInside_229 ?_
          refine z_iast (k := 9) K dX5_readInside_230 p.2.1 rfl (by decide) (by omega) (by omega) ?_
          refine z_aload_n K dX5_readInside_231 rfl ?_
          refine z_dup K dX5_readInside_232 rfl ?_
          refine z_get (k := 3) (v := .int (zi (μ 3 1))) K dX5_readInside_233 fl_X5_50 rfl rfl rfl ?_
          refine z_iconst K dX5_readInside_236 ?_
          refine z_iadd K dX5_readInside_237 ?_
          refine z_puti (k := 3) K dX5_readInside_238 fp_X5_50 rfl rfl ?_
          refine z_iconst K dX5_readInside_241 ?_
          exact z_ireti K T rfl dX5_readInside_242 ⟨(by rw [show a = 7 by omega, zstep_7, if_pos (by omega)]), fun _ => by rw [show a = 7 by omega, zstep_7]; rw [show a = 7 by omega] at hR; exact zPR_72 hR _, fun q hq => by unfold zup; rw [if_neg (by omega), if_neg (by omega)]⟩
        · refine z_iconst K dX5_readInside_218 ?_
          exact z_ireti K T rfl dX5_readInside_219 ⟨(by rw [show a = 7 by omega, zstep_7, if_neg (by omega)]), fun h => absurd rfl h, fun _ _ => rfl⟩
    · refine z_iconst K dX5_readInside_31 ?_
      exact z_ireti K T rfl dX5_readInside_32 (absurd (show False by omega) id)
  · refine z_iload_n K dX5_readInside_16 rfl ?_
    refine z_bipush K dX5_readInside_17 (by decide +kernel) ?_
    refine z_icmplt (tgt := 33) K dX5_readInside_19 (by decide) (by omega) ⟨by decide, by decide⟩ (fun h19 => ?_) (fun h19 => ?_)
    · refine z_iload_n K dX5_readInside_33 rfl ?_
      rcases (show a = 3 ∨ a = 4 ∨ a = 5 ∨ a = 6 ∨ (a < 3 ∨ 6 < a) by omega) with hsw | hsw | hsw | hsw | hsw
      · refine z_tableIn (off := 30) (tgt := 64) K dX5_readInside_34 (by omega) (by omega) (by omega) (by rw [hsw]; rfl) (by decide) ?_
        refine z_aload_n K dX5_readInside_64 rfl ?_
        refine z_get (k := 3) (v := .ref (ad 4)) K dX5_readInside_65 fl_X5_53 rfl rfl rfl ?_
        refine z_iload_n K dX5_readInside_68 rfl ?_
        refine z_iload_n K dX5_readInside_69 rfl ?_
        refine z_bipush K dX5_readInside_70 (by decide +kernel) ?_
        refine z_isub K dX5_readInside_72 ?_
        refine z_iast (k := 4) K dX5_readInside_73 p.1 rfl (by decide) (by omega) (by omega) ?_
        refine z_iload_n K dX5_readInside_74 rfl ?_
        refine z_bipush K dX5_readInside_75 (by decide +kernel) ?_
        refine z_isub K dX5_readInside_77 ?_
        refine z_callSd K hl1 hg1 (As := [.int (zi (s - (97 : Int)))]) (rest := []) (ct_isHole la g0 ad (zup μ 4 (zu1 (μ 4) p.1 (s - (97 : Int)))) (s - 97) ⟨by omega, by omega⟩) (by decide) lk_X5_56 cd_X8_isHole rfl rfl (Nat.le_of_ble_eq_true rfl) dX5_readInside_78 ?_
        refine z_ifeq (tgt := 100) K dX5_readInside_81 (by decide) (by omega) (fun h81 => ?_) (fun h81 => ?_)
        · refine z_iconst K dX5_readInside_100 ?_
          exact z_ireti K T rfl dX5_readInside_101 ⟨(by rw [hsw, zstep_3, if_neg (by omega)]), fun h => absurd rfl h, fun q hq => by unfold zup; rw [if_neg (by omega)]⟩
        · refine z_aload_n K dX5_readInside_84 rfl ?_
          refine z_iload_n K dX5_readInside_85 rfl ?_
          refine z_bipush K dX5_readInside_86 (by decide +kernel) ?_
          refine z_isub K dX5_readInside_88 ?_
          have hzz : zhi (zu1 (μ 4) p.1 (s - 97)) (s - 97) p.1 = zhi p.2.2.2.1 (s - 97) p.1 := zhi_cg _ _ (fun l hl => by rw [zu1_ne _ _ (by omega)]; exact e3 l (Or.inl hl))
          refine z_callVd K hl1 hg1 (kb := 3) (As := [.int (zi (s - (97 : Int)))]) (rest := []) (ct_homesIn_d la g0 ad (zup μ 4 (zu1 (μ 4) p.1 (s - (97 : Int)))) p.1 e0 v1 (s - 97) ⟨by omega, by omega⟩ (fun l hl => by show zR (zu1 (μ 4) p.1 (s - 97) l); rw [zu1_ne _ _ (by omega), e3 l (Or.inl hl)]; have := v8 l (Or.inl hl); omega)) (by decide) lk_X5_60 cd_X4_homesIn rfl rfl rfl rfl (Nat.le_of_ble_eq_true rfl) dX5_readInside_89 ?_
          show zV χ 5 ad zSH 0 0 92 [(0, .ref (ad 3)), (1, .int (zi a)), (2, .int (zi s)), (3, .int (zi (μ 3 0))), (4, .int (zi (μ 3 1)))] [.int (zi ((zhi (zu1 (μ 4) p.1 (s - 97)) (s - 97) p.1 : Nat) : Int))] (zup μ 4 (zu1 (μ 4) p.1 (s - (97 : Int))))
          have hzc : zhi (zu1 (μ 4) p.1 (s - 97)) (s - 97) p.1 ≤ 6 := Nat.le_trans (zhi_le _ _ _) v1
          refine z_iconst K dX5_readInside_92 ?_
          refine z_icmpge (tgt := 100) K dX5_readInside_93 (by decide) (by omega) ⟨by decide, by decide⟩ (fun h93 => ?_) (fun h93 => ?_)
          · refine z_iconst K dX5_readInside_100 ?_
            exact z_ireti K T rfl dX5_readInside_101 ⟨(by rw [hsw, zstep_3, if_neg (by omega)]), fun h => absurd rfl h, fun q hq => by unfold zup; rw [if_neg (by omega)]⟩
          · refine z_iconst K dX5_readInside_96 ?_
            refine z_goto (tgt := 101) K dX5_readInside_97 (by decide) ?_
            exact z_ireti K T rfl dX5_readInside_101 ⟨(by rw [hsw, zstep_3, if_pos ⟨by omega, by omega⟩]), fun _ => by rw [hsw, zstep_3]; rw [hsw] at hR; exact zPR_34 hR _, fun q hq => by unfold zup; rw [if_neg (by omega)]⟩
      · refine z_tableIn (off := 68) (tgt := 102) K dX5_readInside_34 (by omega) (by omega) (by omega) (by rw [hsw]; rfl) (by decide) ?_
        refine z_aload_n K dX5_readInside_102 rfl ?_
        refine z_get (k := 3) (v := .ref (ad 5)) K dX5_readInside_103 fl_X5_64 rfl rfl rfl ?_
        refine z_iload_n K dX5_readInside_106 rfl ?_
        refine z_iload_n K dX5_readInside_107 rfl ?_
        refine z_bipush K dX5_readInside_108 (by decide +kernel) ?_
        refine z_isub K dX5_readInside_110 ?_
        refine z_iast (k := 5) K dX5_readInside_111 p.1 rfl (by decide) (by omega) (by omega) ?_
        refine z_iload_n K dX5_readInside_112 rfl ?_
        refine z_iconst K dX5_readInside_113 ?_
        refine z_bipush K dX5_readInside_114 (by decide +kernel) ?_
        refine z_callSd K hl1 hg1 (As := [.int (zi s), .int (zi (1 : Int)), .int (zi (9 : Int))]) (rest := []) (ct_isFigure la g0 ad (zup μ 5 (zu1 (μ 5) p.1 (s - (48 : Int)))) s 1 9 hs ⟨by decide, by decide⟩ ⟨by decide, by decide⟩) (by decide) lk_X5_43 cd_X5_isFigure rfl rfl (Nat.le_of_ble_eq_true rfl) dX5_readInside_116 ?_
        refine z_ifeq (tgt := 126) K dX5_readInside_119 (by decide) (by omega) (fun h119 => ?_) (fun h119 => ?_)
        · refine z_iconst K dX5_readInside_126 ?_
          exact z_ireti K T rfl dX5_readInside_127 ⟨(by rw [hsw, zstep_4, if_neg (by omega)]), fun h => absurd rfl h, fun q hq => by unfold zup; rw [if_neg (by omega)]⟩
        · refine z_iconst K dX5_readInside_122 ?_
          refine z_goto (tgt := 127) K dX5_readInside_123 (by decide) ?_
          exact z_ireti K T rfl dX5_readInside_127 ⟨(by rw [hsw, zstep_4, if_pos (by omega)]), fun _ => by rw [hsw, zstep_4]; rw [hsw] at hR; exact zPR_45 hR _, fun q hq => by unfold zup; rw [if_neg (by omega)]⟩
      · refine z_tableIn (off := 94) (tgt := 128) K dX5_readInside_34 (by omega) (by omega) (by omega) (by rw [hsw]; rfl) (by decide) ?_
        refine z_iload_n K dX5_readInside_128 rfl ?_
        refine z_iconst K dX5_readInside_129 ?_
        refine z_iconst K dX5_readInside_130 ?_
        refine z_callSd K hl1 hg1 (As := [.int (zi s), .int (zi (0 : Int)), .int (zi (3 : Int))]) (rest := []) (ct_isFigure la g0 ad μ s 0 3 hs ⟨by decide, by decide⟩ ⟨by decide, by decide⟩) (by decide) lk_X5_43 cd_X5_isFigure rfl rfl (Nat.le_of_ble_eq_true rfl) dX5_readInside_131 ?_
        refine z_ifne (tgt := 139) K dX5_readInside_134 (by decide) (by omega) (fun h134 => ?_) (fun h134 => ?_)
        · refine z_aload_n K dX5_readInside_139 rfl ?_
          refine z_get (k := 3) (v := .ref (ad 6)) K dX5_readInside_140 fl_X5_67 rfl rfl rfl ?_
          refine z_iload_n K dX5_readInside_143 rfl ?_
          refine z_iload_n K dX5_readInside_144 rfl ?_
          refine z_bipush K dX5_readInside_145 (by decide +kernel) ?_
          refine z_isub K dX5_readInside_147 ?_
          refine z_iast (k := 6) K dX5_readInside_148 p.1 rfl (by decide) (by omega) (by omega) ?_
          refine z_aload_n K dX5_readInside_149 rfl ?_
          refine z_get (k := 3) (v := .ref (ad 7)) K dX5_readInside_150 fl_X5_70 rfl rfl rfl ?_
          refine z_iload_n K dX5_readInside_153 rfl ?_
          refine z_aload_n K dX5_readInside_154 rfl ?_
          refine z_get (k := 3) (v := .ref (ad 5)) K dX5_readInside_155 fl_X5_64 rfl rfl rfl ?_
          refine z_iload_n K dX5_readInside_158 rfl ?_
          refine z_iald (k := 5) (v := μ 5 p.1) K dX5_readInside_159 p.1 rfl (by decide) (by omega) (by omega) rfl ?_
          refine z_aload_n K dX5_readInside_160 rfl ?_
          refine z_get (k := 3) (v := .ref (ad 6)) K dX5_readInside_161 fl_X5_67 rfl rfl rfl ?_
          refine z_iload_n K dX5_readInside_164 rfl ?_
          refine z_iald (k := 6) (v := s - (48 : Int)) K dX5_readInside_165 p.1 rfl (by decide) (by omega) (by omega) (zu1_eq _ _ _) ?_
          have hw9 := v9 p.1 (by omega)
          refine z_callSd K hl1 hg1 (As := [.int (zi (μ 5 p.1)), .int (zi (s - (48 : Int)))]) (rest := [.int (zi (μ 3 0)), .ref (ad 7)]) (ct_waitAlone la g0 ad (zup μ 6 (zu1 (μ 6) p.1 (s - (48 : Int)))) (μ 5 p.1) (s - 48) (by rw [e4 p.1 (by omega)]; omega) (by omega)) (by decide) lk_X5_73 cd_X8_waitAlone rfl rfl (Nat.le_of_ble_eq_true rfl) dX5_readInside_166 ?_
          refine z_iast (k := 7) K dX5_readInside_169 p.1 rfl (by decide) (by omega) (by omega) ?_
          refine z_aload_n K dX5_readInside_170 rfl ?_
          refine z_dup K dX5_readInside_171 rfl ?_
          refine z_get (k := 3) (v := .int (zi (μ 3 0))) K dX5_readInside_172 fl_X5_47 rfl rfl rfl ?_
          refine z_iconst K dX5_readInside_175 ?_
          refine z_iadd K dX5_readInside_176 ?_
          refine z_puti (k := 3) K dX5_readInside_177 fp_X5_47 rfl rfl ?_
          refine z_iconst K dX5_readInside_180 ?_
          exact z_ireti K T rfl dX5_readInside_181 ⟨(by rw [hsw, zstep_5, if_pos (by omega)]), fun _ => by rw [hsw, zstep_5]; rw [hsw] at hR; exact zPR_52 hR _, fun q hq => by unfold zup; rw [if_neg (by omega), if_neg (by omega), if_neg (by omega)]⟩
        · refine z_iconst K dX5_readInside_137 ?_
          exact z_ireti K T rfl dX5_readInside_138 ⟨(by rw [hsw, zstep_5, if_neg (by omega)]), fun h => absurd rfl h, fun _ _ => rfl⟩
      · refine z_tableIn (off := 148) (tgt := 182) K dX5_readInside_34 (by omega) (by omega) (by omega) (by rw [hsw]; rfl) (by decide) ?_
        refine z_aload_n K dX5_readInside_182 rfl ?_
        refine z_get (k := 3) (v := .ref (ad 8)) K dX5_readInside_183 fl_X5_77 rfl rfl rfl ?_
        refine z_iload K dX5_readInside_186 rfl ?_
        refine z_iload_n K dX5_readInside_188 rfl ?_
        refine z_bipush K dX5_readInside_189 (by decide +kernel) ?_
        refine z_isub K dX5_readInside_191 ?_
        refine z_iast (k := 8) K dX5_readInside_192 p.2.1 rfl (by decide) (by omega) (by omega) ?_
        refine z_iload_n K dX5_readInside_193 rfl ?_
        refine z_iconst K dX5_readInside_194 ?_
        refine z_iconst K dX5_readInside_195 ?_
        refine z_callSd K hl1 hg1 (As := [.int (zi s), .int (zi (0 : Int)), .int (zi (2 : Int))]) (rest := []) (ct_isFigure la g0 ad (zup μ 8 (zu1 (μ 8) p.2.1 (s - (48 : Int)))) s 0 2 hs ⟨by decide, by decide⟩ ⟨by decide, by decide⟩) (by decide) lk_X5_43 cd_X5_isFigure rfl rfl (Nat.le_of_ble_eq_true rfl) dX5_readInside_196 ?_
        refine z_ifeq (tgt := 207) K dX5_readInside_199 (by decide) (by omega) (fun h199 => ?_) (fun h199 => ?_)
        · refine z_iconst K dX5_readInside_207 ?_
          exact z_ireti K T rfl dX5_readInside_208 ⟨(by rw [hsw, zstep_6, if_neg (by omega)]), fun h => absurd rfl h, fun q hq => by unfold zup; rw [if_neg (by omega)]⟩
        · refine z_bipush K dX5_readInside_202 (by decide +kernel) ?_
          refine z_goto (tgt := 208) K dX5_readInside_204 (by decide) ?_
          exact z_ireti K T rfl dX5_readInside_208 ⟨(by rw [hsw, zstep_6, if_pos (by omega)]), fun _ => by rw [hsw, zstep_6]; rw [hsw] at hR; exact zPR_67 hR _, fun q hq => by unfold zup; rw [if_neg (by omega)]⟩
      · refine z_tableOut (tgt := 209) K dX5_readInside_34 (by omega) hsw (by decide) ?_
        refine z_iload_n K dX5_readInside_209 rfl ?_
        refine z_iconst K dX5_readInside_210 ?_
        refine z_iconst K dX5_readInside_211 ?_
        refine z_callSd K hl1 hg1 (As := [.int (zi s), .int (zi (1 : Int)), .int (zi (3 : Int))]) (rest := []) (ct_isFigure la g0 ad μ s 1 3 hs ⟨by decide, by decide⟩ ⟨by decide, by decide⟩) (by decide) lk_X5_43 cd_X5_isFigure rfl rfl (Nat.le_of_ble_eq_true rfl) dX5_readInside_212 ?_
        refine z_ifne (tgt := 220) K dX5_readInside_215 (by decide) (by omega) (fun h215 => ?_) (fun h215 => ?_)
        · refine z_aload_n K dX5_readInside_220 rfl ?_
          refine z_get (k := 3) (v := .ref (ad 9)) K dX5_readInside_221 fl_X5_80 rfl rfl rfl ?_
          refine z_iload K dX5_readInside_224 rfl ?_
          refine z_iload_n K dX5_readInside_226 rfl ?_
          refine z_bipush K dX5_readInside_227 (by decide +kernel) ?_
          refine z_isub K dX5_readInside_229 ?_
          refine z_iast (k := 9) K dX5_readInside_230 p.2.1 rfl (by decide) (by omega) (by omega) ?_
          refine z_aload_n K dX5_readInside_231 rfl ?_
          refine z_dup K dX5_readInside_232 rfl ?_
          refine z_get (k := 3) (v := .int (zi (μ 3 1))) K dX5_readInside_233 fl_X5_50 rfl rfl rfl ?_
          refine z_iconst K dX5_readInside_236 ?_
          refine z_iadd K dX5_readInside_237 ?_
          refine z_puti (k := 3) K dX5_readInside_238 fp_X5_50 rfl rfl ?_
          refine z_iconst K dX5_readInside_241 ?_
          exact z_ireti K T rfl dX5_readInside_242 ⟨(by rw [show a = 7 by omega, zstep_7, if_pos (by omega)]), fun _ => by rw [show a = 7 by omega, zstep_7]; rw [show a = 7 by omega] at hR; exact zPR_72 hR _, fun q hq => by unfold zup; rw [if_neg (by omega), if_neg (by omega)]⟩
        · refine z_iconst K dX5_readInside_218 ?_
          exact z_ireti K T rfl dX5_readInside_219 ⟨(by rw [show a = 7 by omega, zstep_7, if_neg (by omega)]), fun h => absurd rfl h, fun _ _ => rfl⟩
    · refine z_goto (tgt := 31) K dX5_readInside_22 (by decide) ?_
      refine z_iconst K dX5_readInside_31 ?_
      exact z_ireti K T rfl dX5_readInside_32 (absurd (show False by omega) id)
set_option maxHeartbeats 4000000 in
set_option maxRecDepth 100000 in
theorem ct_readInto_d (la : Launch) (g0 : zG) (ad : Nat → Nat) (μ : zMem) (t : Nat) (ht : μ 1 1 = (t : Int)) (ht48 : t ≤ 48) (hy : ∀ i, i < t → 0 ≤ μ 2 i ∧ μ 2 i ≤ 255) : zCon la g0 yX5_readInto cX5_readInto 4 (some .int) 3 ad zSH [.ref (ad 1), .ref (ad 3)] μ (zPi (fun r ν => r = zfault (μ 2) t ∧ (r = -9 → zPR (ν 3) (ν 4) (ν 5) (ν 6) (ν 7) (ν 8) (ν 9) 2 ((zpre (μ 2) t).2)) ∧ ∀ q, (q < 3 ∨ 9 < q) → ν q = μ q)) := by
  refine zCon_of (by decide +kernel) (Nat.le_of_ble_eq_true rfl) ?_
  intro χ K T hl1 hg1
  have K : zOk χ cX5_readInto RX5 4 3 (some .int) := K
  show zV χ 4 ad zSH 0 0 0 [(0, .ref (ad 1)), (1, .ref (ad 3))] [] μ
  refine z_aload_n K dX5_readInto_0 rfl ?_
  refine z_callVm K hl1 hg1 (kb := 3) (As := []) (rest := []) (ct_plan_clear_d la g0 ad μ) (by decide) lk_X5_30 cd_X4_clear rfl rfl rfl rfl (Nat.le_of_ble_eq_true rfl) dX5_readInto_1 ?_
  refine z_iconst K dX5_readInto_4 ?_
  refine z_istore_n (lv' := [(0, .ref (ad 1)), (1, .ref (ad 3)), (2, .int (zi (0 : Int)))]) K dX5_readInto_5 (by decide) rfl ?_
  refine z_iconst K dX5_readInto_6 ?_
  refine z_istore_n (lv' := [(0, .ref (ad 1)), (1, .ref (ad 3)), (2, .int (zi (0 : Int))), (3, .int (zi (0 : Int)))]) K dX5_readInto_7 (by decide) rfl ?_
  have L8 : ∀ i, i ≤ t → ∀ ν : zMem, zPR (ν 3) (ν 4) (ν 5) (ν 6) (ν 7) (ν 8) (ν 9) ((zpre (μ 2) i).1) ((zpre (μ 2) i).2) ∧ (∀ q, (q < 3 ∨ 9 < q) → ν q = μ q) ∧ (∀ j, j ≤ i → ¬ (zpre (μ 2) j).1 = -1) ∧ zflt (μ 2) t (t - i) i = zfault (μ 2) t → zV χ 4 ad zSH 0 0 8 [(0, .ref (ad 1)), (1, .ref (ad 3)), (2, .int (zi ((zpre (μ 2) i).1))), (3, .int (zi ((i : Nat) : Int)))] [] ν := by
    refine zfor ?_
    intro i hi ih ν hI
    obtain ⟨hR, hfr, hok, hF⟩ := hI
    have hpv := zPV_pre (μ 2) i hok
    have hpv5 : 0 ≤ (zpre (μ 2) i).1 ∧ (zpre (μ 2) i).1 ≤ 7 := ⟨hpv.2.2.2.2.1, hpv.2.2.2.2.2.1⟩
    have e1 : ν 1 1 = (t : Int) := by rw [hfr 1 (by decide)]; exact ht
    refine z_iload_n K dX5_readInto_8 rfl ?_
    refine z_aload_n K dX5_readInto_9 rfl ?_
    refine z_get (k := 1) (v := .int (zi (ν 1 1))) K dX5_readInto_10 fl_X5_22 rfl rfl rfl ?_
    refine z_icmpge (tgt := 60) K dX5_readInto_13 (by decide) (by omega) (by omega) (fun h13 => ?_) (fun h13 => ?_)
    · refine z_iload_n K dX5_readInto_60 rfl ?_
      refine z_iconst K dX5_readInto_61 ?_
      refine z_icmpne (tgt := 70) K dX5_readInto_62 (by decide) (by omega) ⟨by decide, by decide⟩ (fun h62 => ?_) (fun h62 => ?_)
      · refine z_aload_n K dX5_readInto_70 rfl ?_
        refine z_get (k := 1) (v := .int (zi (ν 1 1))) K dX5_readInto_71 fl_X5_22 rfl rfl rfl ?_
        exact z_ireti K T rfl dX5_readInto_74 ⟨(by rw [← hF, show t - i = 0 by omega]; show _ = if _ then _ else _; rw [show t = i by omega, if_neg h62]; omega), fun h9 => absurd h9 (by omega), hfr⟩
      · refine z_bipush K dX5_readInto_65 (by decide +kernel) ?_
        refine z_goto (tgt := 74) K dX5_readInto_67 (by decide) ?_
        exact z_ireti K T rfl dX5_readInto_74 ⟨(by rw [← hF, show t - i = 0 by omega]; show _ = if _ then _ else _; rw [show t = i by omega, if_pos h62]), fun _ => by rw [show t = i by omega, ← h62]; exact hR, hfr⟩
    · have hyi := hy i (by omega)
      refine z_iload_n K dX5_readInto_16 rfl ?_
      refine z_iconst K dX5_readInto_17 ?_
      refine z_icmpgt (tgt := 35) K dX5_readInto_18 (by decide) (by omega) ⟨by decide, by decide⟩ (fun h18 => ?_) (fun h18 => ?_)
      · have e2m : ν 2 = μ 2 := hfr 2 (by decide)
        refine z_aload_n K dX5_readInto_35 rfl ?_
        refine z_iload_n K dX5_readInto_36 rfl ?_
        refine z_aload_n K dX5_readInto_37 rfl ?_
        refine z_get (k := 1) (v := .ref (ad 2)) K dX5_readInto_38 fl_X5_9 rfl rfl rfl ?_
        refine z_iload_n K dX5_readInto_41 rfl ?_
        refine z_iald (k := 2) (v := μ 2 i) K dX5_readInto_42 i rfl (by decide) (by omega) (by omega) (by rw [e2m]) ?_
        refine z_callSi K hl1 hg1 (As := [.ref (ad 3), .int (zi ((zpre (μ 2) i).1)), .int (zi (μ 2 i))]) (rest := []) (ct_readInside_d la g0 ad ν (zpre (μ 2) i).1 (zpre (μ 2) i).2 (μ 2 i) hyi hpv hR (by omega)) (by decide) lk_X5_37 cd_X5_readInside rfl rfl (Nat.le_of_ble_eq_true rfl) dX5_readInto_43 (fun r43 ν2 h43 => ?_)
        obtain ⟨hr43, hR2, hf2⟩ := h43
        have hst : r43 = (zpre (μ 2) (i + 1)).1 := by rw [zpre_s]; exact hr43
        have hR3 := fun h9 : ¬ r43 = -1 => hR2 h9
        subst hst
        refine z_istore_n (lv' := [(0, .ref (ad 1)), (1, .ref (ad 3)), (2, .int (zi ((zpre (μ 2) (i + 1)).1))), (3, .int (zi ((i : Nat) : Int)))]) K dX5_readInto_46 (by decide) rfl ?_
        have hrg9 : -1 ≤ (zpre (μ 2) (i + 1)).1 ∧ (zpre (μ 2) (i + 1)).1 ≤ 7 := by
          by_cases h9 : (zpre (μ 2) (i + 1)).1 = -1
          · omega
          · have := zPV_pre (μ 2) (i + 1) (fun j hj => by
              by_cases e9 : j = i + 1
              · rw [e9]; exact h9
              · exact hok j (by omega))
            exact ⟨by have := this.2.2.2.2.1; omega, this.2.2.2.2.2.1⟩
        refine z_iload_n K dX5_readInto_47 rfl ?_
        refine z_iconst K dX5_readInto_48 ?_
        refine z_icmpne (tgt := 54) K dX5_readInto_49 (by decide) (by omega) ⟨by decide, by decide⟩ (fun h49 => ?_) (fun h49 => ?_)
        · refine z_iincN (lv' := [(0, .ref (ad 1)), (1, .ref (ad 3)), (2, .int (zi ((zpre (μ 2) (i + 1)).1))), (3, .int (zi ((i + 1 : Nat) : Int)))]) K dX5_readInto_54 rfl (by decide) rfl ?_
          refine z_goto (tgt := 8) K dX5_readInto_57 (by decide) ?_
          exact ih (i + 1) (by omega) (by omega) _ ⟨by rw [zpre_s] at h49 hR3 ⊢; exact hR3 h49, fun q hq => by rw [hf2 q hq]; exact hfr q hq, fun j hj => by
            by_cases e9 : j = i + 1
            · rw [e9]; exact h49
            · exact hok j (by omega), by rw [show t - i = (t - (i + 1)) + 1 by omega, zflt_s, if_neg h49] at hF; exact hF⟩
        · refine z_iload_n K dX5_readInto_52 rfl ?_
          exact z_ireti K T rfl dX5_readInto_53 ⟨(by rw [← hF, show t - i = (t - (i + 1)) + 1 by omega, zflt_s, if_pos h49]), fun h9 => absurd h9 (by omega), fun q hq => by rw [hf2 q hq]; exact hfr q hq⟩
      · have e2m : ν 2 = μ 2 := hfr 2 (by decide)
        refine z_aload_n K dX5_readInto_21 rfl ?_
        refine z_iload_n K dX5_readInto_22 rfl ?_
        refine z_aload_n K dX5_readInto_23 rfl ?_
        refine z_get (k := 1) (v := .ref (ad 2)) K dX5_readInto_24 fl_X5_9 rfl rfl rfl ?_
        refine z_iload_n K dX5_readInto_27 rfl ?_
        refine z_iald (k := 2) (v := μ 2 i) K dX5_readInto_28 i rfl (by decide) (by omega) (by omega) (by rw [e2m]) ?_
        refine z_callSi K hl1 hg1 (As := [.ref (ad 3), .int (zi ((zpre (μ 2) i).1)), .int (zi (μ 2 i))]) (rest := []) (ct_readOutside_d la g0 ad ν (zpre (μ 2) i).1 (zpre (μ 2) i).2 (μ 2 i) hyi hpv hR (by omega)) (by decide) lk_X5_33 cd_X5_readOutside rfl rfl (Nat.le_of_ble_eq_true rfl) dX5_readInto_29 (fun r29 ν2 h29 => ?_)
        obtain ⟨hr29, hR2, hf2⟩ := h29
        have hst : r29 = (zpre (μ 2) (i + 1)).1 := by rw [zpre_s]; exact hr29
        have hR3 := fun h9 : ¬ r29 = -1 => hR2 h9
        subst hst
        refine z_goto (tgt := 46) K dX5_readInto_32 (by decide) ?_
        refine z_istore_n (lv' := [(0, .ref (ad 1)), (1, .ref (ad 3)), (2, .int (zi ((zpre (μ 2) (i + 1)).1))), (3, .int (zi ((i : Nat) : Int)))]) K dX5_readInto_46 (by decide) rfl ?_
        have hrg9 : -1 ≤ (zpre (μ 2) (i + 1)).1 ∧ (zpre (μ 2) (i + 1)).1 ≤ 7 := by
          by_cases h9 : (zpre (μ 2) (i + 1)).1 = -1
          · omega
          · have := zPV_pre (μ 2) (i + 1) (fun j hj => by
              by_cases e9 : j = i + 1
              · rw [e9]; exact h9
              · exact hok j (by omega))
            exact ⟨by have := this.2.2.2.2.1; omega, this.2.2.2.2.2.1⟩
        refine z_iload_n K dX5_readInto_47 rfl ?_
        refine z_iconst K dX5_readInto_48 ?_
        refine z_icmpne (tgt := 54) K dX5_readInto_49 (by decide) (by omega) ⟨by decide, by decide⟩ (fun h49 => ?_) (fun h49 => ?_)
        · refine z_iincN (lv' := [(0, .ref (ad 1)), (1, .ref (ad 3)), (2, .int (zi ((zpre (μ 2) (i + 1)).1))), (3, .int (zi ((i + 1 : Nat) : Int)))]) K dX5_readInto_54 rfl (by decide) rfl ?_
          refine z_goto (tgt := 8) K dX5_readInto_57 (by decide) ?_
          exact ih (i + 1) (by omega) (by omega) _ ⟨by rw [zpre_s] at h49 hR3 ⊢; exact hR3 h49, fun q hq => by rw [hf2 q hq]; exact hfr q hq, fun j hj => by
            by_cases e9 : j = i + 1
            · rw [e9]; exact h49
            · exact hok j (by omega), by rw [show t - i = (t - (i + 1)) + 1 by omega, zflt_s, if_neg h49] at hF; exact hF⟩
        · refine z_iload_n K dX5_readInto_52 rfl ?_
          exact z_ireti K T rfl dX5_readInto_53 ⟨(by rw [← hF, show t - i = (t - (i + 1)) + 1 by omega, zflt_s, if_pos h49]), fun h9 => absurd h9 (by omega), fun q hq => by rw [hf2 q hq]; exact hfr q hq⟩
  exact L8 0 (by omega) _ ⟨zPR_00 _ _ _ _ _ _ _ rfl rfl, fun q hq => by unfold zup; rw [if_neg (by omega)], fun j hj => by rw [show j = 0 by omega]; show ¬ (0 : Int) = -1; decide, rfl⟩
set_option maxHeartbeats 4000000 in
set_option maxRecDepth 100000 in
theorem ct_plan_clear_p (la : Launch) (g0 : zG) (ad : Nat → Nat) (μ : zMem)  : zCon la g0 yX4_clear cX4_clear 1 none 0 ad zSH [.ref (ad 10)] μ (zPm (zup μ 10 (zu1 (zu1 (zu1 (μ 10) 0 0) 1 0) 2 0))) := by
  refine zCon_of (by decide +kernel) (Nat.le_of_ble_eq_true rfl) ?_
  intro χ K T hl1 hg1
  have K : zOk χ cX4_clear RX4 1 0 none := K
  show zV χ 1 ad zSH 0 0 0 [(0, .ref (ad 10))] [] μ
  refine z_aload_n K dX4_clear_0 rfl ?_
  refine z_iconst K dX4_clear_1 ?_
  refine z_puti (k := 10) K dX4_clear_2 fp_X4_30 rfl rfl ?_
  refine z_aload_n K dX4_clear_5 rfl ?_
  refine z_iconst K dX4_clear_6 ?_
  refine z_puti (k := 10) K dX4_clear_7 fp_X4_34 rfl rfl ?_
  refine z_aload_n K dX4_clear_10 rfl ?_
  refine z_iconst K dX4_clear_11 ?_
  refine z_puti (k := 10) K dX4_clear_12 fp_X4_37 rfl rfl ?_
  exact z_vretd K T rfl dX4_clear_15 (by rw [zup_same, zup_same]; rfl)
set_option maxHeartbeats 4000000 in
set_option maxRecDepth 100000 in
theorem ct_homesIn_p (la : Launch) (g0 : zG) (ad : Nat → Nat) (μ : zMem) (n : Nat) (hn : μ 10 0 = (n : Int)) (hn6 : n ≤ 6) (x : Int) (hx : zR x) (hh : ∀ l, l < n → zR (μ 11 l)) : zCon la g0 yX4_homesIn cX4_homesIn 4 (some .int) 0 ad zSH [.ref (ad 10), .int (zi x)] μ (zPd μ ((zhi (μ 11) x n : Nat) : Int)) := by
  refine zCon_of (by decide +kernel) (Nat.le_of_ble_eq_true rfl) ?_
  intro χ K T hl1 hg1
  have K : zOk χ cX4_homesIn RX4 4 0 (some .int) := K
  show zV χ 4 ad zSH 0 0 0 [(0, .ref (ad 10)), (1, .int (zi x))] [] μ
  refine z_iconst K dX4_homesIn_0 ?_
  refine z_istore_n (lv' := [(0, .ref (ad 10)), (1, .int (zi x)), (2, .int (zi (0 : Int)))]) K dX4_homesIn_1 (by decide) rfl ?_
  refine z_iconst K dX4_homesIn_2 ?_
  refine z_istore_n (lv' := [(0, .ref (ad 10)), (1, .int (zi x)), (2, .int (zi (0 : Int))), (3, .int (zi (0 : Int)))]) K dX4_homesIn_3 (by decide) rfl ?_
  have L4 : ∀ l, l ≤ n → zV χ 4 ad zSH 0 0 4 [(0, .ref (ad 10)), (1, .int (zi x)), (2, .int (zi ((zhi (μ 11) x l : Nat) : Int))), (3, .int (zi ((l : Nat) : Int)))] [] μ := by
    refine zfor ?_
    intro l hl ih
    refine z_iload_n K dX4_homesIn_4 rfl ?_
    refine z_aload_n K dX4_homesIn_5 rfl ?_
    refine z_get (k := 10) (v := .int (zi (μ 10 0))) K dX4_homesIn_6 fl_X4_30 rfl rfl rfl ?_
    refine z_icmpge (tgt := 31) K dX4_homesIn_9 (by decide) (by omega) (by omega) (fun h9 => ?_) (fun h9 => ?_)
    · refine z_iload_n K dX4_homesIn_31 rfl ?_
      exact z_iretd K T rfl dX4_homesIn_32 (by rw [show l = n by omega]) rfl
    · have hhl := hh l (by omega)
      refine z_aload_n K dX4_homesIn_12 rfl ?_
      refine z_get (k := 10) (v := .ref (ad 11)) K dX4_homesIn_13 fl_X4_9 rfl rfl rfl ?_
      refine z_iload_n K dX4_homesIn_16 rfl ?_
      refine z_iald (k := 11) (v := μ 11 l) K dX4_homesIn_17 l rfl (by decide) (by omega) (by omega) rfl ?_
      refine z_iload_n K dX4_homesIn_18 rfl ?_
      refine z_icmpne (tgt := 25) K dX4_homesIn_19 (by decide) (by omega) (by omega) (fun h19 => ?_) (fun h19 => ?_)
      · refine z_iincN (lv' := [(0, .ref (ad 10)), (1, .int (zi x)), (2, .int (zi ((zhi (μ 11) x l : Nat) : Int))), (3, .int (zi ((l + 1 : Nat) : Int)))]) K dX4_homesIn_25 rfl (by decide) rfl ?_
        refine z_goto (tgt := 4) K dX4_homesIn_28 (by decide) ?_
        have e9 : zhi (μ 11) x l = zhi (μ 11) x (l + 1) := by
          rw [zhi_s]
          rw [if_neg h19]
        rw [e9]
        exact ih (l + 1) (by omega) (by omega)
      · refine z_iincN (lv' := [(0, .ref (ad 10)), (1, .int (zi x)), (2, .int (zi (((zhi (μ 11) x l) + 1 : Nat) : Int))), (3, .int (zi ((l : Nat) : Int)))]) K dX4_homesIn_22 rfl (by decide) rfl ?_
        refine z_iincN (lv' := [(0, .ref (ad 10)), (1, .int (zi x)), (2, .int (zi (((zhi (μ 11) x l) + 1 : Nat) : Int))), (3, .int (zi ((l + 1 : Nat) : Int)))]) K dX4_homesIn_25 rfl (by decide) rfl ?_
        refine z_goto (tgt := 4) K dX4_homesIn_28 (by decide) ?_
        have e9 : (zhi (μ 11) x l) + 1 = zhi (μ 11) x (l + 1) := by
          rw [zhi_s]
          rw [if_pos h19]
        rw [e9]
        exact ih (l + 1) (by omega) (by omega)
  exact L4 0 (by omega)
set_option maxHeartbeats 4000000 in
set_option maxRecDepth 100000 in
theorem ct_readOutside_p (la : Launch) (g0 : zG) (ad : Nat → Nat) (μ : zMem) (a : Int) (p : zP8) (s : Int) (hs : 0 ≤ s ∧ s ≤ 255) (hV : zPV a p) (hR : zPR (μ 10) (μ 11) (μ 12) (μ 13) (μ 14) (μ 15) (μ 16) a p) (ha : a ≤ 2) : zCon la g0 yX5_readOutside cX5_readOutside 3 (some .int) 1 ad zSH [.ref (ad 10), .int (zi a), .int (zi s)] μ (zPi (fun r ν => r = (zstep a p s).1 ∧ (¬ r = -1 → zPR (ν 10) (ν 11) (ν 12) (ν 13) (ν 14) (ν 15) (ν 16) r ((zstep a p s).2)) ∧ ∀ q, (q < 10 ∨ 16 < q) → ν q = μ q)) := by
  refine zCon_of (by decide +kernel) (Nat.le_of_ble_eq_true rfl) ?_
  intro χ K T hl1 hg1
  have K : zOk χ cX5_readOutside RX5 3 1 (some .int) := K
  obtain ⟨e0, e1, e2, e3, e4, e5, e6, e7⟩ := id hR
  obtain ⟨v1, v2, v3, v4, v5, v6, v7, v8, v9, v10, v11, v12⟩ := id hV
  show zV χ 3 ad zSH 0 0 0 [(0, .ref (ad 10)), (1, .int (zi a)), (2, .int (zi s))] [] μ
  refine z_iload_n K dX5_readOutside_0 rfl ?_
  refine z_ifne (tgt := 16) K dX5_readOutside_1 (by decide) (by omega) (fun h1 => ?_) (fun h1 => ?_)
  · refine z_iload_n K dX5_readOutside_16 rfl ?_
    refine z_iconst K dX5_readOutside_17 ?_
    refine z_icmpne (tgt := 45) K dX5_readOutside_18 (by decide) (by omega) ⟨by decide, by decide⟩ (fun h18 => ?_) (fun h18 => ?_)
    · refine z_iload_n K dX5_readOutside_45 rfl ?_
      refine z_bipush K dX5_readOutside_46 (by decide +kernel) ?_
      refine z_icmpne (tgt := 62) K dX5_readOutside_48 (by decide) (by omega) ⟨by decide, by decide⟩ (fun h48 => ?_) (fun h48 => ?_)
      · refine z_iload_n K dX5_readOutside_62 rfl ?_
        refine z_bipush K dX5_readOutside_63 (by decide +kernel) ?_
        refine z_icmpne (tgt := 81) K dX5_readOutside_65 (by decide) (by omega) ⟨by decide, by decide⟩ (fun h65 => ?_) (fun h65 => ?_)
        · refine z_iconst K dX5_readOutside_81 ?_
          exact z_ireti K T rfl dX5_readOutside_82 ⟨(by rw [show a = 2 by omega, zstep_2, if_neg (by omega), if_neg (by omega)]), fun h => absurd rfl h, fun _ _ => rfl⟩
        · refine z_aload_n K dX5_readOutside_68 rfl ?_
          refine z_get (k := 10) (v := .int (zi (μ 10 1))) K dX5_readOutside_69 fl_X5_50 rfl rfl rfl ?_
          refine z_iconst K dX5_readOutside_72 ?_
          refine z_icmpge (tgt := 81) K dX5_readOutside_73 (by decide) (by omega) ⟨by decide, by decide⟩ (fun h73 => ?_) (fun h73 => ?_)
          · refine z_iconst K dX5_readOutside_81 ?_
            exact z_ireti K T rfl dX5_readOutside_82 ⟨(by rw [show a = 2 by omega, zstep_2, if_neg (by omega), if_neg (by omega)]), fun h => absurd rfl h, fun _ _ => rfl⟩
          · refine z_bipush K dX5_readOutside_76 (by decide +kernel) ?_
            refine z_goto (tgt := 82) K dX5_readOutside_78 (by decide) ?_
            exact z_ireti K T rfl dX5_readOutside_82 ⟨(by rw [show a = 2 by omega, zstep_2, if_neg (by omega), if_pos ⟨by omega, by omega⟩]), fun _ => by rw [show a = 2 by omega, zstep_2]; rw [show a = 2 by omega] at hR; exact zPR_26 hR, fun _ _ => rfl⟩
      · refine z_aload_n K dX5_readOutside_51 rfl ?_
        refine z_get (k := 10) (v := .int (zi (μ 10 0))) K dX5_readOutside_52 fl_X5_47 rfl rfl rfl ?_
        refine z_bipush K dX5_readOutside_55 (by decide +kernel) ?_
        refine z_icmpge (tgt := 62) K dX5_readOutside_57 (by decide) (by omega) ⟨by decide, by decide⟩ (fun h57 => ?_) (fun h57 => ?_)
        · refine z_iload_n K dX5_readOutside_62 rfl ?_
          refine z_bipush K dX5_readOutside_63 (by decide +kernel) ?_
          refine z_icmpne (tgt := 81) K dX5_readOutside_65 (by decide) (by omega) ⟨by decide, by decide⟩ (fun h65 => ?_) (fun h65 => ?_)
          · refine z_iconst K dX5_readOutside_81 ?_
            exact z_ireti K T rfl dX5_readOutside_82 ⟨(by rw [show a = 2 by omega, zstep_2, if_neg (by omega), if_neg (by omega)]), fun h => absurd rfl h, fun _ _ => rfl⟩
          · refine z_aload_n K dX5_readOutside_68 rfl ?_
            refine z_get (k := 10) (v := .int (zi (μ 10 1))) K dX5_readOutside_69 fl_X5_50 rfl rfl rfl ?_
            refine z_iconst K dX5_readOutside_72 ?_
            refine z_icmpge (tgt := 81) K dX5_readOutside_73 (by decide) (by omega) ⟨by decide, by decide⟩ (fun h73 => ?_) (fun h73 => ?_)
            · refine z_iconst K dX5_readOutside_81 ?_
              exact z_ireti K T rfl dX5_readOutside_82 ⟨(by rw [show a = 2 by omega, zstep_2, if_neg (by omega), if_neg (by omega)]), fun h => absurd rfl h, fun _ _ => rfl⟩
            · refine z_bipush K dX5_readOutside_76 (by decide +kernel) ?_
              refine z_goto (tgt := 82) K dX5_readOutside_78 (by decide) ?_
              exact z_ireti K T rfl dX5_readOutside_82 ⟨(by rw [show a = 2 by omega, zstep_2, if_neg (by omega), if_pos ⟨by omega, by omega⟩]), fun _ => by rw [show a = 2 by omega, zstep_2]; rw [show a = 2 by omega] at hR; exact zPR_26 hR, fun _ _ => rfl⟩
        · refine z_iconst K dX5_readOutside_60 ?_
          exact z_ireti K T rfl dX5_readOutside_61 ⟨(by rw [show a = 2 by omega, zstep_2, if_pos ⟨by omega, by omega⟩]), fun _ => by rw [show a = 2 by omega, zstep_2]; rw [show a = 2 by omega] at hR; exact zPR_23 hR, fun _ _ => rfl⟩
    · refine z_aload_n K dX5_readOutside_21 rfl ?_
      refine z_iload_n K dX5_readOutside_22 rfl ?_
      refine z_bipush K dX5_readOutside_23 (by decide +kernel) ?_
      refine z_isub K dX5_readOutside_25 ?_
      refine z_puti (k := 10) K dX5_readOutside_26 fp_X5_40 rfl rfl ?_
      refine z_iload_n K dX5_readOutside_29 rfl ?_
      refine z_iconst K dX5_readOutside_30 ?_
      refine z_bipush K dX5_readOutside_31 (by decide +kernel) ?_
      refine z_callSd K hl1 hg1 (As := [.int (zi s), .int (zi (0 : Int)), .int (zi (9 : Int))]) (rest := []) (ct_isFigure la g0 ad (zup μ 10 (zu1 (μ 10) 2 (s - (48 : Int)))) s 0 9 hs ⟨by decide, by decide⟩ ⟨by decide, by decide⟩) (by decide) lk_X5_43 cd_X5_isFigure rfl rfl (Nat.le_of_ble_eq_true rfl) dX5_readOutside_33 ?_
      refine z_ifeq (tgt := 43) K dX5_readOutside_36 (by decide) (by omega) (fun h36 => ?_) (fun h36 => ?_)
      · refine z_iconst K dX5_readOutside_43 ?_
        exact z_ireti K T rfl dX5_readOutside_44 ⟨(by rw [h18, zstep_1, if_neg (by omega)]), fun h => absurd rfl h, fun q hq => by unfold zup; rw [if_neg (by omega)]⟩
      · refine z_iconst K dX5_readOutside_39 ?_
        refine z_goto (tgt := 44) K dX5_readOutside_40 (by decide) ?_
        exact z_ireti K T rfl dX5_readOutside_44 ⟨(by rw [h18, zstep_1, if_pos (by omega)]), fun _ => by rw [h18, zstep_1]; rw [h18] at hR; exact zPR_12 hR _, fun q hq => by unfold zup; rw [if_neg (by omega)]⟩
  · refine z_iload_n K dX5_readOutside_4 rfl ?_
    refine z_bipush K dX5_readOutside_5 (by decide +kernel) ?_
    refine z_icmpne (tgt := 14) K dX5_readOutside_7 (by decide) (by omega) ⟨by decide, by decide⟩ (fun h7 => ?_) (fun h7 => ?_)
    · refine z_iconst K dX5_readOutside_14 ?_
      exact z_ireti K T rfl dX5_readOutside_15 ⟨(by rw [h1, zstep_0, if_neg h7]), fun h => absurd rfl h, fun _ _ => rfl⟩
    · refine z_iconst K dX5_readOutside_10 ?_
      refine z_goto (tgt := 15) K dX5_readOutside_11 (by decide) ?_
      exact z_ireti K T rfl dX5_readOutside_15 ⟨(by rw [h1, zstep_0, if_pos h7]), fun _ => by rw [h1, zstep_0]; rw [h1] at hR; exact zPR_01 hR, fun _ _ => rfl⟩
set_option maxHeartbeats 4000000 in
set_option maxRecDepth 100000 in
theorem ct_readInside_p (la : Launch) (g0 : zG) (ad : Nat → Nat) (μ : zMem) (a : Int) (p : zP8) (s : Int) (hs : 0 ≤ s ∧ s ≤ 255) (hV : zPV a p) (hR : zPR (μ 10) (μ 11) (μ 12) (μ 13) (μ 14) (μ 15) (μ 16) a p) (ha : 3 ≤ a) : zCon la g0 yX5_readInside cX5_readInside 5 (some .int) 2 ad zSH [.ref (ad 10), .int (zi a), .int (zi s)] μ (zPi (fun r ν => r = (zstep a p s).1 ∧ (¬ r = -1 → zPR (ν 10) (ν 11) (ν 12) (ν 13) (ν 14) (ν 15) (ν 16) r ((zstep a p s).2)) ∧ ∀ q, (q < 10 ∨ 16 < q) → ν q = μ q)) := by
  refine zCon_of (by decide +kernel) (Nat.le_of_ble_eq_true rfl) ?_
  intro χ K T hl1 hg1
  have K : zOk χ cX5_readInside RX5 5 2 (some .int) := K
  obtain ⟨e0, e1, e2, e3, e4, e5, e6, e7⟩ := id hR
  obtain ⟨v1, v2, v3, v4, v5, v6, v7, v8, v9, v10, v11, v12⟩ := id hV
  show zV χ 5 ad zSH 0 0 0 [(0, .ref (ad 10)), (1, .int (zi a)), (2, .int (zi s))] [] μ
  refine z_aload_n K dX5_readInside_0 rfl ?_
  refine z_get (k := 10) (v := .int (zi (μ 10 0))) K dX5_readInside_1 fl_X5_47 rfl rfl rfl ?_
  refine z_istore_n (lv' := [(0, .ref (ad 10)), (1, .int (zi a)), (2, .int (zi s)), (3, .int (zi (μ 10 0)))]) K dX5_readInside_4 (by decide) rfl ?_
  refine z_aload_n K dX5_readInside_5 rfl ?_
  refine z_get (k := 10) (v := .int (zi (μ 10 1))) K dX5_readInside_6 fl_X5_50 rfl rfl rfl ?_
  refine z_istore (lv' := [(0, .ref (ad 10)), (1, .int (zi a)), (2, .int (zi s)), (3, .int (zi (μ 10 0))), (4, .int (zi (μ 10 1)))]) K dX5_readInside_9 (by decide) rfl ?_
  refine z_iload_n K dX5_readInside_11 rfl ?_
  refine z_iconst K dX5_readInside_12 ?_
  refine z_icmpgt (tgt := 25) K dX5_readInside_13 (by decide) (by omega) ⟨by decide, by decide⟩ (fun h13 => ?_) (fun h13 => ?_)
  · refine z_iload K dX5_readInside_25 rfl ?_
    refine z_iconst K dX5_readInside_27 ?_
    refine z_icmplt (tgt := 33) K dX5_readInside_28 (by decide) (by omega) ⟨by decide, by decide⟩ (fun h28 => ?_) (fun h28 => ?_)
    · refine z_iload_n K dX5_readInside_33 rfl ?_
      rcases (show a = 3 ∨ a = 4 ∨ a = 5 ∨ a = 6 ∨ (a < 3 ∨ 6 < a) by omega) with hsw | hsw | hsw | hsw | hsw
      · refine z_tableIn (off := 30) (tgt := 64) K dX5_readInside_34 (by omega) (by omega) (by omega) (by rw [hsw]; rfl) (by decide) ?_
        refine z_aload_n K dX5_readInside_64 rfl ?_
        refine z_get (k := 10) (v := .ref (ad 11)) K dX5_readInside_65 fl_X5_53 rfl rfl rfl ?_
        refine z_iload_n K dX5_readInside_68 rfl ?_
        refine z_iload_n K dX5_readInside_69 rfl ?_
        refine z_bipush K dX5_readInside_70 (by decide +kernel) ?_
        refine z_isub K dX5_readInside_72 ?_
        refine z_iast (k := 11) K dX5_readInside_73 p.1 rfl (by decide) (by omega) (by omega) ?_
        refine z_iload_n K dX5_readInside_74 rfl ?_
        refine z_bipush K dX5_readInside_75 (by decide +kernel) ?_
        refine z_isub K dX5_readInside_77 ?_
        refine z_callSd K hl1 hg1 (As := [.int (zi (s - (97 : Int)))]) (rest := []) (ct_isHole la g0 ad (zup μ 11 (zu1 (μ 11) p.1 (s - (97 : Int)))) (s - 97) ⟨by omega, by omega⟩) (by decide) lk_X5_56 cd_X8_isHole rfl rfl (Nat.le_of_ble_eq_true rfl) dX5_readInside_78 ?_
        refine z_ifeq (tgt := 100) K dX5_readInside_81 (by decide) (by omega) (fun h81 => ?_) (fun h81 => ?_)
        · refine z_iconst K dX5_readInside_100 ?_
          exact z_ireti K T rfl dX5_readInside_101 ⟨(by rw [hsw, zstep_3, if_neg (by omega)]), fun h => absurd rfl h, fun q hq => by unfold zup; rw [if_neg (by omega)]⟩
        · refine z_aload_n K dX5_readInside_84 rfl ?_
          refine z_iload_n K dX5_readInside_85 rfl ?_
          refine z_bipush K dX5_readInside_86 (by decide +kernel) ?_
          refine z_isub K dX5_readInside_88 ?_
          have hzz : zhi (zu1 (μ 11) p.1 (s - 97)) (s - 97) p.1 = zhi p.2.2.2.1 (s - 97) p.1 := zhi_cg _ _ (fun l hl => by rw [zu1_ne _ _ (by omega)]; exact e3 l (Or.inl hl))
          refine z_callVd K hl1 hg1 (kb := 10) (As := [.int (zi (s - (97 : Int)))]) (rest := []) (ct_homesIn_p la g0 ad (zup μ 11 (zu1 (μ 11) p.1 (s - (97 : Int)))) p.1 e0 v1 (s - 97) ⟨by omega, by omega⟩ (fun l hl => by show zR (zu1 (μ 11) p.1 (s - 97) l); rw [zu1_ne _ _ (by omega), e3 l (Or.inl hl)]; have := v8 l (Or.inl hl); omega)) (by decide) lk_X5_60 cd_X4_homesIn rfl rfl rfl rfl (Nat.le_of_ble_eq_true rfl) dX5_readInside_89 ?_
          show zV χ 5 ad zSH 0 0 92 [(0, .ref (ad 10)), (1, .int (zi a)), (2, .int (zi s)), (3, .int (zi (μ 10 0))), (4, .int (zi (μ 10 1)))] [.int (zi ((zhi (zu1 (μ 11) p.1 (s - 97)) (s - 97) p.1 : Nat) : Int))] (zup μ 11 (zu1 (μ 11) p.1 (s - (97 : Int))))
          have hzc : zhi (zu1 (μ 11) p.1 (s - 97)) (s - 97) p.1 ≤ 6 := Nat.le_trans (zhi_le _ _ _) v1
          refine z_iconst K dX5_readInside_92 ?_
          refine z_icmpge (tgt := 100) K dX5_readInside_93 (by decide) (by omega) ⟨by decide, by decide⟩ (fun h93 => ?_) (fun h93 => ?_)
          · refine z_iconst K dX5_readInside_100 ?_
            exact z_ireti K T rfl dX5_readInside_101 ⟨(by rw [hsw, zstep_3, if_neg (by omega)]), fun h => absurd rfl h, fun q hq => by unfold zup; rw [if_neg (by omega)]⟩
          · refine z_iconst K dX5_readInside_96 ?_
            refine z_goto (tgt := 101) K dX5_readInside_97 (by decide) ?_
            exact z_ireti K T rfl dX5_readInside_101 ⟨(by rw [hsw, zstep_3, if_pos ⟨by omega, by omega⟩]), fun _ => by rw [hsw, zstep_3]; rw [hsw] at hR; exact zPR_34 hR _, fun q hq => by unfold zup; rw [if_neg (by omega)]⟩
      · refine z_tableIn (off := 68) (tgt := 102) K dX5_readInside_34 (by omega) (by omega) (by omega) (by rw [hsw]; rfl) (by decide) ?_
        refine z_aload_n K dX5_readInside_102 rfl ?_
        refine z_get (k := 10) (v := .ref (ad 12)) K dX5_readInside_103 fl_X5_64 rfl rfl rfl ?_
        refine z_iload_n K dX5_readInside_106 rfl ?_
        refine z_iload_n K dX5_readInside_107 rfl ?_
        refine z_bipush K dX5_readInside_108 (by decide +kernel) ?_
        refine z_isub K dX5_readInside_110 ?_
        refine z_iast (k := 12) K dX5_readInside_111 p.1 rfl (by decide) (by omega) (by omega) ?_
        refine z_iload_n K dX5_readInside_112 rfl ?_
        refine z_iconst K dX5_readInside_113 ?_
        refine z_bipush K dX5_readInside_114 (by decide +kernel) ?_
        refine z_callSd K hl1 hg1 (As := [.int (zi s), .int (zi (1 : Int)), .int (zi (9 : Int))]) (rest := []) (ct_isFigure la g0 ad (zup μ 12 (zu1 (μ 12) p.1 (s - (48 : Int)))) s 1 9 hs ⟨by decide, by decide⟩ ⟨by decide, by decide⟩) (by decide) lk_X5_43 cd_X5_isFigure rfl rfl (Nat.le_of_ble_eq_true rfl) dX5_readInside_116 ?_
        refine z_ifeq (tgt := 126) K dX5_readInside_119 (by decide) (by omega) (fun h119 => ?_) (fun h119 => ?_)
        · refine z_iconst K dX5_readInside_126 ?_
          exact z_ireti K T rfl dX5_readInside_127 ⟨(by rw [hsw, zstep_4, if_neg (by omega)]), fun h => absurd rfl h, fun q hq => by unfold zup; rw [if_neg (by omega)]⟩
        · refine z_iconst K dX5_readInside_122 ?_
          refine z_goto (tgt := 127) K dX5_readInside_123 (by decide) ?_
          exact z_ireti K T rfl dX5_readInside_127 ⟨(by rw [hsw, zstep_4, if_pos (by omega)]), fun _ => by rw [hsw, zstep_4]; rw [hsw] at hR; exact zPR_45 hR _, fun q hq => by unfold zup; rw [if_neg (by omega)]⟩
      · refine z_tableIn (off := 94) (tgt := 128) K dX5_readInside_34 (by omega) (by omega) (by omega) (by rw [hsw]; rfl) (by decide) ?_
        refine z_iload_n K dX5_readInside_128 rfl ?_
        refine z_iconst K dX5_readInside_129 ?_
        refine z_iconst K dX5_readInside_130 ?_
        refine z_callSd K hl1 hg1 (As := [.int (zi s), .int (zi (0 : Int)), .int (zi (3 : Int))]) (rest := []) (ct_isFigure la g0 ad μ s 0 3 hs ⟨by decide, by decide⟩ ⟨by decide, by decide⟩) (by decide) lk_X5_43 cd_X5_isFigure rfl rfl (Nat.le_of_ble_eq_true rfl) dX5_readInside_131 ?_
        refine z_ifne (tgt := 139) K dX5_readInside_134 (by decide) (by omega) (fun h134 => ?_) (fun h134 => ?_)
        · refine z_aload_n K dX5_readInside_139 rfl ?_
          refine z_get (k := 10) (v := .ref (ad 13)) K dX5_readInside_140 fl_X5_67 rfl rfl rfl ?_
          refine z_iload_n K dX5_readInside_143 rfl ?_
          refine z_iload_n K dX5_readInside_144 rfl ?_
          refine z_bipush K dX5_readInside_145 (by decide +kernel) ?_
          refine z_isub K dX5_readInside_147 ?_
          refine z_iast (k := 13) K dX5_readInside_148 p.1 rfl (by decide) (by omega) (by omega) ?_
          refine z_aload_n K dX5_readInside_149 rfl ?_
          refine z_get (k := 10) (v := .ref (ad 14)) K dX5_readInside_150 fl_X5_70 rfl rfl rfl ?_
          refine z_iload_n K dX5_readInside_153 rfl ?_
          refine z_aload_n K dX5_readInside_154 rfl ?_
          refine z_get (k := 10) (v := .ref (ad 12)) K dX5_readInside_155 fl_X5_64 rfl rfl rfl ?_
          refine z_iload_n K dX5_readInside_158 rfl ?_
          refine z_iald (k := 12) (v := μ 12 p.1) K dX5_readInside_159 p.1 rfl (by decide) (by omega) (by omega) rfl ?_
          refine z_aload_n K dX5_readInside_160 rfl ?_
          refine z_get (k := 10) (v := .ref (ad 13)) K dX5_readInside_161 fl_X5_67 rfl rfl rfl ?_
          refine z_iload_n K dX5_readInside_164 rfl ?_
          refine z_iald (k := 13) (v := s - (48 : Int)) K dX5_readInside_165 p.1 rfl (by decide) (by omega) (by omega) (zu1_eq _ _ _) ?_
          have hw9 := v9 p.1 (by omega)
          refine z_callSd K hl1 hg1 (As := [.int (zi (μ 12 p.1)), .int (zi (s - (48 : Int)))]) (rest := [.int (zi (μ 10 0)), .ref (ad 14)]) (ct_waitAlone la g0 ad (zup μ 13 (zu1 (μ 13) p.1 (s - (48 : Int)))) (μ 12 p.1) (s - 48) (by rw [e4 p.1 (by omega)]; omega) (by omega)) (by decide) lk_X5_73 cd_X8_waitAlone rfl rfl (Nat.le_of_ble_eq_true rfl) dX5_readInside_166 ?_
          refine z_iast (k := 14) K dX5_readInside_169 p.1 rfl (by decide) (by omega) (by omega) ?_
          refine z_aload_n K dX5_readInside_170 rfl ?_
          refine z_dup K dX5_readInside_171 rfl ?_
          refine z_get (k := 10) (v := .int (zi (μ 10 0))) K dX5_readInside_172 fl_X5_47 rfl rfl rfl ?_
          refine z_iconst K dX5_readInside_175 ?_
          refine z_iadd K dX5_readInside_176 ?_
          refine z_puti (k := 10) K dX5_readInside_177 fp_X5_47 rfl rfl ?_
          refine z_iconst K dX5_readInside_180 ?_
          exact z_ireti K T rfl dX5_readInside_181 ⟨(by rw [hsw, zstep_5, if_pos (by omega)]), fun _ => by rw [hsw, zstep_5]; rw [hsw] at hR; exact zPR_52 hR _, fun q hq => by unfold zup; rw [if_neg (by omega), if_neg (by omega), if_neg (by omega)]⟩
        · refine z_iconst K dX5_readInside_137 ?_
          exact z_ireti K T rfl dX5_readInside_138 ⟨(by rw [hsw, zstep_5, if_neg (by omega)]), fun h => absurd rfl h, fun _ _ => rfl⟩
      · refine z_tableIn (off := 148) (tgt := 182) K dX5_readInside_34 (by omega) (by omega) (by omega) (by rw [hsw]; rfl) (by decide) ?_
        refine z_aload_n K dX5_readInside_182 rfl ?_
        refine z_get (k := 10) (v := .ref (ad 15)) K dX5_readInside_183 fl_X5_77 rfl rfl rfl ?_
        refine z_iload K dX5_readInside_186 rfl ?_
        refine z_iload_n K dX5_readInside_188 rfl ?_
        refine z_bipush K dX5_readInside_189 (by decide +kernel) ?_
        refine z_isub K dX5_readInside_191 ?_
        refine z_iast (k := 15) K dX5_readInside_192 p.2.1 rfl (by decide) (by omega) (by omega) ?_
        refine z_iload_n K dX5_readInside_193 rfl ?_
        refine z_iconst K dX5_readInside_194 ?_
        refine z_iconst K dX5_readInside_195 ?_
        refine z_callSd K hl1 hg1 (As := [.int (zi s), .int (zi (0 : Int)), .int (zi (2 : Int))]) (rest := []) (ct_isFigure la g0 ad (zup μ 15 (zu1 (μ 15) p.2.1 (s - (48 : Int)))) s 0 2 hs ⟨by decide, by decide⟩ ⟨by decide, by decide⟩) (by decide) lk_X5_43 cd_X5_isFigure rfl rfl (Nat.le_of_ble_eq_true rfl) dX5_readInside_196 ?_
        refine z_ifeq (tgt := 207) K dX5_readInside_199 (by decide) (by omega) (fun h199 => ?_) (fun h199 => ?_)
        · refine z_iconst K dX5_readInside_207 ?_
          exact z_ireti K T rfl dX5_readInside_208 ⟨(by rw [hsw, zstep_6, if_neg (by omega)]), fun h => absurd rfl h, fun q hq => by unfold zup; rw [if_neg (by omega)]⟩
        · refine z_bipush K dX5_readInside_202 (by decide +kernel) ?_
          refine z_goto (tgt := 208) K dX5_readInside_204 (by decide) ?_
          exact z_ireti K T rfl dX5_readInside_208 ⟨(by rw [hsw, zstep_6, if_pos (by omega)]), fun _ => by rw [hsw, zstep_6]; rw [hsw] at hR; exact zPR_67 hR _, fun q hq => by unfold zup; rw [if_neg (by omega)]⟩
      · refine z_tableOut (tgt := 209) K dX5_readInside_34 (by omega) hsw (by decide) ?_
        refine z_iload_n K dX5_readInside_209 rfl ?_
        refine z_iconst K dX5_readInside_210 ?_
        refine z_iconst K dX5_readInside_211 ?_
        refine z_callSd K hl1 hg1 (As := [.int (zi s), .int (zi (1 : Int)), .int (zi (3 : Int))]) (rest := []) (ct_isFigure la g0 ad μ s 1 3 hs ⟨by decide, by decide⟩ ⟨by decide, by decide⟩) (by decide) lk_X5_43 cd_X5_isFigure rfl rfl (Nat.le_of_ble_eq_true rfl) dX5_readInside_212 ?_
        refine z_ifne (tgt := 220) K dX5_readInside_215 (by decide) (by omega) (fun h215 => ?_) (fun h215 => ?_)
        · refine z_aload_n K dX5_readInside_220 rfl ?_
          refine z_get (k := 10) (v := .ref (ad 16)) K dX5_readInside_221 fl_X5_80 rfl rfl rfl ?_
          refine z_iload K dX5_readInside_224 rfl ?_
          refine z_iload_n K dX5_readInside_226 rfl ?_
          refine z_bipush K dX5_readInside_227 (by decide +kernel) ?_
          refine z_isub K dX5_readInside_229 ?_
          refine z_iast (k := 16) K dX5_readInside_230 p.2.1 rfl (by decide) (by omega) (by omega) ?_
          refine z_aload_n K dX5_readInside_231 rfl ?_
          refine z_dup K dX5_readInside_232 rfl ?_
          refine z_get (k := 10) (v := .int (zi (μ 10 1))) K dX5_readInside_233 fl_X5_50 rfl rfl rfl ?_
          refine z_iconst K dX5_readInside_236 ?_
          refine z_iadd K dX5_readInside_237 ?_
          refine z_puti (k := 10) K dX5_readInside_238 fp_X5_50 rfl rfl ?_
          refine z_iconst K dX5_readInside_241 ?_
          exact z_ireti K T rfl dX5_readInside_242 ⟨(by rw [show a = 7 by omega, zstep_7, if_pos (by omega)]), fun _ => by rw [show a = 7 by omega, zstep_7]; rw [show a = 7 by omega] at hR; exact zPR_72 hR _, fun q hq => by unfold zup; rw [if_neg (by omega), if_neg (by omega)]⟩
        · refine z_iconst K dX5_readInside_218 ?_
          exact z_ireti K T rfl dX5_readInside_219 ⟨(by rw [show a = 7 by omega, zstep_7, if_neg (by omega)]), fun h => absurd rfl h, fun _ _ => rfl⟩
    · refine z_iconst K dX5_readInside_31 ?_
      exact z_ireti K T rfl dX5_readInside_32 (absurd (show False by omega) id)
  · refine z_iload_n K dX5_readInside_16 rfl ?_
    refine z_bipush K dX5_readInside_17 (by decide +kernel) ?_
    refine z_icmplt (tgt := 33) K dX5_readInside_19 (by decide) (by omega) ⟨by decide, by decide⟩ (fun h19 => ?_) (fun h19 => ?_)
    · refine z_iload_n K dX5_readInside_33 rfl ?_
      rcases (show a = 3 ∨ a = 4 ∨ a = 5 ∨ a = 6 ∨ (a < 3 ∨ 6 < a) by omega) with hsw | hsw | hsw | hsw | hsw
      · refine z_tableIn (off := 30) (tgt := 64) K dX5_readInside_34 (by omega) (by omega) (by omega) (by rw [hsw]; rfl) (by decide) ?_
        refine z_aload_n K dX5_readInside_64 rfl ?_
        refine z_get (k := 10) (v := .ref (ad 11)) K dX5_readInside_65 fl_X5_53 rfl rfl rfl ?_
        refine z_iload_n K dX5_readInside_68 rfl ?_
        refine z_iload_n K dX5_readInside_69 rfl ?_
        refine z_bipush K dX5_readInside_70 (by decide +kernel) ?_
        refine z_isub K dX5_readInside_72 ?_
        refine z_iast (k := 11) K dX5_readInside_73 p.1 rfl (by decide) (by omega) (by omega) ?_
        refine z_iload_n K dX5_readInside_74 rfl ?_
        refine z_bipush K dX5_readInside_75 (by decide +kernel) ?_
        refine z_isub K dX5_readInside_77 ?_
        refine z_callSd K hl1 hg1 (As := [.int (zi (s - (97 : Int)))]) (rest := []) (ct_isHole la g0 ad (zup μ 11 (zu1 (μ 11) p.1 (s - (97 : Int)))) (s - 97) ⟨by omega, by omega⟩) (by decide) lk_X5_56 cd_X8_isHole rfl rfl (Nat.le_of_ble_eq_true rfl) dX5_readInside_78 ?_
        refine z_ifeq (tgt := 100) K dX5_readInside_81 (by decide) (by omega) (fun h81 => ?_) (fun h81 => ?_)
        · refine z_iconst K dX5_readInside_100 ?_
          exact z_ireti K T rfl dX5_readInside_101 ⟨(by rw [hsw, zstep_3, if_neg (by omega)]), fun h => absurd rfl h, fun q hq => by unfold zup; rw [if_neg (by omega)]⟩
        · refine z_aload_n K dX5_readInside_84 rfl ?_
          refine z_iload_n K dX5_readInside_85 rfl ?_
          refine z_bipush K dX5_readInside_86 (by decide +kernel) ?_
          refine z_isub K dX5_readInside_88 ?_
          have hzz : zhi (zu1 (μ 11) p.1 (s - 97)) (s - 97) p.1 = zhi p.2.2.2.1 (s - 97) p.1 := zhi_cg _ _ (fun l hl => by rw [zu1_ne _ _ (by omega)]; exact e3 l (Or.inl hl))
          refine z_callVd K hl1 hg1 (kb := 10) (As := [.int (zi (s - (97 : Int)))]) (rest := []) (ct_homesIn_p la g0 ad (zup μ 11 (zu1 (μ 11) p.1 (s - (97 : Int)))) p.1 e0 v1 (s - 97) ⟨by omega, by omega⟩ (fun l hl => by show zR (zu1 (μ 11) p.1 (s - 97) l); rw [zu1_ne _ _ (by omega), e3 l (Or.inl hl)]; have := v8 l (Or.inl hl); omega)) (by decide) lk_X5_60 cd_X4_homesIn rfl rfl rfl rfl (Nat.le_of_ble_eq_true rfl) dX5_readInside_89 ?_
          show zV χ 5 ad zSH 0 0 92 [(0, .ref (ad 10)), (1, .int (zi a)), (2, .int (zi s)), (3, .int (zi (μ 10 0))), (4, .int (zi (μ 10 1)))] [.int (zi ((zhi (zu1 (μ 11) p.1 (s - 97)) (s - 97) p.1 : Nat) : Int))] (zup μ 11 (zu1 (μ 11) p.1 (s - (97 : Int))))
          have hzc : zhi (zu1 (μ 11) p.1 (s - 97)) (s - 97) p.1 ≤ 6 := Nat.le_trans (zhi_le _ _ _) v1
          refine z_iconst K dX5_readInside_92 ?_
          refine z_icmpge (tgt := 100) K dX5_readInside_93 (by decide) (by omega) ⟨by decide, by decide⟩ (fun h93 => ?_) (fun h93 => ?_)
          · refine z_iconst K dX5_readInside_100 ?_
            exact z_ireti K T rfl dX5_readInside_101 ⟨(by rw [hsw, zstep_3, if_neg (by omega)]), fun h => absurd rfl h, fun q hq => by unfold zup; rw [if_neg (by omega)]⟩
          · refine z_iconst K dX5_readInside_96 ?_
            refine z_goto (tgt := 101) K dX5_readInside_97 (by decide) ?_
            exact z_ireti K T rfl dX5_readInside_101 ⟨(by rw [hsw, zstep_3, if_pos ⟨by omega, by omega⟩]), fun _ => by rw [hsw, zstep_3]; rw [hsw] at hR; exact zPR_34 hR _, fun q hq => by unfold zup; rw [if_neg (by omega)]⟩
      · refine z_tableIn (off := 68) (tgt := 102) K dX5_readInside_34 (by omega) (by omega) (by omega) (by rw [hsw]; rfl) (by decide) ?_
        refine z_aload_n K dX5_readInside_102 rfl ?_
        refine z_get (k := 10) (v := .ref (ad 12)) K dX5_readInside_103 fl_X5_64 rfl rfl rfl ?_
        refine z_iload_n K dX5_readInside_106 rfl ?_
        refine z_iload_n K dX5_readInside_107 rfl ?_
        refine z_bipush K dX5_readInside_108 (by decide +kernel) ?_
        refine z_isub K dX5_readInside_110 ?_
        refine z_iast (k := 12) K dX5_readInside_111 p.1 rfl (by decide) (by omega) (by omega) ?_
        refine z_iload_n K dX5_readInside_112 rfl ?_
        refine z_iconst K dX5_readInside_113 ?_
        refine z_bipush K dX5_readInside_114 (by decide +kernel) ?_
        refine z_callSd K hl1 hg1 (As := [.int (zi s), .int (zi (1 : Int)), .int (zi (9 : Int))]) (rest := []) (ct_isFigure la g0 ad (zup μ 12 (zu1 (μ 12) p.1 (s - (48 : Int)))) s 1 9 hs ⟨by decide, by decide⟩ ⟨by decide, by decide⟩) (by decide) lk_X5_43 cd_X5_isFigure rfl rfl (Nat.le_of_ble_eq_true rfl) dX5_readInside_116 ?_
        refine z_ifeq (tgt := 126) K dX5_readInside_119 (by decide) (by omega) (fun h119 => ?_) (fun h119 => ?_)
        · refine z_iconst K dX5_readInside_126 ?_
          exact z_ireti K T rfl dX5_readInside_127 ⟨(by rw [hsw, zstep_4, if_neg (by omega)]), fun h => absurd rfl h, fun q hq => by unfold zup; rw [if_neg (by omega)]⟩
        · refine z_iconst K dX5_readInside_122 ?_
          refine z_goto (tgt := 127) K dX5_readInside_123 (by decide) ?_
          exact z_ireti K T rfl dX5_readInside_127 ⟨(by rw [hsw, zstep_4, if_pos (by omega)]), fun _ => by rw [hsw, zstep_4]; rw [hsw] at hR; exact zPR_45 hR _, fun q hq => by unfold zup; rw [if_neg (by omega)]⟩
      · refine z_tableIn (off := 94) (tgt := 128) K dX5_readInside_34 (by omega) (by omega) (by omega) (by rw [hsw]; rfl) (by decide) ?_
        refine z_iload_n K dX5_readInside_128 rfl ?_
        refine z_iconst K dX5_readInside_129 ?_
        refine z_iconst K dX5_readInside_130 ?_
        refine z_callSd K hl1 hg1 (As := [.int (zi s), .int (zi (0 : Int)), .int (zi (3 : Int))]) (rest := []) (ct_isFigure la g0 ad μ s 0 3 hs ⟨by decide, by decide⟩ ⟨by decide, by decide⟩) (by decide) lk_X5_43 cd_X5_isFigure rfl rfl (Nat.le_of_ble_eq_true rfl) dX5_readInside_131 ?_
        refine z_ifne (tgt := 139) K dX5_readInside_134 (by decide) (by omega) (fun h134 => ?_) (fun h134 => ?_)
        · refine z_aload_n K dX5_readInside_139 rfl ?_
          refine z_get (k := 10) (v := .ref (ad 13)) K dX5_readInside_140 fl_X5_67 rfl rfl rfl ?_
          refine z_iload_n K dX5_readInside_143 rfl ?_
          refine z_iload_n K dX5_readInside_144 rfl ?_
          refine z_bipush K dX5_readInside_145 (by decide +kernel) ?_
          refine z_isub K dX5_readInside_147 ?_
          refine z_iast (k := 13) K dX5_readInside_148 p.1 rfl (by decide) (by omega) (by omega) ?_
          refine z_aload_n K dX5_readInside_149 rfl ?_
          refine z_get (k := 10) (v := .ref (ad 14)) K dX5_readInside_150 fl_X5_70 rfl rfl rfl ?_
          refine z_iload_n K dX5_readInside_153 rfl ?_
          refine z_aload_n K dX5_readInside_154 rfl ?_
          refine z_get (k := 10) (v := .ref (ad 12)) K dX5_readInside_155 fl_X5_64 rfl rfl rfl ?_
          refine z_iload_n K dX5_readInside_158 rfl ?_
          refine z_iald (k := 12) (v := μ 12 p.1) K dX5_readInside_159 p.1 rfl (by decide) (by omega) (by omega) rfl ?_
          refine z_aload_n K dX5_readInside_160 rfl ?_
          refine z_get (k := 10) (v := .ref (ad 13)) K dX5_readInside_161 fl_X5_67 rfl rfl rfl ?_
          refine z_iload_n K dX5_readInside_164 rfl ?_
          refine z_iald (k := 13) (v := s - (48 : Int)) K dX5_readInside_165 p.1 rfl (by decide) (by omega) (by omega) (zu1_eq _ _ _) ?_
          have hw9 := v9 p.1 (by omega)
          refine z_callSd K hl1 hg1 (As := [.int (zi (μ 12 p.1)), .int (zi (s - (48 : Int)))]) (rest := [.int (zi (μ 10 0)), .ref (ad 14)]) (ct_waitAlone la g0 ad (zup μ 13 (zu1 (μ 13) p.1 (s - (48 : Int)))) (μ 12 p.1) (s - 48) (by rw [e4 p.1 (by omega)]; omega) (by omega)) (by decide) lk_X5_73 cd_X8_waitAlone rfl rfl (Nat.le_of_ble_eq_true rfl) dX5_readInside_166 ?_
          refine z_iast (k := 14) K dX5_readInside_169 p.1 rfl (by decide) (by omega) (by omega) ?_
          refine z_aload_n K dX5_readInside_170 rfl ?_
          refine z_dup K dX5_readInside_171 rfl ?_
          refine z_get (k := 10) (v := .int (zi (μ 10 0))) K dX5_readInside_172 fl_X5_47 rfl rfl rfl ?_
          refine z_iconst K dX5_readInside_175 ?_
          refine z_iadd K dX5_readInside_176 ?_
          refine z_puti (k := 10) K dX5_readInside_177 fp_X5_47 rfl rfl ?_
          refine z_iconst K dX5_readInside_180 ?_
          exact z_ireti K T rfl dX5_readInside_181 ⟨(by rw [hsw, zstep_5, if_pos (by omega)]), fun _ => by rw [hsw, zstep_5]; rw [hsw] at hR; exact zPR_52 hR _, fun q hq => by unfold zup; rw [if_neg (by omega), if_neg (by omega), if_neg (by omega)]⟩
        · refine z_iconst K dX5_readInside_137 ?_
          exact z_ireti K T rfl dX5_readInside_138 ⟨(by rw [hsw, zstep_5, if_neg (by omega)]), fun h => absurd rfl h, fun _ _ => rfl⟩
      · refine z_tableIn (off := 148) (tgt := 182) K dX5_readInside_34 (by omega) (by omega) (by omega) (by rw [hsw]; rfl) (by decide) ?_
        refine z_aload_n K dX5_readInside_182 rfl ?_
        refine z_get (k := 10) (v := .ref (ad 15)) K dX5_readInside_183 fl_X5_77 rfl rfl rfl ?_
        refine z_iload K dX5_readInside_186 rfl ?_
        refine z_iload_n K dX5_readInside_188 rfl ?_
        refine z_bipush K dX5_readInside_189 (by decide +kernel) ?_
        refine z_isub K dX5_readInside_191 ?_
        refine z_iast (k := 15) K dX5_readInside_192 p.2.1 rfl (by decide) (by omega) (by omega) ?_
        refine z_iload_n K dX5_readInside_193 rfl ?_
        refine z_iconst K dX5_readInside_194 ?_
        refine z_iconst K dX5_readInside_195 ?_
        refine z_callSd K hl1 hg1 (As := [.int (zi s), .int (zi (0 : Int)), .int (zi (2 : Int))]) (rest := []) (ct_isFigure la g0 ad (zup μ 15 (zu1 (μ 15) p.2.1 (s - (48 : Int)))) s 0 2 hs ⟨by decide, by decide⟩ ⟨by decide, by decide⟩) (by decide) lk_X5_43 cd_X5_isFigure rfl rfl (Nat.le_of_ble_eq_true rfl) dX5_readInside_196 ?_
        refine z_ifeq (tgt := 207) K dX5_readInside_199 (by decide) (by omega) (fun h199 => ?_) (fun h199 => ?_)
        · refine z_iconst K dX5_readInside_207 ?_
          exact z_ireti K T rfl dX5_readInside_208 ⟨(by rw [hsw, zstep_6, if_neg (by omega)]), fun h => absurd rfl h, fun q hq => by unfold zup; rw [if_neg (by omega)]⟩
        · refine z_bipush K dX5_readInside_202 (by decide +kernel) ?_
          refine z_goto (tgt := 208) K dX5_readInside_204 (by decide) ?_
          exact z_ireti K T rfl dX5_readInside_208 ⟨(by rw [hsw, zstep_6, if_pos (by omega)]), fun _ => by rw [hsw, zstep_6]; rw [hsw] at hR; exact zPR_67 hR _, fun q hq => by unfold zup; rw [if_neg (by omega)]⟩
      · refine z_tableOut (tgt := 209) K dX5_readInside_34 (by omega) hsw (by decide) ?_
        refine z_iload_n K dX5_readInside_209 rfl ?_
        refine z_iconst K dX5_readInside_210 ?_
        refine z_iconst K dX5_readInside_211 ?_
        refine z_callSd K hl1 hg1 (As := [.int (zi s), .int (zi (1 : Int)), .int (zi (3 : Int))]) (rest := []) (ct_isFigure la g0 ad μ s 1 3 hs ⟨by decide, by decide⟩ ⟨by decide, by decide⟩) (by decide) lk_X5_43 cd_X5_isFigure rfl rfl (Nat.le_of_ble_eq_true rfl) dX5_readInside_212 ?_
        refine z_ifne (tgt := 220) K dX5_readInside_215 (by decide) (by omega) (fun h215 => ?_) (fun h215 => ?_)
        · refine z_aload_n K dX5_readInside_220 rfl ?_
          refine z_get (k := 10) (v := .ref (ad 16)) K dX5_readInside_221 fl_X5_80 rfl rfl rfl ?_
          refine z_iload K dX5_readInside_224 rfl ?_
          refine z_iload_n K dX5_readInside_226 rfl ?_
          refine z_bipush K dX5_readInside_227 (by decide +kernel) ?_
          refine z_isub K dX5_readInside_229 ?_
          refine z_iast (k := 16) K dX5_readInside_230 p.2.1 rfl (by decide) (by omega) (by omega) ?_
          refine z_aload_n K dX5_readInside_231 rfl ?_
          refine z_dup K dX5_readInside_232 rfl ?_
          refine z_get (k := 10) (v := .int (zi (μ 10 1))) K dX5_readInside_233 fl_X5_50 rfl rfl rfl ?_
          refine z_iconst K dX5_readInside_236 ?_
          refine z_iadd K dX5_readInside_237 ?_
          refine z_puti (k := 10) K dX5_readInside_238 fp_X5_50 rfl rfl ?_
          refine z_iconst K dX5_readInside_241 ?_
          exact z_ireti K T rfl dX5_readInside_242 ⟨(by rw [show a = 7 by omega, zstep_7, if_pos (by omega)]), fun _ => by rw [show a = 7 by omega, zstep_7]; rw [show a = 7 by omega] at hR; exact zPR_72 hR _, fun q hq => by unfold zup; rw [if_neg (by omega), if_neg (by omega)]⟩
        · refine z_iconst K dX5_readInside_218 ?_
          exact z_ireti K T rfl dX5_readInside_219 ⟨(by rw [show a = 7 by omega, zstep_7, if_neg (by omega)]), fun h => absurd rfl h, fun _ _ => rfl⟩
    · refine z_goto (tgt := 31) K dX5_readInside_22 (by decide) ?_
      refine z_iconst K dX5_readInside_31 ?_
      exact z_ireti K T rfl dX5_readInside_32 (absurd (show False by omega) id)
set_option maxHeartbeats 4000000 in
set_option maxRecDepth 100000 in
theorem ct_readInto_p (la : Launch) (g0 : zG) (ad : Nat → Nat) (μ : zMem) (t : Nat) (ht : μ 1 1 = (t : Int)) (ht48 : t ≤ 48) (hy : ∀ i, i < t → 0 ≤ μ 2 i ∧ μ 2 i ≤ 255) : zCon la g0 yX5_readInto cX5_readInto 4 (some .int) 3 ad zSH [.ref (ad 1), .ref (ad 10)] μ (zPi (fun r ν => r = zfault (μ 2) t ∧ (r = -9 → zPR (ν 10) (ν 11) (ν 12) (ν 13) (ν 14) (ν 15) (ν 16) 2 ((zpre (μ 2) t).2)) ∧ ∀ q, (q < 10 ∨ 16 < q) → ν q = μ q)) := by
  refine zCon_of (by decide +kernel) (Nat.le_of_ble_eq_true rfl) ?_
  intro χ K T hl1 hg1
  have K : zOk χ cX5_readInto RX5 4 3 (some .int) := K
  show zV χ 4 ad zSH 0 0 0 [(0, .ref (ad 1)), (1, .ref (ad 10))] [] μ
  refine z_aload_n K dX5_readInto_0 rfl ?_
  refine z_callVm K hl1 hg1 (kb := 10) (As := []) (rest := []) (ct_plan_clear_p la g0 ad μ) (by decide) lk_X5_30 cd_X4_clear rfl rfl rfl rfl (Nat.le_of_ble_eq_true rfl) dX5_readInto_1 ?_
  refine z_iconst K dX5_readInto_4 ?_
  refine z_istore_n (lv' := [(0, .ref (ad 1)), (1, .ref (ad 10)), (2, .int (zi (0 : Int)))]) K dX5_readInto_5 (by decide) rfl ?_
  refine z_iconst K dX5_readInto_6 ?_
  refine z_istore_n (lv' := [(0, .ref (ad 1)), (1, .ref (ad 10)), (2, .int (zi (0 : Int))), (3, .int (zi (0 : Int)))]) K dX5_readInto_7 (by decide) rfl ?_
  have L8 : ∀ i, i ≤ t → ∀ ν : zMem, zPR (ν 10) (ν 11) (ν 12) (ν 13) (ν 14) (ν 15) (ν 16) ((zpre (μ 2) i).1) ((zpre (μ 2) i).2) ∧ (∀ q, (q < 10 ∨ 16 < q) → ν q = μ q) ∧ (∀ j, j ≤ i → ¬ (zpre (μ 2) j).1 = -1) ∧ zflt (μ 2) t (t - i) i = zfault (μ 2) t → zV χ 4 ad zSH 0 0 8 [(0, .ref (ad 1)), (1, .ref (ad 10)), (2, .int (zi ((zpre (μ 2) i).1))), (3, .int (zi ((i : Nat) : Int)))] [] ν := by
    refine zfor ?_
    intro i hi ih ν hI
    obtain ⟨hR, hfr, hok, hF⟩ := hI
    have hpv := zPV_pre (μ 2) i hok
    have hpv5 : 0 ≤ (zpre (μ 2) i).1 ∧ (zpre (μ 2) i).1 ≤ 7 := ⟨hpv.2.2.2.2.1, hpv.2.2.2.2.2.1⟩
    have e1 : ν 1 1 = (t : Int) := by rw [hfr 1 (by decide)]; exact ht
    refine z_iload_n K dX5_readInto_8 rfl ?_
    refine z_aload_n K dX5_readInto_9 rfl ?_
    refine z_get (k := 1) (v := .int (zi (ν 1 1))) K dX5_readInto_10 fl_X5_22 rfl rfl rfl ?_
    refine z_icmpge (tgt := 60) K dX5_readInto_13 (by decide) (by omega) (by omega) (fun h13 => ?_) (fun h13 => ?_)
    · refine z_iload_n K dX5_readInto_60 rfl ?_
      refine z_iconst K dX5_readInto_61 ?_
      refine z_icmpne (tgt := 70) K dX5_readInto_62 (by decide) (by omega) ⟨by decide, by decide⟩ (fun h62 => ?_) (fun h62 => ?_)
      · refine z_aload_n K dX5_readInto_70 rfl ?_
        refine z_get (k := 1) (v := .int (zi (ν 1 1))) K dX5_readInto_71 fl_X5_22 rfl rfl rfl ?_
        exact z_ireti K T rfl dX5_readInto_74 ⟨(by rw [← hF, show t - i = 0 by omega]; show _ = if _ then _ else _; rw [show t = i by omega, if_neg h62]; omega), fun h9 => absurd h9 (by omega), hfr⟩
      · refine z_bipush K dX5_readInto_65 (by decide +kernel) ?_
        refine z_goto (tgt := 74) K dX5_readInto_67 (by decide) ?_
        exact z_ireti K T rfl dX5_readInto_74 ⟨(by rw [← hF, show t - i = 0 by omega]; show _ = if _ then _ else _; rw [show t = i by omega, if_pos h62]), fun _ => by rw [show t = i by omega, ← h62]; exact hR, hfr⟩
    · have hyi := hy i (by omega)
      refine z_iload_n K dX5_readInto_16 rfl ?_
      refine z_iconst K dX5_readInto_17 ?_
      refine z_icmpgt (tgt := 35) K dX5_readInto_18 (by decide) (by omega) ⟨by decide, by decide⟩ (fun h18 => ?_) (fun h18 => ?_)
      · have e2m : ν 2 = μ 2 := hfr 2 (by decide)
        refine z_aload_n K dX5_readInto_35 rfl ?_
        refine z_iload_n K dX5_readInto_36 rfl ?_
        refine z_aload_n K dX5_readInto_37 rfl ?_
        refine z_get (k := 1) (v := .ref (ad 2)) K dX5_readInto_38 fl_X5_9 rfl rfl rfl ?_
        refine z_iload_n K dX5_readInto_41 rfl ?_
        refine z_iald (k := 2) (v := μ 2 i) K dX5_readInto_42 i rfl (by decide) (by omega) (by omega) (by rw [e2m]) ?_
        refine z_callSi K hl1 hg1 (As := [.ref (ad 10), .int (zi ((zpre (μ 2) i).1)), .int (zi (μ 2 i))]) (rest := []) (ct_readInside_p la g0 ad ν (zpre (μ 2) i).1 (zpre (μ 2) i).2 (μ 2 i) hyi hpv hR (by omega)) (by decide) lk_X5_37 cd_X5_readInside rfl rfl (Nat.le_of_ble_eq_true rfl) dX5_readInto_43 (fun r43 ν2 h43 => ?_)
        obtain ⟨hr43, hR2, hf2⟩ := h43
        have hst : r43 = (zpre (μ 2) (i + 1)).1 := by rw [zpre_s]; exact hr43
        have hR3 := fun h9 : ¬ r43 = -1 => hR2 h9
        subst hst
        refine z_istore_n (lv' := [(0, .ref (ad 1)), (1, .ref (ad 10)), (2, .int (zi ((zpre (μ 2) (i + 1)).1))), (3, .int (zi ((i : Nat) : Int)))]) K dX5_readInto_46 (by decide) rfl ?_
        have hrg9 : -1 ≤ (zpre (μ 2) (i + 1)).1 ∧ (zpre (μ 2) (i + 1)).1 ≤ 7 := by
          by_cases h9 : (zpre (μ 2) (i + 1)).1 = -1
          · omega
          · have := zPV_pre (μ 2) (i + 1) (fun j hj => by
              by_cases e9 : j = i + 1
              · rw [e9]; exact h9
              · exact hok j (by omega))
            exact ⟨by have := this.2.2.2.2.1; omega, this.2.2.2.2.2.1⟩
        refine z_iload_n K dX5_readInto_47 rfl ?_
        refine z_iconst K dX5_readInto_48 ?_
        refine z_icmpne (tgt := 54) K dX5_readInto_49 (by decide) (by omega) ⟨by decide, by decide⟩ (fun h49 => ?_) (fun h49 => ?_)
        · refine z_iincN (lv' := [(0, .ref (ad 1)), (1, .ref (ad 10)), (2, .int (zi ((zpre (μ 2) (i + 1)).1))), (3, .int (zi ((i + 1 : Nat) : Int)))]) K dX5_readInto_54 rfl (by decide) rfl ?_
          refine z_goto (tgt := 8) K dX5_readInto_57 (by decide) ?_
          exact ih (i + 1) (by omega) (by omega) _ ⟨by rw [zpre_s] at h49 hR3 ⊢; exact hR3 h49, fun q hq => by rw [hf2 q hq]; exact hfr q hq, fun j hj => by
            by_cases e9 : j = i + 1
            · rw [e9]; exact h49
            · exact hok j (by omega), by rw [show t - i = (t - (i + 1)) + 1 by omega, zflt_s, if_neg h49] at hF; exact hF⟩
        · refine z_iload_n K dX5_readInto_52 rfl ?_
          exact z_ireti K T rfl dX5_readInto_53 ⟨(by rw [← hF, show t - i = (t - (i + 1)) + 1 by omega, zflt_s, if_pos h49]), fun h9 => absurd h9 (by omega), fun q hq => by rw [hf2 q hq]; exact hfr q hq⟩
      · have e2m : ν 2 = μ 2 := hfr 2 (by decide)
        refine z_aload_n K dX5_readInto_21 rfl ?_
        refine z_iload_n K dX5_readInto_22 rfl ?_
        refine z_aload_n K dX5_readInto_23 rfl ?_
        refine z_get (k := 1) (v := .ref (ad 2)) K dX5_readInto_24 fl_X5_9 rfl rfl rfl ?_
        refine z_iload_n K dX5_readInto_27 rfl ?_
        refine z_iald (k := 2) (v := μ 2 i) K dX5_readInto_28 i rfl (by decide) (by omega) (by omega) (by rw [e2m]) ?_
        refine z_callSi K hl1 hg1 (As := [.ref (ad 10), .int (zi ((zpre (μ 2) i).1)), .int (zi (μ 2 i))]) (rest := []) (ct_readOutside_p la g0 ad ν (zpre (μ 2) i).1 (zpre (μ 2) i).2 (μ 2 i) hyi hpv hR (by omega)) (by decide) lk_X5_33 cd_X5_readOutside rfl rfl (Nat.le_of_ble_eq_true rfl) dX5_readInto_29 (fun r29 ν2 h29 => ?_)
        obtain ⟨hr29, hR2, hf2⟩ := h29
        have hst : r29 = (zpre (μ 2) (i + 1)).1 := by rw [zpre_s]; exact hr29
        have hR3 := fun h9 : ¬ r29 = -1 => hR2 h9
        subst hst
        refine z_goto (tgt := 46) K dX5_readInto_32 (by decide) ?_
        refine z_istore_n (lv' := [(0, .ref (ad 1)), (1, .ref (ad 10)), (2, .int (zi ((zpre (μ 2) (i + 1)).1))), (3, .int (zi ((i : Nat) : Int)))]) K dX5_readInto_46 (by decide) rfl ?_
        have hrg9 : -1 ≤ (zpre (μ 2) (i + 1)).1 ∧ (zpre (μ 2) (i + 1)).1 ≤ 7 := by
          by_cases h9 : (zpre (μ 2) (i + 1)).1 = -1
          · omega
          · have := zPV_pre (μ 2) (i + 1) (fun j hj => by
              by_cases e9 : j = i + 1
              · rw [e9]; exact h9
              · exact hok j (by omega))
            exact ⟨by have := this.2.2.2.2.1; omega, this.2.2.2.2.2.1⟩
        refine z_iload_n K dX5_readInto_47 rfl ?_
        refine z_iconst K dX5_readInto_48 ?_
        refine z_icmpne (tgt := 54) K dX5_readInto_49 (by decide) (by omega) ⟨by decide, by decide⟩ (fun h49 => ?_) (fun h49 => ?_)
        · refine z_iincN (lv' := [(0, .ref (ad 1)), (1, .ref (ad 10)), (2, .int (zi ((zpre (μ 2) (i + 1)).1))), (3, .int (zi ((i + 1 : Nat) : Int)))]) K dX5_readInto_54 rfl (by decide) rfl ?_
          refine z_goto (tgt := 8) K dX5_readInto_57 (by decide) ?_
          exact ih (i + 1) (by omega) (by omega) _ ⟨by rw [zpre_s] at h49 hR3 ⊢; exact hR3 h49, fun q hq => by rw [hf2 q hq]; exact hfr q hq, fun j hj => by
            by_cases e9 : j = i + 1
            · rw [e9]; exact h49
            · exact hok j (by omega), by rw [show t - i = (t - (i + 1)) + 1 by omega, zflt_s, if_neg h49] at hF; exact hF⟩
        · refine z_iload_n K dX5_readInto_52 rfl ?_
          exact z_ireti K T rfl dX5_readInto_53 ⟨(by rw [← hF, show t - i = (t - (i + 1)) + 1 by omega, zflt_s, if_pos h49]), fun h9 => absurd h9 (by omega), fun q hq => by rw [hf2 q hq]; exact hfr q hq⟩
  exact L8 0 (by omega) _ ⟨zPR_00 _ _ _ _ _ _ _ rfl rfl, fun q hq => by unfold zup; rw [if_neg (by omega)], fun j hj => by rw [show j = 0 by omega]; show ¬ (0 : Int) = -1; decide, rfl⟩
set_option maxHeartbeats 4000000 in
set_option maxRecDepth 100000 in
theorem ct_firstFault (la : Launch) (g0 : zG) (ad : Nat → Nat) (μ : zMem) (t : Nat) (ht : μ 1 1 = (t : Int)) (ht48 : t ≤ 48) (hy : ∀ i, i < t → 0 ≤ μ 2 i ∧ μ 2 i ≤ 255) : zCon la g0 yX5_firstFault cX5_firstFault 1 (some .int) 4 ad zSH [.ref (ad 1)] μ (zPi (fun r ν => r = zfault (μ 2) t ∧ ∀ q, (q < 3 ∨ 9 < q) → ν q = μ q)) := by
  refine zCon_of (by decide +kernel) (Nat.le_of_ble_eq_true rfl) ?_
  intro χ K T hl1 hg1
  have K : zOk χ cX5_firstFault RX5 1 4 (some .int) := K
  show zV χ 1 ad zSH 0 0 0 [(0, .ref (ad 1))] [] μ
  refine z_aload_n K dX5_firstFault_0 rfl ?_
  refine z_aload_n K dX5_firstFault_1 rfl ?_
  refine z_get (k := 1) (v := .ref (ad 3)) K dX5_firstFault_2 fl_X5_18 rfl rfl rfl ?_
  refine z_callVi K hl1 hg1 (kb := 1) (As := [.ref (ad 3)]) (rest := []) (ct_readInto_d la g0 ad μ t ht ht48 hy) (by decide) lk_X5_26 cd_X5_readInto rfl rfl rfl rfl (Nat.le_of_ble_eq_true rfl) dX5_firstFault_5 (fun r5 μ5 h5 => ?_)
  exact z_ireti K T rfl dX5_firstFault_8 ⟨h5.1, h5.2.2⟩
set_option maxHeartbeats 4000000 in
set_option maxRecDepth 100000 in
theorem cp_fault (la : Launch) (g0 : zG) (ad : Nat → Nat) (μ : zMem) (t : Nat) (ht : μ 1 1 = (t : Int)) (ht48 : t ≤ 48) (hy : ∀ i, i < t → 0 ≤ μ 2 i ∧ μ 2 i ≤ 255) : zCon la g0 yX8_fault cX8_fault 1 (some .int) 5 ad zSH [.ref (ad 0)] μ (zPi (zQu μ (zfault (μ 2) t))) := by
  refine zCon_of (by decide +kernel) (Nat.le_of_ble_eq_true rfl) ?_
  intro χ K T hl1 hg1
  have K : zOk χ cX8_fault RX8 1 5 (some .int) := K
  show zV χ 1 ad zSH 0 0 0 [(0, .ref (ad 0))] [] μ
  refine z_aload_n K dX8_fault_0 rfl ?_
  refine z_get (k := 0) (v := .ref (ad 1)) K dX8_fault_1 fl_X8_10 rfl rfl rfl ?_
  refine z_callVi K hl1 hg1 (kb := 1) (As := []) (rest := []) (ct_firstFault la g0 ad μ t ht ht48 hy) (by decide) lk_X8_83 cd_X5_firstFault rfl rfl rfl rfl (Nat.le_of_ble_eq_true rfl) dX8_fault_4 (fun r4 μ4 h4 => ?_)
  exact z_ireti K T rfl dX8_fault_7 ⟨h4.1, fun q hq => h4.2 q (by unfold zScr at hq; omega)⟩
set_option maxHeartbeats 4000000 in
set_option maxRecDepth 100000 in
theorem ct_begin (la : Launch) (g0 : zG) (ad : Nat → Nat) (μ : zMem) (n nc : Nat) (hn : μ 10 0 = (n : Int)) (hn6 : n ≤ 6) (hnc : μ 10 1 = (nc : Int)) (hnc3 : nc ≤ 3) : zCon la g0 yX1_begin cX1_begin 2 none 0 ad zSH [.ref (ad 17)] μ (zPv (fun ν => ∃ c, ν = zup μ 18 c ∧ (∀ j, j < n → c j = μ 11 j ∧ c (6 + j) = 0 ∧ c (12 + j) = 0) ∧ (∀ j, j < nc → c (18 + j) = μ 15 j) ∧ c 21 = μ 10 2 ∧ c 22 = 0)) := by
  refine zCon_of (by decide +kernel) (Nat.le_of_ble_eq_true rfl) ?_
  intro χ K T hl1 hg1
  have K : zOk χ cX1_begin RX1 2 0 none := K
  refine z_mem (ν := zup μ 18 (μ 18)) (zup_id μ 18) ?_
  show zV χ 2 ad zSH 0 0 0 [(0, .ref (ad 17))] [] (zup μ 18 (μ 18))
  refine z_iconst K dX1_begin_0 ?_
  refine z_istore_n (lv' := [(0, .ref (ad 17)), (1, .int (zi (0 : Int)))]) K dX1_begin_1 (by decide) rfl ?_
  have L2 : ∀ l, l ≤ n → ∀ c : Nat → Int, ((∀ j, j < l → c j = μ 11 j ∧ c (6 + j) = 0 ∧ c (12 + j) = 0) ∧ (∀ j, j < 0 → c (18 + j) = μ 15 j)) → zV χ 2 ad zSH 0 0 2 [(0, .ref (ad 17)), (1, .int (zi ((l : Nat) : Int)))] [] (zup μ 18 c) := by
    refine zfor ?_
    intro l hl ih c hc
    refine z_iload_n K dX1_begin_2 rfl ?_
    refine z_aload_n K dX1_begin_3 rfl ?_
    refine z_get (k := 17) (v := .ref (ad 10)) K dX1_begin_4 fl_X1_18 rfl rfl rfl ?_
    refine z_get (k := 10) (v := .int (zi (μ 10 0))) K dX1_begin_7 fl_X1_22 rfl rfl rfl ?_
    refine z_icmpge (tgt := 56) K dX1_begin_10 (by decide) (by omega) (by omega) (fun h10 => ?_) (fun h10 => ?_)
    · refine z_iconst K dX1_begin_56 ?_
      refine z_istore_n (lv' := [(0, .ref (ad 17)), (1, .int (zi (0 : Int)))]) K dX1_begin_57 (by decide) rfl ?_
      have L58 : ∀ k, k ≤ nc → ∀ c : Nat → Int, ((∀ j, j < n → c j = μ 11 j ∧ c (6 + j) = 0 ∧ c (12 + j) = 0) ∧ (∀ j, j < k → c (18 + j) = μ 15 j)) → zV χ 2 ad zSH 0 0 58 [(0, .ref (ad 17)), (1, .int (zi ((k : Nat) : Int)))] [] (zup μ 18 c) := by
        refine zfor ?_
        intro k hk ih2 c hc
        refine z_iload_n K dX1_begin_58 rfl ?_
        refine z_aload_n K dX1_begin_59 rfl ?_
        refine z_get (k := 17) (v := .ref (ad 10)) K dX1_begin_60 fl_X1_18 rfl rfl rfl ?_
        refine z_get (k := 10) (v := .int (zi (μ 10 1))) K dX1_begin_63 fl_X1_31 rfl rfl rfl ?_
        refine z_icmpge (tgt := 93) K dX1_begin_66 (by decide) (by omega) (by omega) (fun h66 => ?_) (fun h66 => ?_)
        · refine z_aload_n K dX1_begin_93 rfl ?_
          refine z_get (k := 17) (v := .ref (ad 18)) K dX1_begin_94 fl_X1_11 rfl rfl rfl ?_
          refine z_bipush K dX1_begin_97 (by decide +kernel) ?_
          refine z_aload_n K dX1_begin_99 rfl ?_
          refine z_get (k := 17) (v := .ref (ad 10)) K dX1_begin_100 fl_X1_18 rfl rfl rfl ?_
          refine z_get (k := 10) (v := .int (zi (μ 10 2))) K dX1_begin_103 fl_X1_37 rfl rfl rfl ?_
          refine z_iast (k := 18) K dX1_begin_106 21 rfl (by decide) (by omega) (by omega) (z_mem (ν := zup μ 18 (zu1 c 21 (μ 10 2))) (zup_same _ _ _ _) ?_)
          refine z_aload_n K dX1_begin_107 rfl ?_
          refine z_get (k := 17) (v := .ref (ad 18)) K dX1_begin_108 fl_X1_11 rfl rfl rfl ?_
          refine z_bipush K dX1_begin_111 (by decide +kernel) ?_
          refine z_iconst K dX1_begin_113 ?_
          refine z_iast (k := 18) K dX1_begin_114 22 rfl (by decide) (by omega) (by omega) (z_mem (ν := zup μ 18 (zu1 (zu1 c 21 (μ 10 2)) 22 (0 : Int))) (zup_same _ _ _ _) ?_)
          exact z_vreti K T rfl dX1_begin_115 ⟨_, rfl, fun j hj => by
              have hj3 := hc.1 j hj
              simp only [zu1]
              rw [if_neg (by omega), if_neg (by omega), if_neg (by omega), if_neg (by omega), if_neg (by omega), if_neg (by omega)]; exact hj3, fun j hj => by
              simp only [zu1]
              rw [if_neg (by omega), if_neg (by omega)]; exact hc.2 j (by omega), by rw [zu1_ne _ _ (by decide), zu1_eq], by rw [zu1_eq]⟩
        · refine z_aload_n K dX1_begin_69 rfl ?_
          refine z_get (k := 17) (v := .ref (ad 18)) K dX1_begin_70 fl_X1_11 rfl rfl rfl ?_
          refine z_bipush K dX1_begin_73 (by decide +kernel) ?_
          refine z_iload_n K dX1_begin_75 rfl ?_
          refine z_iadd K dX1_begin_76 ?_
          refine z_aload_n K dX1_begin_77 rfl ?_
          refine z_get (k := 17) (v := .ref (ad 10)) K dX1_begin_78 fl_X1_18 rfl rfl rfl ?_
          refine z_get (k := 10) (v := .ref (ad 15)) K dX1_begin_81 fl_X1_34 rfl rfl rfl ?_
          refine z_iload_n K dX1_begin_84 rfl ?_
          refine z_iald (k := 15) (v := μ 15 k) K dX1_begin_85 k rfl (by decide) (by omega) (by omega) rfl ?_
          refine z_iast (k := 18) K dX1_begin_86 (18 + k) rfl (by decide) (by omega) (by omega) (z_mem (ν := zup μ 18 (zu1 c (18 + k) (μ 15 k))) (zup_same _ _ _ _) ?_)
          refine z_iincN (lv' := [(0, .ref (ad 17)), (1, .int (zi ((k + 1 : Nat) : Int)))]) K dX1_begin_87 rfl (by decide) rfl ?_
          refine z_goto (tgt := 58) K dX1_begin_90 (by decide) ?_
          exact ih2 (k + 1) (by omega) (by omega) _ ⟨fun j hj => by
            have hj3 := hc.1 j hj
            rw [zu1_ne _ _ (by omega), zu1_ne _ _ (by omega), zu1_ne _ _ (by omega)]; exact hj3, fun j hj => by
            by_cases e : j = k
            · subst e; rw [zu1_eq]
            · rw [zu1_ne _ _ (by omega)]; exact hc.2 j (by omega)⟩
      exact L58 0 (by omega) _ ⟨fun j hj => hc.1 j (by omega), fun j hj => absurd hj (by omega)⟩
    · refine z_aload_n K dX1_begin_13 rfl ?_
      refine z_get (k := 17) (v := .ref (ad 18)) K dX1_begin_14 fl_X1_11 rfl rfl rfl ?_
      refine z_iconst K dX1_begin_17 ?_
      refine z_iload_n K dX1_begin_18 rfl ?_
      refine z_iadd K dX1_begin_19 ?_
      refine z_aload_n K dX1_begin_20 rfl ?_
      refine z_get (k := 17) (v := .ref (ad 10)) K dX1_begin_21 fl_X1_18 rfl rfl rfl ?_
      refine z_get (k := 10) (v := .ref (ad 11)) K dX1_begin_24 fl_X1_28 rfl rfl rfl ?_
      refine z_iload_n K dX1_begin_27 rfl ?_
      refine z_iald (k := 11) (v := μ 11 l) K dX1_begin_28 l rfl (by decide) (by omega) (by omega) rfl ?_
      refine z_iast (k := 18) K dX1_begin_29 l rfl (by decide) (by omega) (by omega) (z_mem (ν := zup μ 18 (zu1 c l (μ 11 l))) (zup_same _ _ _ _) ?_)
      refine z_aload_n K dX1_begin_30 rfl ?_
      refine z_get (k := 17) (v := .ref (ad 18)) K dX1_begin_31 fl_X1_11 rfl rfl rfl ?_
      refine z_bipush K dX1_begin_34 (by decide +kernel) ?_
      refine z_iload_n K dX1_begin_36 rfl ?_
      refine z_iadd K dX1_begin_37 ?_
      refine z_iconst K dX1_begin_38 ?_
      refine z_iast (k := 18) K dX1_begin_39 (6 + l) rfl (by decide) (by omega) (by omega) (z_mem (ν := zup μ 18 (zu1 (zu1 c l (μ 11 l)) (6 + l) (0 : Int))) (zup_same _ _ _ _) ?_)
      refine z_aload_n K dX1_begin_40 rfl ?_
      refine z_get (k := 17) (v := .ref (ad 18)) K dX1_begin_41 fl_X1_11 rfl rfl rfl ?_
      refine z_bipush K dX1_begin_44 (by decide +kernel) ?_
      refine z_iload_n K dX1_begin_46 rfl ?_
      refine z_iadd K dX1_begin_47 ?_
      refine z_iconst K dX1_begin_48 ?_
      refine z_iast (k := 18) K dX1_begin_49 (12 + l) rfl (by decide) (by omega) (by omega) (z_mem (ν := zup μ 18 (zu1 (zu1 (zu1 c l (μ 11 l)) (6 + l) (0 : Int)) (12 + l) (0 : Int))) (zup_same _ _ _ _) ?_)
      refine z_iincN (lv' := [(0, .ref (ad 17)), (1, .int (zi ((l + 1 : Nat) : Int)))]) K dX1_begin_50 rfl (by decide) rfl ?_
      refine z_goto (tgt := 2) K dX1_begin_53 (by decide) ?_
      exact ih (l + 1) (by omega) (by omega) _ ⟨fun j hj => by
        have hj2 := hc.1 j
        simp only [zu1]
        by_cases e : j = l
        · subst e; refine ⟨?_, ?_, ?_⟩
          · rw [if_neg (by omega), if_neg (by omega), if_pos rfl]
          · rw [if_neg (by omega), if_pos rfl]
          · rw [if_pos rfl]
        · have hj3 := hj2 (by omega)
          refine ⟨?_, ?_, ?_⟩
          · rw [if_neg (by omega), if_neg (by omega), if_neg (by omega)]; exact hj3.1
          · rw [if_neg (by omega), if_neg (by omega), if_neg (by omega)]; exact hj3.2.1
          · rw [if_neg (by omega), if_neg (by omega), if_neg (by omega)]; exact hj3.2.2, fun j hj => absurd hj (by omega)⟩
  exact L2 0 (by omega) _ ⟨fun j hj => absurd hj (by omega), fun j hj => absurd hj (by omega)⟩
theorem zflt_ge (y : Nat → Int) (t : Nat) : ∀ r i, r + i = t → (zflt y t r i = -9 ∨ (0 ≤ zflt y t r i ∧ zflt y t r i ≤ t)) ∧ (zflt y t r i = -9 → ∀ j, i < j → j ≤ t → ¬ (zpre y j).1 = -1) := by
  intro r
  induction r with
  | zero =>
    intro i h
    refine ⟨?_, fun _ j h1 h2 => absurd h1 (by omega)⟩
    show (if (zpre y t).1 = 2 then -9 else (t : Int)) = -9 ∨ (0 ≤ (if (zpre y t).1 = 2 then -9 else (t : Int)) ∧ (if (zpre y t).1 = 2 then -9 else (t : Int)) ≤ t)
    split <;> omega
  | succ r ih =>
    intro i h
    obtain ⟨h1, h2⟩ := ih (i + 1) (by omega)
    rw [zflt_s]
    split
    · exact ⟨by omega, fun h9 => absurd h9 (by omega)⟩
    · rename_i hne
      refine ⟨h1, fun h9 j h3 h4 => ?_⟩
      by_cases e : j = i + 1
      · rw [e]; exact hne
      · exact h2 h9 j (by omega) h4
theorem zfault_rg (y : Nat → Int) (t : Nat) : zfault y t = -9 ∨ (0 ≤ zfault y t ∧ zfault y t ≤ t) := (zflt_ge y t t 0 (by omega)).1
theorem zfault_ok (y : Nat → Int) (t : Nat) (h : zfault y t = -9) : ∀ j, j ≤ t → ¬ (zpre y j).1 = -1 := by
  intro j hj
  by_cases e : j = 0
  · rw [e]; show ¬ (0 : Int) = -1; decide
  · exact (zflt_ge y t t 0 (by omega)).2 h j (by omega) hj
set_option maxHeartbeats 4000000 in
set_option maxRecDepth 100000 in
theorem cp_room (la : Launch) (g0 : zG) (ad : Nat → Nat) (μ : zMem) (t : Nat) (ht : μ 1 1 = (t : Int)) (ht48 : t ≤ 48) (hy : ∀ i, i < t → 0 ≤ μ 2 i ∧ μ 2 i ≤ 255) : zCon la g0 yX8_room cX8_room 2 (some .int) 5 ad zSH [.ref (ad 0)] μ (zPi (fun r ν => (∀ q, (q < 3 ∨ 16 < q) → q ≠ 18 → q ≠ 28 → q ≠ 33 → ν q = μ q) ∧ (if zfault (μ 2) t = -9 then r = 10 * ((zpre (μ 2) t).2.1 : Int) + ((zpre (μ 2) t).2.2.1 : Int) ∧ zPR (ν 10) (ν 11) (ν 12) (ν 13) (ν 14) (ν 15) (ν 16) 2 (zpre (μ 2) t).2 ∧ (∀ j, j < (zpre (μ 2) t).2.1 → ν 18 j = ν 11 j ∧ ν 18 (6 + j) = 0 ∧ ν 18 (12 + j) = 0) ∧ (∀ j, j < (zpre (μ 2) t).2.2.1 → ν 18 (18 + j) = ν 15 j) ∧ ν 18 21 = ν 10 2 ∧ ν 18 22 = 0 ∧ ν 28 1 = 0 ∧ ν 28 2 = 0 ∧ ν 33 0 = 0 ∧ ν 33 1 = 0 else r = -3 ∧ ∀ q, (q < 3 ∨ 9 < q) → ν q = μ q))) := by
  refine zCon_of (by decide +kernel) (Nat.le_of_ble_eq_true rfl) ?_
  intro χ K T hl1 hg1
  have K : zOk χ cX8_room RX8 2 5 (some .int) := K
  show zV χ 2 ad zSH 0 0 0 [(0, .ref (ad 0))] [] μ
  refine z_aload_n K dX8_room_0 rfl ?_
  refine z_get (k := 0) (v := .ref (ad 1)) K dX8_room_1 fl_X8_10 rfl rfl rfl ?_
  refine z_callVi K hl1 hg1 (kb := 1) (As := []) (rest := []) (ct_firstFault la g0 ad μ t ht ht48 hy) (by decide) lk_X8_83 cd_X5_firstFault rfl rfl rfl rfl (Nat.le_of_ble_eq_true rfl) dX8_room_4 (fun r4 ν1 h4 => ?_)
  obtain ⟨hr4, hf1⟩ := h4
  have hy1 : ν1 2 = μ 2 := hf1 2 (by decide)
  have hz48 : -9 ≤ zfault (μ 2) t ∧ zfault (μ 2) t ≤ 48 := by have := zfault_rg (μ 2) t; omega
  refine z_bipush K dX8_room_7 (by decide +kernel) ?_
  refine z_icmpeq (tgt := 15) K dX8_room_9 (by decide) (by omega) ⟨by decide, by decide⟩ (fun h9 => ?_) (fun h9 => ?_)
  · refine z_aload_n K dX8_room_15 rfl ?_
    refine z_get (k := 0) (v := .ref (ad 1)) K dX8_room_16 fl_X8_10 rfl rfl rfl ?_
    refine z_aload_n K dX8_room_19 rfl ?_
    refine z_get (k := 0) (v := .ref (ad 10)) K dX8_room_20 fl_X8_19 rfl rfl rfl ?_
    refine z_callVi K hl1 hg1 (kb := 1) (As := [.ref (ad 10)]) (rest := []) (ct_readInto_p la g0 ad ν1 t (by rw [hf1 1 (by decide)]; exact ht) ht48 (by rw [hy1]; exact hy)) (by decide) lk_X8_86 cd_X5_readInto rfl rfl rfl rfl (Nat.le_of_ble_eq_true rfl) dX8_room_23 (fun r23 ν2 h23 => ?_)
    obtain ⟨hr23, hR2, hf2⟩ := h23
    rw [hy1] at hr23 hR2
    have hR := hR2 (by rw [hr23, ← hr4]; exact h9)
    have hok : ∀ j, j ≤ t → ¬ (zpre (μ 2) j).1 = -1 := zfault_ok (μ 2) t (by rw [← hr4]; exact h9)
    have hpv := zPV_pre (μ 2) t hok
    obtain ⟨e0, e1, e2, e3, e4, e5, e6, e7⟩ := id hR
    refine z_pop K dX8_room_26 rfl ?_
    refine z_aload_n K dX8_room_27 rfl ?_
    refine z_get (k := 0) (v := .ref (ad 17)) K dX8_room_28 fl_X8_28 rfl rfl rfl ?_
    refine z_callVv K hl1 hg1 (kb := 17) (As := []) (rest := []) (ct_begin la g0 ad ν2 ((zpre (μ 2) t).2).1 ((zpre (μ 2) t).2).2.1 e0 hpv.1 e1 hpv.2.1) (by decide) lk_X8_90 cd_X1_begin rfl rfl rfl rfl (Nat.le_of_ble_eq_true rfl) dX8_room_31 (fun ν3 h31 => ?_)
    obtain ⟨c, hν3, hc1, hc2, hc3, hc4⟩ := h31
    subst hν3
    refine z_aload_n K dX8_room_34 rfl ?_
    refine z_get (k := 0) (v := .ref (ad 28)) K dX8_room_35 fl_X8_44 rfl rfl rfl ?_
    refine z_callVm K hl1 hg1 (kb := 28) (As := []) (rest := []) (ct_past_clear la g0 ad (zup ν2 18 c)) (by decide) lk_X8_93 cd_X3_clear rfl rfl rfl rfl (Nat.le_of_ble_eq_true rfl) dX8_room_38 ?_
    refine z_iconst K dX8_room_41 ?_
    refine z_istore_n (lv' := [(0, .ref (ad 0)), (1, .int (zi (0 : Int)))]) K dX8_room_42 (by decide) rfl ?_
    have L43 : ∀ i, i ≤ 2 → ∀ g : Nat → Int, (∀ j, j < i → g j = 0) → zV χ 2 ad zSH 0 0 43 [(0, .ref (ad 0)), (1, .int (zi ((i : Nat) : Int)))] [] (zup (zup (zup ν2 18 c) 28 (zu1 (zu1 (ν2 28) 1 0) 2 0)) 33 g) := by
      refine zfor ?_
      intro i hi ih g hg
      refine z_iload_n K dX8_room_43 rfl ?_
      refine z_iconst K dX8_room_44 ?_
      refine z_icmpge (tgt := 61) K dX8_room_45 (by decide) (by omega) ⟨by decide, by decide⟩ (fun h45 => ?_) (fun h45 => ?_)
      · refine z_bipush K dX8_room_61 (by decide +kernel) ?_
        refine z_aload_n K dX8_room_63 rfl ?_
        refine z_get (k := 0) (v := .ref (ad 10)) K dX8_room_64 fl_X8_19 rfl rfl rfl ?_
        refine z_get (k := 10) (v := .int (zi (ν2 10 0))) K dX8_room_67 fl_X8_95 rfl rfl rfl ?_
        refine z_imul K dX8_room_70 ?_
        refine z_aload_n K dX8_room_71 rfl ?_
        refine z_get (k := 0) (v := .ref (ad 10)) K dX8_room_72 fl_X8_19 rfl rfl rfl ?_
        refine z_get (k := 10) (v := .int (zi (ν2 10 1))) K dX8_room_75 fl_X8_99 rfl rfl rfl ?_
        refine z_iadd K dX8_room_78 ?_
        exact z_ireti K T rfl dX8_room_79 ⟨fun q hq h18 h28 h33 => by unfold zup; rw [if_neg h33, if_neg h28, if_neg h18, hf2 q (by omega)]; exact hf1 q (by omega), by
            rw [if_pos (by rw [← hr4]; exact h9)]
            exact ⟨by rw [← e0, ← e1], hR, hc1, hc2, hc3, hc4, rfl, rfl, hg 0 (by omega), hg 1 (by omega)⟩⟩
      · refine z_aload_n K dX8_room_48 rfl ?_
        refine z_get (k := 0) (v := .ref (ad 33)) K dX8_room_49 fl_X8_57 rfl rfl rfl ?_
        refine z_iload_n K dX8_room_52 rfl ?_
        refine z_iconst K dX8_room_53 ?_
        refine z_zast (k := 33) K dX8_room_54 i rfl (by decide) (by omega) (by omega) (Or.inl rfl) (z_mem (ν := zup (zup (zup ν2 18 c) 28 (zu1 (zu1 (ν2 28) 1 0) 2 0)) 33 (zu1 g i (0 : Int))) (zup_same _ _ _ _) ?_)
        refine z_iincN (lv' := [(0, .ref (ad 0)), (1, .int (zi ((i + 1 : Nat) : Int)))]) K dX8_room_55 rfl (by decide) rfl ?_
        refine z_goto (tgt := 43) K dX8_room_58 (by decide) ?_
        exact ih (i + 1) (by omega) (by omega) _ (fun j hj => by
          by_cases e : j = i
          · subst e; rw [zu1_eq]
          · rw [zu1_ne _ _ e]; exact hg j (by omega))
    refine z_mem (ν := zup (zup (zup ν2 18 c) 28 (zu1 (zu1 (ν2 28) 1 0) 2 0)) 33 (ν2 33)) (zup_id (zup (zup ν2 18 c) 28 (zu1 (zu1 (ν2 28) 1 0) 2 0)) 33) ?_
    exact L43 0 (by omega) _ (fun j hj => absurd hj (by omega))
  · refine z_bipush K dX8_room_12 (by decide +kernel) ?_
    exact z_ireti K T rfl dX8_room_14 ⟨fun q hq _ _ _ => hf1 q (by omega), by rw [if_neg (by rw [← hr4]; exact h9)]; exact ⟨rfl, hf1⟩⟩
