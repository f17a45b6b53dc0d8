set_option maxHeartbeats 4000000 in
set_option maxRecDepth 100000 in
theorem cm_canPut_g (la : Launch) (g0 : zG) (ad : Nat → Nat) (μ : zMem) (n nc S : Nat) (kd al wt an c : Nat → Int) (hm : zMP μ n nc kd al wt an) (hw : zHW n nc c) (hg : zAg n nc S (μ 46) c) (l : Nat) (hl : l < n) (h : Int) (hh : zR h) : zCon la g0 yX9_canPut cX9_canPut 4 (some .boolean) 2 ad zSH [.ref (ad 39), .ref (ad 46), .int (zi ((l : Nat) : Int)), .int (zi h)] μ (zPd μ (if c (12 + l) = 0 ∧ c l ≠ (h : Int) ∧ zpop (zin c (h : Int) n) < 2 then 1 else 0)) := by
  refine zCon_of (by decide +kernel) (Nat.le_of_ble_eq_true rfl) ?_
  intro χ K T hl1 hg1
  have K : zOk χ cX9_canPut RX9 4 2 (some .boolean) := K
  obtain ⟨hn, hnc, hpl, hpa, hpk⟩ := id hm
  have hn6 := hpk.1
  have hnc3 := hpk.2.1
  have ag := hg.1 l hl
  have hvl := hw.1 l hl
  have hzl : zin c h n < 64 := Nat.lt_of_lt_of_le (zin_lt c h n) (Nat.pow_le_pow_right (by decide) hn6)
  have hpo := zpop_le (zin c h n)
  show zV χ 4 ad zSH 0 0 0 [(0, .ref (ad 39)), (1, .ref (ad 46)), (2, .int (zi ((l : Nat) : Int))), (3, .int (zi h))] [] μ
  refine z_aload_n K dX9_canPut_0 rfl ?_
  refine z_bipush K dX9_canPut_1 (by decide +kernel) ?_
  refine z_iload_n K dX9_canPut_3 rfl ?_
  refine z_iadd K dX9_canPut_4 ?_
  refine z_iald (k := 46) (v := c (12 + l)) K dX9_canPut_5 (6 + l) rfl (by decide) (by omega) (by omega) ag.2.1 ?_
  refine z_ifne (tgt := 33) K dX9_canPut_6 (by decide) (by omega) (fun h6 => ?_) (fun h6 => ?_)
  · refine z_iconst K dX9_canPut_33 ?_
    exact z_zretd K T rfl dX9_canPut_34 (Or.inl rfl) (by rw [if_neg (by omega)]) rfl
  · refine z_aload_n K dX9_canPut_9 rfl ?_
    refine z_iload_n K dX9_canPut_10 rfl ?_
    refine z_iald (k := 46) (v := c l) K dX9_canPut_11 l rfl (by decide) (by omega) (by omega) ag.1 ?_
    refine z_iload_n K dX9_canPut_12 rfl ?_
    refine z_icmpeq (tgt := 33) K dX9_canPut_13 (by decide) (by omega) (by omega) (fun h13 => ?_) (fun h13 => ?_)
    · refine z_iconst K dX9_canPut_33 ?_
      exact z_zretd K T rfl dX9_canPut_34 (Or.inl rfl) (by rw [if_neg (by omega)]) rfl
    · refine z_aload_n K dX9_canPut_16 rfl ?_
      refine z_aload_n K dX9_canPut_17 rfl ?_
      refine z_iload_n K dX9_canPut_18 rfl ?_
      refine z_callVd K hl1 hg1 (kb := 39) (As := [.ref (ad 46), .int (zi h)]) (rest := []) (cm_inHole_g la g0 ad μ n nc S kd al wt an c hm hw hg h hh) (by decide) lk_X9_125 cd_X9_inHole rfl rfl rfl rfl (Nat.le_of_ble_eq_true rfl) dX9_canPut_19 ?_
      refine z_callSd K hl1 hg1 (As := [.int (zi ((zin c h n : Nat) : Int))]) (rest := []) (cm_many la g0 ad μ (zin c h n) hzl) (by decide) lk_X9_128 cd_X9_many rfl rfl (Nat.le_of_ble_eq_true rfl) dX9_canPut_22 ?_
      refine z_iconst K dX9_canPut_25 ?_
      refine z_icmpge (tgt := 33) K dX9_canPut_26 (by decide) (by omega) ⟨by decide, by decide⟩ (fun h26 => ?_) (fun h26 => ?_)
      · refine z_iconst K dX9_canPut_33 ?_
        exact z_zretd K T rfl dX9_canPut_34 (Or.inl rfl) (by rw [if_neg (by omega)]) rfl
      · refine z_iconst K dX9_canPut_29 ?_
        refine z_goto (tgt := 34) K dX9_canPut_30 (by decide) ?_
        exact z_zretd K T rfl dX9_canPut_34 (Or.inr rfl) (by rw [if_pos ⟨by omega, by omega, by omega⟩]) rfl
set_option maxHeartbeats 4000000 in
set_option maxRecDepth 100000 in
theorem cm_canPut_r (la : Launch) (g0 : zG) (ad : Nat → Nat) (μ : zMem) (n nc S : Nat) (kd al wt an c : Nat → Int) (hm : zMP μ n nc kd al wt an) (hw : zHW n nc c) (hg : zAg n nc S (μ 47) c) (l : Nat) (hl : l < n) (h : Int) (hh : zR h) : zCon la g0 yX9_canPut cX9_canPut 4 (some .boolean) 2 ad zSH [.ref (ad 39), .ref (ad 47), .int (zi ((l : Nat) : Int)), .int (zi h)] μ (zPd μ (if c (12 + l) = 0 ∧ c l ≠ (h : Int) ∧ zpop (zin c (h : Int) n) < 2 then 1 else 0)) := by
  refine zCon_of (by decide +kernel) (Nat.le_of_ble_eq_true rfl) ?_
  intro χ K T hl1 hg1
  have K : zOk χ cX9_canPut RX9 4 2 (some .boolean) := K
  obtain ⟨hn, hnc, hpl, hpa, hpk⟩ := id hm
  have hn6 := hpk.1
  have hnc3 := hpk.2.1
  have ag := hg.1 l hl
  have hvl := hw.1 l hl
  have hzl : zin c h n < 64 := Nat.lt_of_lt_of_le (zin_lt c h n) (Nat.pow_le_pow_right (by decide) hn6)
  have hpo := zpop_le (zin c h n)
  show zV χ 4 ad zSH 0 0 0 [(0, .ref (ad 39)), (1, .ref (ad 47)), (2, .int (zi ((l : Nat) : Int))), (3, .int (zi h))] [] μ
  refine z_aload_n K dX9_canPut_0 rfl ?_
  refine z_bipush K dX9_canPut_1 (by decide +kernel) ?_
  refine z_iload_n K dX9_canPut_3 rfl ?_
  refine z_iadd K dX9_canPut_4 ?_
  refine z_iald (k := 47) (v := c (12 + l)) K dX9_canPut_5 (6 + l) rfl (by decide) (by omega) (by omega) ag.2.1 ?_
  refine z_ifne (tgt := 33) K dX9_canPut_6 (by decide) (by omega) (fun h6 => ?_) (fun h6 => ?_)
  · refine z_iconst K dX9_canPut_33 ?_
    exact z_zretd K T rfl dX9_canPut_34 (Or.inl rfl) (by rw [if_neg (by omega)]) rfl
  · refine z_aload_n K dX9_canPut_9 rfl ?_
    refine z_iload_n K dX9_canPut_10 rfl ?_
    refine z_iald (k := 47) (v := c l) K dX9_canPut_11 l rfl (by decide) (by omega) (by omega) ag.1 ?_
    refine z_iload_n K dX9_canPut_12 rfl ?_
    refine z_icmpeq (tgt := 33) K dX9_canPut_13 (by decide) (by omega) (by omega) (fun h13 => ?_) (fun h13 => ?_)
    · refine z_iconst K dX9_canPut_33 ?_
      exact z_zretd K T rfl dX9_canPut_34 (Or.inl rfl) (by rw [if_neg (by omega)]) rfl
    · refine z_aload_n K dX9_canPut_16 rfl ?_
      refine z_aload_n K dX9_canPut_17 rfl ?_
      refine z_iload_n K dX9_canPut_18 rfl ?_
      refine z_callVd K hl1 hg1 (kb := 39) (As := [.ref (ad 47), .int (zi h)]) (rest := []) (cm_inHole_r la g0 ad μ n nc S kd al wt an c hm hw hg h hh) (by decide) lk_X9_125 cd_X9_inHole rfl rfl rfl rfl (Nat.le_of_ble_eq_true rfl) dX9_canPut_19 ?_
      refine z_callSd K hl1 hg1 (As := [.int (zi ((zin c h n : Nat) : Int))]) (rest := []) (cm_many la g0 ad μ (zin c h n) hzl) (by decide) lk_X9_128 cd_X9_many rfl rfl (Nat.le_of_ble_eq_true rfl) dX9_canPut_22 ?_
      refine z_iconst K dX9_canPut_25 ?_
      refine z_icmpge (tgt := 33) K dX9_canPut_26 (by decide) (by omega) ⟨by decide, by decide⟩ (fun h26 => ?_) (fun h26 => ?_)
      · refine z_iconst K dX9_canPut_33 ?_
        exact z_zretd K T rfl dX9_canPut_34 (Or.inl rfl) (by rw [if_neg (by omega)]) rfl
      · refine z_iconst K dX9_canPut_29 ?_
        refine z_goto (tgt := 34) K dX9_canPut_30 (by decide) ?_
        exact z_zretd K T rfl dX9_canPut_34 (Or.inr rfl) (by rw [if_pos ⟨by omega, by omega, by omega⟩]) rfl
