theorem zb7 : ∀ k, k < 3 → zbit 7 k = 1 := by decide
set_option maxHeartbeats 4000000 in
set_option maxRecDepth 100000 in
theorem cm_pairs (la : Launch) (g0 : zG) (ad : Nat → Nat) (μ : zMem) (n nc : Nat) (kd al wt an c : Nat → Int) (hm : zMP μ n nc kd al wt an) (hw : zHV n nc c) (hg : zAg n nc 7 (μ 46) c) : zCon la g0 yX9_pairs cX9_pairs 3 (some .int) 2 ad zSH [.ref (ad 39)] μ (zPd μ ((zpair c n 12 : Nat) : Int)) := by
  refine zCon_of (by decide +kernel) (Nat.le_of_ble_eq_true rfl) ?_
  intro χ K T hl1 hg1
  have K : zOk χ cX9_pairs RX9 3 2 (some .int) := K
  obtain ⟨hn, hnc, hpl, hpa, hpk⟩ := id hm
  have hn6 := hpk.1
  have hnc3 := hpk.2.1
  have h6 : 2 ^ n ≤ 2 ^ 6 := Nat.pow_le_pow_right (by decide) hn6
  have hwl : zwho c 2 n < 64 := Nat.lt_of_lt_of_le (zwho_lt c 2 n) h6
  show zV χ 3 ad zSH 0 0 0 [(0, .ref (ad 39))] [] μ
  refine z_iconst K dX9_pairs_0 ?_
  refine z_istore_n (lv' := [(0, .ref (ad 39)), (1, .int (zi (0 : Int)))]) K dX9_pairs_1 (by decide) rfl ?_
  refine z_iconst K dX9_pairs_2 ?_
  refine z_istore_n (lv' := [(0, .ref (ad 39)), (1, .int (zi (0 : Int))), (2, .int (zi (0 : Int)))]) K dX9_pairs_3 (by decide) rfl ?_
  have L4 : ∀ h, h ≤ 12 → zV χ 3 ad zSH 0 0 4 [(0, .ref (ad 39)), (1, .int (zi ((zpair c n h : Nat) : Int))), (2, .int (zi ((h : Nat) : Int)))] [] μ := by
    refine zfor ?_
    intro h hh ih
    have hpo := zpop_le (zin c h n &&& zwho c 2 n)
    have hal : zin c h n &&& zwho c 2 n < 64 := Nat.lt_of_le_of_lt Nat.and_le_right hwl
    refine z_iload_n K dX9_pairs_4 rfl ?_
    refine z_bipush K dX9_pairs_5 (by decide +kernel) ?_
    refine z_icmpge (tgt := 52) K dX9_pairs_7 (by decide) (by omega) ⟨by decide, by decide⟩ (fun h7 => ?_) (fun h7 => ?_)
    · refine z_iload_n K dX9_pairs_52 rfl ?_
      exact z_iretd K T rfl dX9_pairs_53 (by rw [show h = 12 by omega]) rfl
    · refine z_iload_n K dX9_pairs_10 rfl ?_
      refine z_aload_n K dX9_pairs_11 rfl ?_
      refine z_aload_n K dX9_pairs_12 rfl ?_
      refine z_get (k := 39) (v := .ref (ad 46)) K dX9_pairs_13 fl_X9_28 rfl rfl rfl ?_
      refine z_iload_n K dX9_pairs_16 rfl ?_
      refine z_callVd K hl1 hg1 (kb := 39) (As := [.ref (ad 46), .int (zi ((h : Nat) : Int))]) (rest := [.int (zi ((zpair c n h : Nat) : Int))]) (cm_inHole_g la g0 ad μ n nc 7 kd al wt an c hm hw.1 hg (h : Int) ⟨by omega, by omega⟩) (by decide) lk_X9_125 cd_X9_inHole rfl rfl rfl rfl (Nat.le_of_ble_eq_true rfl) dX9_pairs_17 ?_
      refine z_aload_n K dX9_pairs_20 rfl ?_
      refine z_aload_n K dX9_pairs_21 rfl ?_
      refine z_get (k := 39) (v := .ref (ad 46)) K dX9_pairs_22 fl_X9_28 rfl rfl rfl ?_
      refine z_iconst K dX9_pairs_25 ?_
      refine z_callVd K hl1 hg1 (kb := 39) (As := [.ref (ad 46), .int (zi (2 : Int))]) (rest := [.int (zi ((zin c h n : Nat) : Int)), .int (zi ((zpair c n h : Nat) : Int))]) (cm_thatAre_g la g0 ad μ n nc 7 kd al wt an c hm hw.1 hg 2 ⟨by decide, by decide⟩) (by decide) lk_X9_122 cd_X9_thatAre rfl rfl rfl rfl (Nat.le_of_ble_eq_true rfl) dX9_pairs_26 ?_
      refine z_iandR (z := zi ((zin c h n &&& zwho c 2 n : Nat) : Int)) K dX9_pairs_29 (zb_and _ _) ?_
      refine z_callSd K hl1 hg1 (As := [.int (zi ((zin c h n &&& zwho c 2 n : Nat) : Int))]) (rest := [.int (zi ((zpair c n h : Nat) : Int))]) (cm_many la g0 ad μ (zin c h n &&& zwho c 2 n) hal) (by decide) lk_X9_128 cd_X9_many rfl rfl (Nat.le_of_ble_eq_true rfl) dX9_pairs_30 ?_
      refine z_iconst K dX9_pairs_33 ?_
      refine z_icmple (tgt := 43) K dX9_pairs_34 (by decide) (by omega) ⟨by decide, by decide⟩ (fun h34 => ?_) (fun h34 => ?_)
      · refine z_iconst K dX9_pairs_43 ?_
        refine z_iorR (z := zi ((zpair c n h : Nat) : Int)) K dX9_pairs_44 (zb_or0 _) ?_
        refine z_istore_n (lv' := [(0, .ref (ad 39)), (1, .int (zi ((zpair c n h : Nat) : Int))), (2, .int (zi ((h : Nat) : Int)))]) K dX9_pairs_45 (by decide) rfl ?_
        refine z_iincN (lv' := [(0, .ref (ad 39)), (1, .int (zi ((zpair c n h : Nat) : Int))), (2, .int (zi ((h + 1 : Nat) : Int)))]) K dX9_pairs_46 rfl (by decide) rfl ?_
        refine z_goto (tgt := 4) K dX9_pairs_49 (by decide) ?_
        have e9 : zpair c n h = zpair c n (h + 1) := by
          rw [zpair_s]
          rw [if_neg (by omega)]
        rw [e9]
        exact ih (h + 1) (by omega) (by omega)
      · refine z_iconst K dX9_pairs_37 ?_
        refine z_iload_n K dX9_pairs_38 rfl ?_
        refine z_ishlR (z := zi ((2 ^ h : Nat) : Int)) K dX9_pairs_39 (zb_shl h (by omega)) ?_
        refine z_goto (tgt := 44) K dX9_pairs_40 (by decide) ?_
        refine z_iorR (z := zi ((zpair c n h ||| 2 ^ h : Nat) : Int)) K dX9_pairs_44 (zb_or _ _) ?_
        refine z_istore_n (lv' := [(0, .ref (ad 39)), (1, .int (zi ((zpair c n h ||| 2 ^ h : Nat) : Int))), (2, .int (zi ((h : Nat) : Int)))]) K dX9_pairs_45 (by decide) rfl ?_
        refine z_iincN (lv' := [(0, .ref (ad 39)), (1, .int (zi ((zpair c n h ||| 2 ^ h : Nat) : Int))), (2, .int (zi ((h + 1 : Nat) : Int)))]) K dX9_pairs_46 rfl (by decide) rfl ?_
        refine z_goto (tgt := 4) K dX9_pairs_49 (by decide) ?_
        have e9 : zpair c n h ||| 2 ^ h = zpair c n (h + 1) := by
          rw [zpair_s]
          rw [if_pos (by omega)]
        rw [e9]
        exact ih (h + 1) (by omega) (by omega)
  exact L4 0 (by omega)
set_option maxHeartbeats 4000000 in
set_option maxRecDepth 100000 in
theorem cq_about (la : Launch) (g0 : zG) (ad : Nat → Nat) (μ : zMem) (n nc : Nat) (kd al wt an c : Nat → Int) (hm : zMP μ n nc kd al wt an) (hw : zHV n nc c) (hg : zAg n nc 7 (μ 46) c) (x : Int) (hx : zR x) : zCon la g0 yX9_about cX9_about 2 (some .int) 3 ad zSH [.ref (ad 39), .int (zi x)] μ (zPi (zQm μ (zA_about n nc c (μ 39 17) (μ 39 20) (μ 39 2) x))) := by
  refine zCon_of (by decide +kernel) (Nat.le_of_ble_eq_true rfl) ?_
  intro χ K T hl1 hg1
  have K : zOk χ cX9_about RX9 2 3 (some .int) := K
  obtain ⟨hn, hnc, hpl, hpa, hpk⟩ := id hm
  have hn6 := hpk.1
  have hnc3 := hpk.2.1
  refine z_mem (ν := zup μ 39 (μ 39)) (zup_id μ 39) ?_
  show zV χ 2 ad zSH 0 0 0 [(0, .ref (ad 39)), (1, .int (zi x))] [] (zup μ 39 (μ 39))
  refine z_aload_n K dX9_about_0 rfl ?_
  refine z_iconst K dX9_about_1 ?_
  refine z_puti (k := 39) K dX9_about_2 fp_X9_59 rfl rfl (z_mem (ν := zup μ 39 (zu1 (μ 39) 0 (0 : Int))) (zup_same _ _ _ _) ?_)
  refine z_iload_n K dX9_about_5 rfl ?_
  rcases (show x = 0 ∨ x = 1 ∨ x = 2 ∨ x = 3 ∨ x = 4 ∨ x = 5 ∨ x = 6 ∨ x = 7 ∨ x = 8 ∨ x = 9 ∨ x = 10 ∨ x = 11 ∨ (x < 0 ∨ 11 < x) by omega) with hsw | hsw | hsw | hsw | hsw | hsw | hsw | hsw | hsw | hsw | hsw | hsw | hsw
  · refine z_tableIn (off := 62) (tgt := 68) K dX9_about_6 (by omega) (by omega) (by omega) (by rw [hsw]; rfl) (by decide) ?_
    refine z_aload_n K dX9_about_68 rfl ?_
    refine z_get (k := 39) (v := .int (zi ((zu1 (μ 39) 0 (0 : Int)) 4))) K dX9_about_69 fl_X9_63 rfl rfl rfl ?_
    rw [show ((zu1 (μ 39) 0 (0 : Int)) 4) = ((n : Nat) : Int) from hn]
    exact z_ireti K T rfl dX9_about_72 ⟨by unfold zA_about; omega, (zFr_h (zFr_0 μ) (by repeat (first | exact zFh_0 _ | refine zFh_u ?_ (by decide) _)))⟩
  · refine z_tableIn (off := 67) (tgt := 73) K dX9_about_6 (by omega) (by omega) (by omega) (by rw [hsw]; rfl) (by decide) ?_
    refine z_aload_n K dX9_about_73 rfl ?_
    refine z_get (k := 39) (v := .int (zi ((zu1 (μ 39) 0 (0 : Int)) 7))) K dX9_about_74 fl_X9_70 rfl rfl rfl ?_
    rw [show ((zu1 (μ 39) 0 (0 : Int)) 7) = ((nc : Nat) : Int) from hnc]
    exact z_ireti K T rfl dX9_about_77 ⟨by unfold zA_about; omega, (zFr_h (zFr_0 μ) (by repeat (first | exact zFh_0 _ | refine zFh_u ?_ (by decide) _)))⟩
  · refine z_tableIn (off := 72) (tgt := 78) K dX9_about_6 (by omega) (by omega) (by omega) (by rw [hsw]; rfl) (by decide) ?_
    refine z_aload_n K dX9_about_78 rfl ?_
    refine z_get (k := 39) (v := .ref (ad 46)) K dX9_about_79 fl_X9_28 rfl rfl rfl ?_
    refine z_bipush K dX9_about_82 (by decide +kernel) ?_
    refine z_iald (k := 46) (v := c 22) K dX9_about_84 22 rfl (by decide) (by omega) (by omega) hg.2.2.2 ?_
    exact z_ireti K T rfl dX9_about_85 ⟨by unfold zA_about; omega, (zFr_h (zFr_0 μ) (by repeat (first | exact zFh_0 _ | refine zFh_u ?_ (by decide) _)))⟩
  · refine z_tableIn (off := 80) (tgt := 86) K dX9_about_6 (by omega) (by omega) (by omega) (by rw [hsw]; rfl) (by decide) ?_
    refine z_aload_n K dX9_about_86 rfl ?_
    refine z_get (k := 39) (v := .ref (ad 46)) K dX9_about_87 fl_X9_28 rfl rfl rfl ?_
    refine z_bipush K dX9_about_90 (by decide +kernel) ?_
    refine z_iald (k := 46) (v := c 21) K dX9_about_92 21 rfl (by decide) (by omega) (by omega) hg.2.2.1 ?_
    exact z_ireti K T rfl dX9_about_93 ⟨by unfold zA_about; omega, (zFr_h (zFr_0 μ) (by repeat (first | exact zFh_0 _ | refine zFh_u ?_ (by decide) _)))⟩
  · refine z_tableIn (off := 88) (tgt := 94) K dX9_about_6 (by omega) (by omega) (by omega) (by rw [hsw]; rfl) (by decide) ?_
    refine z_aload_n K dX9_about_94 rfl ?_
    refine z_aload_n K dX9_about_95 rfl ?_
    refine z_get (k := 39) (v := .ref (ad 46)) K dX9_about_96 fl_X9_28 rfl rfl rfl ?_
    refine z_iload_n K dX9_about_99 rfl ?_
    refine z_iconst K dX9_about_100 ?_
    refine z_isub K dX9_about_101 ?_
    rw [show (x - (4 : Int)) = (0 : Int) from (by omega)]
    refine z_callVd K hl1 hg1 (kb := 39) (As := [.ref (ad 46), .int (zi (0 : Int))]) (rest := []) (cm_thatAre_g la g0 ad (zup μ 39 (zu1 (μ 39) 0 (0 : Int))) n nc 7 kd al wt an c hm hw.1 hg (0 : Int) ⟨by decide, by decide⟩) (by decide) lk_X9_122 cd_X9_thatAre rfl rfl rfl rfl (Nat.le_of_ble_eq_true rfl) dX9_about_102 ?_
    show zV χ 2 ad zSH 0 0 105 [(0, .ref (ad 39)), (1, .int (zi x))] [.int (zi ((zwho c (0 : Int) n : Nat) : Int))] (zup μ 39 (zu1 (μ 39) 0 (0 : Int)))
    exact z_ireti K T rfl dX9_about_105 ⟨by unfold zA_about; omega, (zFr_h (zFr_0 μ) (by repeat (first | exact zFh_0 _ | refine zFh_u ?_ (by decide) _)))⟩
  · refine z_tableIn (off := 88) (tgt := 94) K dX9_about_6 (by omega) (by omega) (by omega) (by rw [hsw]; rfl) (by decide) ?_
    refine z_aload_n K dX9_about_94 rfl ?_
    refine z_aload_n K dX9_about_95 rfl ?_
    refine z_get (k := 39) (v := .ref (ad 46)) K dX9_about_96 fl_X9_28 rfl rfl rfl ?_
    refine z_iload_n K dX9_about_99 rfl ?_
    refine z_iconst K dX9_about_100 ?_
    refine z_isub K dX9_about_101 ?_
    rw [show (x - (4 : Int)) = (1 : Int) from (by omega)]
    refine z_callVd K hl1 hg1 (kb := 39) (As := [.ref (ad 46), .int (zi (1 : Int))]) (rest := []) (cm_thatAre_g la g0 ad (zup μ 39 (zu1 (μ 39) 0 (0 : Int))) n nc 7 kd al wt an c hm hw.1 hg (1 : Int) ⟨by decide, by decide⟩) (by decide) lk_X9_122 cd_X9_thatAre rfl rfl rfl rfl (Nat.le_of_ble_eq_true rfl) dX9_about_102 ?_
    show zV χ 2 ad zSH 0 0 105 [(0, .ref (ad 39)), (1, .int (zi x))] [.int (zi ((zwho c (1 : Int) n : Nat) : Int))] (zup μ 39 (zu1 (μ 39) 0 (0 : Int)))
    exact z_ireti K T rfl dX9_about_105 ⟨by unfold zA_about; omega, (zFr_h (zFr_0 μ) (by repeat (first | exact zFh_0 _ | refine zFh_u ?_ (by decide) _)))⟩
  · refine z_tableIn (off := 88) (tgt := 94) K dX9_about_6 (by omega) (by omega) (by omega) (by rw [hsw]; rfl) (by decide) ?_
    refine z_aload_n K dX9_about_94 rfl ?_
    refine z_aload_n K dX9_about_95 rfl ?_
    refine z_get (k := 39) (v := .ref (ad 46)) K dX9_about_96 fl_X9_28 rfl rfl rfl ?_
    refine z_iload_n K dX9_about_99 rfl ?_
    refine z_iconst K dX9_about_100 ?_
    refine z_isub K dX9_about_101 ?_
    rw [show (x - (4 : Int)) = (2 : Int) from (by omega)]
    refine z_callVd K hl1 hg1 (kb := 39) (As := [.ref (ad 46), .int (zi (2 : Int))]) (rest := []) (cm_thatAre_g la g0 ad (zup μ 39 (zu1 (μ 39) 0 (0 : Int))) n nc 7 kd al wt an c hm hw.1 hg (2 : Int) ⟨by decide, by decide⟩) (by decide) lk_X9_122 cd_X9_thatAre rfl rfl rfl rfl (Nat.le_of_ble_eq_true rfl) dX9_about_102 ?_
    show zV χ 2 ad zSH 0 0 105 [(0, .ref (ad 39)), (1, .int (zi x))] [.int (zi ((zwho c (2 : Int) n : Nat) : Int))] (zup μ 39 (zu1 (μ 39) 0 (0 : Int)))
    exact z_ireti K T rfl dX9_about_105 ⟨by unfold zA_about; omega, (zFr_h (zFr_0 μ) (by repeat (first | exact zFh_0 _ | refine zFh_u ?_ (by decide) _)))⟩
  · refine z_tableIn (off := 88) (tgt := 94) K dX9_about_6 (by omega) (by omega) (by omega) (by rw [hsw]; rfl) (by decide) ?_
    refine z_aload_n K dX9_about_94 rfl ?_
    refine z_aload_n K dX9_about_95 rfl ?_
    refine z_get (k := 39) (v := .ref (ad 46)) K dX9_about_96 fl_X9_28 rfl rfl rfl ?_
    refine z_iload_n K dX9_about_99 rfl ?_
    refine z_iconst K dX9_about_100 ?_
    refine z_isub K dX9_about_101 ?_
    rw [show (x - (4 : Int)) = (3 : Int) from (by omega)]
    refine z_callVd K hl1 hg1 (kb := 39) (As := [.ref (ad 46), .int (zi (3 : Int))]) (rest := []) (cm_thatAre_g la g0 ad (zup μ 39 (zu1 (μ 39) 0 (0 : Int))) n nc 7 kd al wt an c hm hw.1 hg (3 : Int) ⟨by decide, by decide⟩) (by decide) lk_X9_122 cd_X9_thatAre rfl rfl rfl rfl (Nat.le_of_ble_eq_true rfl) dX9_about_102 ?_
    show zV χ 2 ad zSH 0 0 105 [(0, .ref (ad 39)), (1, .int (zi x))] [.int (zi ((zwho c (3 : Int) n : Nat) : Int))] (zup μ 39 (zu1 (μ 39) 0 (0 : Int)))
    exact z_ireti K T rfl dX9_about_105 ⟨by unfold zA_about; omega, (zFr_h (zFr_0 μ) (by repeat (first | exact zFh_0 _ | refine zFh_u ?_ (by decide) _)))⟩
  · refine z_tableIn (off := 100) (tgt := 106) K dX9_about_6 (by omega) (by omega) (by omega) (by rw [hsw]; rfl) (by decide) ?_
    refine z_aload_n K dX9_about_106 rfl ?_
    refine z_callVd K hl1 hg1 (kb := 39) (As := []) (rest := []) (cm_pairs la g0 ad (zup μ 39 (zu1 (μ 39) 0 (0 : Int))) n nc kd al wt an c hm hw hg) (by decide) lk_X9_158 cd_X9_pairs rfl rfl rfl rfl (Nat.le_of_ble_eq_true rfl) dX9_about_107 ?_
    show zV χ 2 ad zSH 0 0 110 [(0, .ref (ad 39)), (1, .int (zi x))] [.int (zi ((zpair c n 12 : Nat) : Int))] (zup μ 39 (zu1 (μ 39) 0 (0 : Int)))
    exact z_ireti K T rfl dX9_about_110 ⟨by unfold zA_about; omega, (zFr_h (zFr_0 μ) (by repeat (first | exact zFh_0 _ | refine zFh_u ?_ (by decide) _)))⟩
  · refine z_tableIn (off := 105) (tgt := 111) K dX9_about_6 (by omega) (by omega) (by omega) (by rw [hsw]; rfl) (by decide) ?_
    refine z_aload_n K dX9_about_111 rfl ?_
    refine z_get (k := 39) (v := .int (zi ((zu1 (μ 39) 0 (0 : Int)) 17))) K dX9_about_112 fl_X9_112 rfl rfl rfl ?_
    rw [show ((zu1 (μ 39) 0 (0 : Int)) 17) = μ 39 17 from rfl]
    exact z_ireti K T rfl dX9_about_115 ⟨by unfold zA_about; omega, (zFr_h (zFr_0 μ) (by repeat (first | exact zFh_0 _ | refine zFh_u ?_ (by decide) _)))⟩
  · refine z_tableIn (off := 110) (tgt := 116) K dX9_about_6 (by omega) (by omega) (by omega) (by rw [hsw]; rfl) (by decide) ?_
    refine z_aload_n K dX9_about_116 rfl ?_
    refine z_get (k := 39) (v := .int (zi ((zu1 (μ 39) 0 (0 : Int)) 20))) K dX9_about_117 fl_X9_161 rfl rfl rfl ?_
    rw [show ((zu1 (μ 39) 0 (0 : Int)) 20) = μ 39 20 from rfl]
    exact z_ireti K T rfl dX9_about_120 ⟨by unfold zA_about; omega, (zFr_h (zFr_0 μ) (by repeat (first | exact zFh_0 _ | refine zFh_u ?_ (by decide) _)))⟩
  · refine z_tableIn (off := 115) (tgt := 121) K dX9_about_6 (by omega) (by omega) (by omega) (by rw [hsw]; rfl) (by decide) ?_
    refine z_aload_n K dX9_about_121 rfl ?_
    refine z_get (k := 39) (v := .int (zi ((zu1 (μ 39) 0 (0 : Int)) 2))) K dX9_about_122 fl_X9_75 rfl rfl rfl ?_
    rw [show ((zu1 (μ 39) 0 (0 : Int)) 2) = μ 39 2 from rfl]
    exact z_ireti K T rfl dX9_about_125 ⟨by unfold zA_about; omega, (zFr_h (zFr_0 μ) (by repeat (first | exact zFh_0 _ | refine zFh_u ?_ (by decide) _)))⟩
  · refine z_tableOut (tgt := 126) K dX9_about_6 (by omega) hsw (by decide) ?_
    refine z_bipush K dX9_about_126 (by decide +kernel) ?_
    exact z_ireti K T rfl dX9_about_128 ⟨by unfold zA_about; omega, (zFr_h (zFr_0 μ) (by repeat (first | exact zFh_0 _ | refine zFh_u ?_ (by decide) _)))⟩
set_option maxHeartbeats 4000000 in
set_option maxRecDepth 100000 in
theorem cq_letter (la : Launch) (g0 : zG) (ad : Nat → Nat) (μ : zMem) (n nc : Nat) (kd al wt an c : Nat → Int) (hm : zMP μ n nc kd al wt an) (hw : zHV n nc c) (hg : zAg n nc 7 (μ 46) c) (x w : Int) (hx : zR x) (hwr : zR w) : zCon la g0 yX9_letter cX9_letter 3 (some .int) 3 ad zSH [.ref (ad 39), .int (zi x), .int (zi w)] μ (zPi (zQm μ (zA_letter n nc kd wt al c x w))) := by
  refine zCon_of (by decide +kernel) (Nat.le_of_ble_eq_true rfl) ?_
  intro χ K T hl1 hg1
  have K : zOk χ cX9_letter RX9 3 3 (some .int) := K
  obtain ⟨hn, hnc, hpl, hpa, hpk⟩ := id hm
  have hn6 := hpk.1
  have hnc3 := hpk.2.1
  refine z_mem (ν := zup μ 39 (μ 39)) (zup_id μ 39) ?_
  show zV χ 3 ad zSH 0 0 0 [(0, .ref (ad 39)), (1, .int (zi x)), (2, .int (zi w))] [] (zup μ 39 (μ 39))
  refine z_aload_n K dX9_letter_0 rfl ?_
  refine z_iconst K dX9_letter_1 ?_
  refine z_puti (k := 39) K dX9_letter_2 fp_X9_59 rfl rfl (z_mem (ν := zup μ 39 (zu1 (μ 39) 0 (0 : Int))) (zup_same _ _ _ _) ?_)
  refine z_aload_n K dX9_letter_5 rfl ?_
  refine z_iload_n K dX9_letter_6 rfl ?_
  refine z_callVd K hl1 hg1 (kb := 39) (As := [.int (zi x)]) (rest := []) (cm_noLetter la g0 ad (zup μ 39 (zu1 (μ 39) 0 (0 : Int))) n hn (by omega) x (by omega)) (by decide) lk_X9_164 cd_X9_noLetter rfl rfl rfl rfl (Nat.le_of_ble_eq_true rfl) dX9_letter_7 ?_
  show zV χ 3 ad zSH 0 0 10 [(0, .ref (ad 39)), (1, .int (zi x)), (2, .int (zi w))] [.int (zi (if 0 ≤ x ∧ x < (n : Int) then 0 else 1))] (zup μ 39 (zu1 (μ 39) 0 (0 : Int)))
  refine z_ifeq (tgt := 15) K dX9_letter_10 (by decide) (by omega) (fun h10 => ?_) (fun h10 => ?_)
  · obtain ⟨l, rfl⟩ : ∃ l : Nat, x = (l : Int) := ⟨x.toNat, by omega⟩
    have ag := hg.1 l (by omega)
    have hvl := hw.1.1 l (by omega)
    have hpl1 := hpl l (by omega)
    refine z_iload_n K dX9_letter_15 rfl ?_
    rcases (show w = 0 ∨ w = 1 ∨ w = 2 ∨ w = 3 ∨ w = 4 ∨ w = 5 ∨ (w < 0 ∨ 5 < w) by omega) with hsw | hsw | hsw | hsw | hsw | hsw | hsw
    · refine z_tableIn (off := 40) (tgt := 56) K dX9_letter_16 (by omega) (by omega) (by omega) (by rw [hsw]; rfl) (by decide) ?_
      refine z_aload_n K dX9_letter_56 rfl ?_
      refine z_get (k := 39) (v := .ref (ad 46)) K dX9_letter_57 fl_X9_28 rfl rfl rfl ?_
      refine z_iload_n K dX9_letter_60 rfl ?_
      refine z_iald (k := 46) (v := c l) K dX9_letter_61 l rfl (by decide) (by omega) (by omega) ag.1 ?_
      exact z_ireti K T rfl dX9_letter_62 ⟨by unfold zA_letter; simp only [Int.toNat_natCast]; omega, (zFr_h (zFr_0 μ) (by repeat (first | exact zFh_0 _ | refine zFh_u ?_ (by decide) _)))⟩
    · refine z_tableIn (off := 47) (tgt := 63) K dX9_letter_16 (by omega) (by omega) (by omega) (by rw [hsw]; rfl) (by decide) ?_
      refine z_aload_n K dX9_letter_63 rfl ?_
      refine z_get (k := 39) (v := .ref (ad 41)) K dX9_letter_64 fl_X9_13 rfl rfl rfl ?_
      refine z_iload_n K dX9_letter_67 rfl ?_
      refine z_iald (k := 41) (v := wt l) K dX9_letter_68 l rfl (by decide) (by omega) (by omega) hpl1.1 ?_
      exact z_ireti K T rfl dX9_letter_69 ⟨by unfold zA_letter; simp only [Int.toNat_natCast]; omega, (zFr_h (zFr_0 μ) (by repeat (first | exact zFh_0 _ | refine zFh_u ?_ (by decide) _)))⟩
    · refine z_tableIn (off := 54) (tgt := 70) K dX9_letter_16 (by omega) (by omega) (by omega) (by rw [hsw]; rfl) (by decide) ?_
      refine z_aload_n K dX9_letter_70 rfl ?_
      refine z_get (k := 39) (v := .ref (ad 42)) K dX9_letter_71 fl_X9_16 rfl rfl rfl ?_
      refine z_iload_n K dX9_letter_74 rfl ?_
      refine z_iald (k := 42) (v := kd l) K dX9_letter_75 l rfl (by decide) (by omega) (by omega) hpl1.2.1 ?_
      exact z_ireti K T rfl dX9_letter_76 ⟨by unfold zA_letter; simp only [Int.toNat_natCast]; omega, (zFr_h (zFr_0 μ) (by repeat (first | exact zFh_0 _ | refine zFh_u ?_ (by decide) _)))⟩
    · refine z_tableIn (off := 61) (tgt := 77) K dX9_letter_16 (by omega) (by omega) (by omega) (by rw [hsw]; rfl) (by decide) ?_
      refine z_aload_n K dX9_letter_77 rfl ?_
      refine z_get (k := 39) (v := .ref (ad 46)) K dX9_letter_78 fl_X9_28 rfl rfl rfl ?_
      refine z_bipush K dX9_letter_81 (by decide +kernel) ?_
      refine z_iload_n K dX9_letter_83 rfl ?_
      refine z_iadd K dX9_letter_84 ?_
      refine z_iald (k := 46) (v := c (12 + l)) K dX9_letter_85 (6 + l) rfl (by decide) (by omega) (by omega) ag.2.1 ?_
      exact z_ireti K T rfl dX9_letter_86 ⟨by unfold zA_letter; simp only [Int.toNat_natCast]; omega, (zFr_h (zFr_0 μ) (by repeat (first | exact zFh_0 _ | refine zFh_u ?_ (by decide) _)))⟩
    · refine z_tableIn (off := 71) (tgt := 87) K dX9_letter_16 (by omega) (by omega) (by omega) (by rw [hsw]; rfl) (by decide) ?_
      refine z_aload_n K dX9_letter_87 rfl ?_
      refine z_get (k := 39) (v := .ref (ad 46)) K dX9_letter_88 fl_X9_28 rfl rfl rfl ?_
      refine z_bipush K dX9_letter_91 (by decide +kernel) ?_
      refine z_iload_n K dX9_letter_93 rfl ?_
      refine z_iadd K dX9_letter_94 ?_
      refine z_iald (k := 46) (v := c (6 + l)) K dX9_letter_95 (12 + l) rfl (by decide) (by omega) (by omega) ag.2.2 ?_
      exact z_ireti K T rfl dX9_letter_96 ⟨by unfold zA_letter; simp only [Int.toNat_natCast]; omega, (zFr_h (zFr_0 μ) (by repeat (first | exact zFh_0 _ | refine zFh_u ?_ (by decide) _)))⟩
    · refine z_tableIn (off := 81) (tgt := 97) K dX9_letter_16 (by omega) (by omega) (by omega) (by rw [hsw]; rfl) (by decide) ?_
      refine z_aload_n K dX9_letter_97 rfl ?_
      refine z_get (k := 39) (v := .ref (ad 46)) K dX9_letter_98 fl_X9_28 rfl rfl rfl ?_
      refine z_bipush K dX9_letter_101 (by decide +kernel) ?_
      refine z_iload_n K dX9_letter_103 rfl ?_
      refine z_iadd K dX9_letter_104 ?_
      refine z_iald (k := 46) (v := c (12 + l)) K dX9_letter_105 (6 + l) rfl (by decide) (by omega) (by omega) ag.2.1 ?_
      refine z_ifne (tgt := 121) K dX9_letter_106 (by decide) (by omega) (fun h106 => ?_) (fun h106 => ?_)
      · refine z_bipush K dX9_letter_121 (by decide +kernel) ?_
        exact z_ireti K T rfl dX9_letter_123 ⟨by unfold zA_letter; simp only [Int.toNat_natCast]; omega, (zFr_h (zFr_0 μ) (by repeat (first | exact zFh_0 _ | refine zFh_u ?_ (by decide) _)))⟩
      · refine z_aload_n K dX9_letter_109 rfl ?_
        refine z_aload_n K dX9_letter_110 rfl ?_
        refine z_get (k := 39) (v := .ref (ad 46)) K dX9_letter_111 fl_X9_28 rfl rfl rfl ?_
        refine z_iload_n K dX9_letter_114 rfl ?_
        refine z_callVd K hl1 hg1 (kb := 39) (As := [.ref (ad 46), .int (zi ((l : Nat) : Int))]) (rest := []) (cm_toWait_g la g0 ad (zup μ 39 (zu1 (μ 39) 0 (0 : Int))) n nc 7 kd al wt an c hm hw.1 hg l (by omega)) (by decide) lk_X9_131 cd_X9_toWait rfl rfl rfl rfl (Nat.le_of_ble_eq_true rfl) dX9_letter_115 ?_
        show zV χ 3 ad zSH 0 0 118 [(0, .ref (ad 39)), (1, .int (zi ((l : Nat) : Int))), (2, .int (zi w))] [.int (zi (zdl n kd al c l))] (zup μ 39 (zu1 (μ 39) 0 (0 : Int)))
        refine z_goto (tgt := 123) K dX9_letter_118 (by decide) ?_
        exact z_ireti K T rfl dX9_letter_123 ⟨by unfold zA_letter; simp only [Int.toNat_natCast]; omega, (zFr_h (zFr_0 μ) (by repeat (first | exact zFh_0 _ | refine zFh_u ?_ (by decide) _)))⟩
    · refine z_tableOut (tgt := 124) K dX9_letter_16 (by omega) hsw (by decide) ?_
      refine z_bipush K dX9_letter_124 (by decide +kernel) ?_
      exact z_ireti K T rfl dX9_letter_126 ⟨by unfold zA_letter; simp only [Int.toNat_natCast]; omega, (zFr_h (zFr_0 μ) (by repeat (first | exact zFh_0 _ | refine zFh_u ?_ (by decide) _)))⟩
  · refine z_iconst K dX9_letter_13 ?_
    exact z_ireti K T rfl dX9_letter_14 ⟨by unfold zA_letter; omega, (zFr_h (zFr_0 μ) (by repeat (first | exact zFh_0 _ | refine zFh_u ?_ (by decide) _)))⟩
set_option maxHeartbeats 4000000 in
set_option maxRecDepth 100000 in
theorem cq_clerk (la : Launch) (g0 : zG) (ad : Nat → Nat) (μ : zMem) (n nc : Nat) (kd al wt an c : Nat → Int) (hm : zMP μ n nc kd al wt an) (hw : zHV n nc c) (hg : zAg n nc 7 (μ 46) c) (x w : Int) (hx : zR x) (hwr : zR w) : zCon la g0 yX9_clerk cX9_clerk 3 (some .int) 3 ad zSH [.ref (ad 39), .int (zi x), .int (zi w)] μ (zPi (zQm μ (zA_clerk nc an c x w))) := by
  refine zCon_of (by decide +kernel) (Nat.le_of_ble_eq_true rfl) ?_
  intro χ K T hl1 hg1
  have K : zOk χ cX9_clerk RX9 3 3 (some .int) := K
  obtain ⟨hn, hnc, hpl, hpa, hpk⟩ := id hm
  have hn6 := hpk.1
  have hnc3 := hpk.2.1
  refine z_mem (ν := zup μ 39 (μ 39)) (zup_id μ 39) ?_
  show zV χ 3 ad zSH 0 0 0 [(0, .ref (ad 39)), (1, .int (zi x)), (2, .int (zi w))] [] (zup μ 39 (μ 39))
  refine z_aload_n K dX9_clerk_0 rfl ?_
  refine z_iconst K dX9_clerk_1 ?_
  refine z_puti (k := 39) K dX9_clerk_2 fp_X9_59 rfl rfl (z_mem (ν := zup μ 39 (zu1 (μ 39) 0 (0 : Int))) (zup_same _ _ _ _) ?_)
  refine z_aload_n K dX9_clerk_5 rfl ?_
  refine z_iload_n K dX9_clerk_6 rfl ?_
  refine z_callVd K hl1 hg1 (kb := 39) (As := [.int (zi x)]) (rest := []) (cm_noClerk la g0 ad (zup μ 39 (zu1 (μ 39) 0 (0 : Int))) nc hnc (by omega) x (by omega)) (by decide) lk_X9_168 cd_X9_noClerk rfl rfl rfl rfl (Nat.le_of_ble_eq_true rfl) dX9_clerk_7 ?_
  show zV χ 3 ad zSH 0 0 10 [(0, .ref (ad 39)), (1, .int (zi x)), (2, .int (zi w))] [.int (zi (if 0 ≤ x ∧ x < (nc : Int) then 0 else 1))] (zup μ 39 (zu1 (μ 39) 0 (0 : Int)))
  refine z_ifeq (tgt := 15) K dX9_clerk_10 (by decide) (by omega) (fun h10 => ?_) (fun h10 => ?_)
  · obtain ⟨l, rfl⟩ : ∃ l : Nat, x = (l : Int) := ⟨x.toNat, by omega⟩
    have hro := (hg.2.1 l (by omega)).1 (zb7 l (by omega))
    have han := hpa l (by omega)
    refine z_iload_n K dX9_clerk_15 rfl ?_
    refine z_ifne (tgt := 31) K dX9_clerk_16 (by decide) (by omega) (fun h16 => ?_) (fun h16 => ?_)
    · refine z_iload_n K dX9_clerk_31 rfl ?_
      refine z_iconst K dX9_clerk_32 ?_
      refine z_icmpne (tgt := 45) K dX9_clerk_33 (by decide) (by omega) ⟨by decide, by decide⟩ (fun h33 => ?_) (fun h33 => ?_)
      · refine z_bipush K dX9_clerk_45 (by decide +kernel) ?_
        exact z_ireti K T rfl dX9_clerk_47 ⟨by unfold zA_clerk; simp only [Int.toNat_natCast]; omega, (zFr_h (zFr_0 μ) (by repeat (first | exact zFh_0 _ | refine zFh_u ?_ (by decide) _)))⟩
      · refine z_aload_n K dX9_clerk_36 rfl ?_
        refine z_get (k := 39) (v := .ref (ad 43)) K dX9_clerk_37 fl_X9_19 rfl rfl rfl ?_
        refine z_iload_n K dX9_clerk_40 rfl ?_
        refine z_iald (k := 43) (v := an l) K dX9_clerk_41 l rfl (by decide) (by omega) (by omega) han ?_
        refine z_goto (tgt := 47) K dX9_clerk_42 (by decide) ?_
        exact z_ireti K T rfl dX9_clerk_47 ⟨by unfold zA_clerk; simp only [Int.toNat_natCast]; omega, (zFr_h (zFr_0 μ) (by repeat (first | exact zFh_0 _ | refine zFh_u ?_ (by decide) _)))⟩
    · refine z_aload_n K dX9_clerk_19 rfl ?_
      refine z_get (k := 39) (v := .ref (ad 46)) K dX9_clerk_20 fl_X9_28 rfl rfl rfl ?_
      refine z_bipush K dX9_clerk_23 (by decide +kernel) ?_
      refine z_iload_n K dX9_clerk_25 rfl ?_
      refine z_iadd K dX9_clerk_26 ?_
      refine z_iald (k := 46) (v := c (18 + l)) K dX9_clerk_27 (18 + l) rfl (by decide) (by omega) (by omega) hro ?_
      refine z_goto (tgt := 47) K dX9_clerk_28 (by decide) ?_
      exact z_ireti K T rfl dX9_clerk_47 ⟨by unfold zA_clerk; simp only [Int.toNat_natCast]; omega, (zFr_h (zFr_0 μ) (by repeat (first | exact zFh_0 _ | refine zFh_u ?_ (by decide) _)))⟩
  · refine z_iconst K dX9_clerk_13 ?_
    exact z_ireti K T rfl dX9_clerk_14 ⟨by unfold zA_clerk; omega, (zFr_h (zFr_0 μ) (by repeat (first | exact zFh_0 _ | refine zFh_u ?_ (by decide) _)))⟩
set_option maxHeartbeats 4000000 in
set_option maxRecDepth 100000 in
theorem cq_hole (la : Launch) (g0 : zG) (ad : Nat → Nat) (μ : zMem) (n nc : Nat) (kd al wt an c : Nat → Int) (hm : zMP μ n nc kd al wt an) (hw : zHV n nc c) (hg : zAg n nc 7 (μ 46) c) (x : Int) (hx : zR x) : zCon la g0 yX9_hole cX9_hole 2 (some .int) 3 ad zSH [.ref (ad 39), .int (zi x)] μ (zPi (zQm μ (zA_hole n c x))) := by
  refine zCon_of (by decide +kernel) (Nat.le_of_ble_eq_true rfl) ?_
  intro χ K T hl1 hg1
  have K : zOk χ cX9_hole RX9 2 3 (some .int) := K
  obtain ⟨hn, hnc, hpl, hpa, hpk⟩ := id hm
  have hn6 := hpk.1
  have hnc3 := hpk.2.1
  refine z_mem (ν := zup μ 39 (μ 39)) (zup_id μ 39) ?_
  show zV χ 2 ad zSH 0 0 0 [(0, .ref (ad 39)), (1, .int (zi x))] [] (zup μ 39 (μ 39))
  refine z_aload_n K dX9_hole_0 rfl ?_
  refine z_iconst K dX9_hole_1 ?_
  refine z_puti (k := 39) K dX9_hole_2 fp_X9_59 rfl rfl (z_mem (ν := zup μ 39 (zu1 (μ 39) 0 (0 : Int))) (zup_same _ _ _ _) ?_)
  refine z_iload_n K dX9_hole_5 rfl ?_
  refine z_i2l K dX9_hole_6 (by omega) ?_
  refine z_lconst (z := 0) K dX9_hole_7 rfl ?_
  refine z_ldc2 (z := 11) K dX9_hole_8 kc_X9_171 rfl ?_
  refine z_callSd K hl1 hg1 (As := [.long (zl x), .long (zl (0 : Int)), .long (zl (11 : Int))]) (rest := []) (cm_in la g0 ad (zup μ 39 (zu1 (μ 39) 0 (0 : Int))) x (0 : Int) (11 : Int) ⟨by omega, by omega⟩ ⟨by decide, by decide⟩ ⟨by decide, by decide⟩) (by decide) lk_X9_66 cd_X9_in rfl rfl (Nat.le_of_ble_eq_true rfl) dX9_hole_11 ?_
  show zV χ 2 ad zSH 0 0 14 [(0, .ref (ad 39)), (1, .int (zi x))] [.int (zi (if (0 : Int) ≤ x ∧ x ≤ (11 : Int) then 1 else 0))] (zup μ 39 (zu1 (μ 39) 0 (0 : Int)))
  refine z_ifeq (tgt := 29) K dX9_hole_14 (by decide) (by omega) (fun h14 => ?_) (fun h14 => ?_)
  · refine z_iconst K dX9_hole_29 ?_
    exact z_ireti K T rfl dX9_hole_30 ⟨by unfold zA_hole; omega, (zFr_h (zFr_0 μ) (by repeat (first | exact zFh_0 _ | refine zFh_u ?_ (by decide) _)))⟩
  · refine z_aload_n K dX9_hole_17 rfl ?_
    refine z_aload_n K dX9_hole_18 rfl ?_
    refine z_get (k := 39) (v := .ref (ad 46)) K dX9_hole_19 fl_X9_28 rfl rfl rfl ?_
    refine z_iload_n K dX9_hole_22 rfl ?_
    refine z_callVd K hl1 hg1 (kb := 39) (As := [.ref (ad 46), .int (zi x)]) (rest := []) (cm_inHole_g la g0 ad (zup μ 39 (zu1 (μ 39) 0 (0 : Int))) n nc 7 kd al wt an c hm hw.1 hg x hx) (by decide) lk_X9_125 cd_X9_inHole rfl rfl rfl rfl (Nat.le_of_ble_eq_true rfl) dX9_hole_23 ?_
    show zV χ 2 ad zSH 0 0 26 [(0, .ref (ad 39)), (1, .int (zi x))] [.int (zi ((zin c x n : Nat) : Int))] (zup μ 39 (zu1 (μ 39) 0 (0 : Int)))
    refine z_goto (tgt := 30) K dX9_hole_26 (by decide) ?_
    exact z_ireti K T rfl dX9_hole_30 ⟨by unfold zA_hole; omega, (zFr_h (zFr_0 μ) (by repeat (first | exact zFh_0 _ | refine zFh_u ?_ (by decide) _)))⟩
