set_option maxHeartbeats 4000000 in
set_option maxRecDepth 100000 in
theorem ct_mostPressing_n (la : Launch) (g0 : zG) (ad : Nat → Nat) (μ : zMem) (n nc : Nat) (hp : zPlan μ n nc) (hv : zHW n nc (μ 18)) (row : Int) (hrow : 0 ≤ row ∧ row ≤ 3) : zCon la g0 yX1_mostPressing cX1_mostPressing 6 (some .int) 1 ad zSH [.ref (ad 17), .int (zi row)] μ (zPd μ (zmp n (μ 13) (μ 14) (μ 18) row n).1) := by
  refine zCon_of (by decide +kernel) (Nat.le_of_ble_eq_true rfl) ?_
  intro χ K T hl1 hg1
  have K : zOk χ cX1_mostPressing RX1 6 1 (some .int) := K
  obtain ⟨hn, hn6, hnc, hnc3, hpl, hpk⟩ := id hp
  obtain ⟨hv1, hv2, hv3, hv4⟩ := id hv
  show zV χ 6 ad zSH 0 0 0 [(0, .ref (ad 17)), (1, .int (zi row))] [] μ
  refine z_bipush K dX1_mostPressing_0 (by decide +kernel) ?_
  refine z_istore_n (lv' := [(0, .ref (ad 17)), (1, .int (zi row)), (2, .int (zi (-9 : Int)))]) K dX1_mostPressing_2 (by decide) rfl ?_
  refine z_iconst K dX1_mostPressing_3 ?_
  refine z_istore_n (lv' := [(0, .ref (ad 17)), (1, .int (zi row)), (2, .int (zi (-9 : Int))), (3, .int (zi (0 : Int)))]) K dX1_mostPressing_4 (by decide) rfl ?_
  refine z_iconst K dX1_mostPressing_5 ?_
  refine z_istore (lv' := [(0, .ref (ad 17)), (1, .int (zi row)), (2, .int (zi (-9 : Int))), (3, .int (zi (0 : Int))), (4, .int (zi (0 : Int)))]) K dX1_mostPressing_6 (by decide) rfl ?_
  have L8 : ∀ l, l ≤ n → zV χ 6 ad zSH 0 0 8 [(0, .ref (ad 17)), (1, .int (zi row)), (2, .int (zi ((zmp n (μ 13) (μ 14) (μ 18) row l).1))), (3, .int (zi ((zmp n (μ 13) (μ 14) (μ 18) row l).2))), (4, .int (zi ((l : Nat) : Int)))] [] μ := by
    refine zfor ?_
    intro l hl ih
    have hrg := zmp_rg hp.pk hv row l hl
    refine z_iload K dX1_mostPressing_8 rfl ?_
    refine z_aload_n K dX1_mostPressing_10 rfl ?_
    refine z_get (k := 17) (v := .ref (ad 10)) K dX1_mostPressing_11 fl_X1_18 rfl rfl rfl ?_
    refine z_get (k := 10) (v := .int (zi (μ 10 0))) K dX1_mostPressing_14 fl_X1_22 rfl rfl rfl ?_
    refine z_icmpge (tgt := 80) K dX1_mostPressing_17 (by decide) (by omega) (by omega) (fun h17 => ?_) (fun h17 => ?_)
    · refine z_iload_n K dX1_mostPressing_80 rfl ?_
      exact z_iretd K T rfl dX1_mostPressing_81 (by rw [show l = n by omega]) rfl
    · have hfl := hv1 l (by omega)
      have hdl := zdl_rg hp.pk hv (l := l) (by omega)
      refine z_aload_n K dX1_mostPressing_20 rfl ?_
      refine z_get (k := 17) (v := .ref (ad 18)) K dX1_mostPressing_21 fl_X1_11 rfl rfl rfl ?_
      refine z_bipush K dX1_mostPressing_24 (by decide +kernel) ?_
      refine z_iload K dX1_mostPressing_26 rfl ?_
      refine z_iadd K dX1_mostPressing_28 ?_
      refine z_iald (k := 18) (v := μ 18 (12 + l)) K dX1_mostPressing_29 (12 + l) rfl (by decide) (by omega) (by omega) rfl ?_
      refine z_ifne (tgt := 74) K dX1_mostPressing_30 (by decide) (by omega) (fun h30 => ?_) (fun h30 => ?_)
      · refine z_iincN (lv' := [(0, .ref (ad 17)), (1, .int (zi row)), (2, .int (zi ((zmp n (μ 13) (μ 14) (μ 18) row l).1))), (3, .int (zi ((zmp n (μ 13) (μ 14) (μ 18) row l).2))), (4, .int (zi ((l + 1 : Nat) : Int)))]) K dX1_mostPressing_74 rfl (by decide) rfl ?_
        refine z_goto (tgt := 8) K dX1_mostPressing_77 (by decide) ?_
        have e9 : zmp n (μ 13) (μ 14) (μ 18) row (l + 1) = zmp n (μ 13) (μ 14) (μ 18) row l := by
          rw [zmp_s]
          rw [if_neg (by omega)]
        have q := ih (l + 1) (by omega) (by omega)
        rw [e9] at q
        exact q
      · refine z_aload_n K dX1_mostPressing_33 rfl ?_
        refine z_get (k := 17) (v := .ref (ad 18)) K dX1_mostPressing_34 fl_X1_11 rfl rfl rfl ?_
        refine z_iconst K dX1_mostPressing_37 ?_
        refine z_iload K dX1_mostPressing_38 rfl ?_
        refine z_iadd K dX1_mostPressing_40 ?_
        refine z_iald (k := 18) (v := μ 18 l) K dX1_mostPressing_41 l rfl (by decide) (by omega) (by omega) rfl ?_
        refine z_iconst K dX1_mostPressing_42 ?_
        refine z_idiv K dX1_mostPressing_43 (by omega) (by omega) ?_
        refine z_iload_n K dX1_mostPressing_44 rfl ?_
        refine z_icmpne (tgt := 74) K dX1_mostPressing_45 (by decide) (by omega) (by omega) (fun h45 => ?_) (fun h45 => ?_)
        · refine z_iincN (lv' := [(0, .ref (ad 17)), (1, .int (zi row)), (2, .int (zi ((zmp n (μ 13) (μ 14) (μ 18) row l).1))), (3, .int (zi ((zmp n (μ 13) (μ 14) (μ 18) row l).2))), (4, .int (zi ((l + 1 : Nat) : Int)))]) K dX1_mostPressing_74 rfl (by decide) rfl ?_
          refine z_goto (tgt := 8) K dX1_mostPressing_77 (by decide) ?_
          have e9 : zmp n (μ 13) (μ 14) (μ 18) row (l + 1) = zmp n (μ 13) (μ 14) (μ 18) row l := by
            rw [zmp_s]
            rw [if_neg (by omega)]
          have q := ih (l + 1) (by omega) (by omega)
          rw [e9] at q
          exact q
        · refine z_aload_n K dX1_mostPressing_48 rfl ?_
          refine z_iload K dX1_mostPressing_49 rfl ?_
          refine z_callVd K hl1 hg1 (kb := 17) (As := [.int (zi ((l : Nat) : Int))]) (rest := []) (ct_daysLeft_n la g0 ad μ n nc hp hv l (by omega)) (by decide) lk_X1_87 cd_X1_daysLeft rfl rfl rfl rfl (Nat.le_of_ble_eq_true rfl) dX1_mostPressing_51 ?_
          refine z_istore (lv' := [(0, .ref (ad 17)), (1, .int (zi row)), (2, .int (zi ((zmp n (μ 13) (μ 14) (μ 18) row l).1))), (3, .int (zi ((zmp n (μ 13) (μ 14) (μ 18) row l).2))), (4, .int (zi ((l : Nat) : Int))), (5, .int (zi (zdl n (μ 13) (μ 14) (μ 18) l)))]) K dX1_mostPressing_54 (by decide) rfl ?_
          refine z_iload_n K dX1_mostPressing_56 rfl ?_
          refine z_bipush K dX1_mostPressing_57 (by decide +kernel) ?_
          refine z_icmpeq (tgt := 68) K dX1_mostPressing_59 (by decide) (by omega) ⟨by decide, by decide⟩ (fun h59 => ?_) (fun h59 => ?_)
          · refine z_iload K dX1_mostPressing_68 rfl ?_
            refine z_istore_n (lv' := [(0, .ref (ad 17)), (1, .int (zi row)), (2, .int (zi ((l : Nat) : Int))), (3, .int (zi ((zmp n (μ 13) (μ 14) (μ 18) row l).2))), (4, .int (zi ((l : Nat) : Int))), (5, .int (zi (zdl n (μ 13) (μ 14) (μ 18) l)))]) K dX1_mostPressing_70 (by decide) rfl ?_
            refine z_iload K dX1_mostPressing_71 rfl ?_
            refine z_istore_n (lv' := [(0, .ref (ad 17)), (1, .int (zi row)), (2, .int (zi ((l : Nat) : Int))), (3, .int (zi (zdl n (μ 13) (μ 14) (μ 18) l))), (4, .int (zi ((l : Nat) : Int))), (5, .int (zi (zdl n (μ 13) (μ 14) (μ 18) l)))]) K dX1_mostPressing_73 (by decide) rfl ?_
            refine z_iincN (lv' := [(0, .ref (ad 17)), (1, .int (zi row)), (2, .int (zi ((l : Nat) : Int))), (3, .int (zi (zdl n (μ 13) (μ 14) (μ 18) l))), (4, .int (zi ((l + 1 : Nat) : Int))), (5, .int (zi (zdl n (μ 13) (μ 14) (μ 18) l)))]) K dX1_mostPressing_74 rfl (by decide) rfl ?_
            refine z_goto (tgt := 8) K dX1_mostPressing_77 (by decide) ?_
            refine z_ipick [0, 1, 2, 3, 4] rfl ?_
            have e9 : zmp n (μ 13) (μ 14) (μ 18) row (l + 1) = ((l : Int), zdl n (μ 13) (μ 14) (μ 18) l) := by
              rw [zmp_s]
              rw [if_pos ⟨by omega, by omega, by omega⟩]
            have q := ih (l + 1) (by omega) (by omega)
            rw [e9] at q
            exact q
          · refine z_iload K dX1_mostPressing_62 rfl ?_
            refine z_iload_n K dX1_mostPressing_64 rfl ?_
            refine z_icmpge (tgt := 74) K dX1_mostPressing_65 (by decide) (by omega) (by omega) (fun h65 => ?_) (fun h65 => ?_)
            · refine z_iincN (lv' := [(0, .ref (ad 17)), (1, .int (zi row)), (2, .int (zi ((zmp n (μ 13) (μ 14) (μ 18) row l).1))), (3, .int (zi ((zmp n (μ 13) (μ 14) (μ 18) row l).2))), (4, .int (zi ((l + 1 : Nat) : Int))), (5, .int (zi (zdl n (μ 13) (μ 14) (μ 18) l)))]) K dX1_mostPressing_74 rfl (by decide) rfl ?_
              refine z_goto (tgt := 8) K dX1_mostPressing_77 (by decide) ?_
              refine z_ipick [0, 1, 2, 3, 4] rfl ?_
              have e9 : zmp n (μ 13) (μ 14) (μ 18) row (l + 1) = zmp n (μ 13) (μ 14) (μ 18) row l := by
                rw [zmp_s]
                rw [if_neg (by omega)]
              have q := ih (l + 1) (by omega) (by omega)
              rw [e9] at q
              exact q
            · refine z_iload K dX1_mostPressing_68 rfl ?_
              refine z_istore_n (lv' := [(0, .ref (ad 17)), (1, .int (zi row)), (2, .int (zi ((l : Nat) : Int))), (3, .int (zi ((zmp n (μ 13) (μ 14) (μ 18) row l).2))), (4, .int (zi ((l : Nat) : Int))), (5, .int (zi (zdl n (μ 13) (μ 14) (μ 18) l)))]) K dX1_mostPressing_70 (by decide) rfl ?_
              refine z_iload K dX1_mostPressing_71 rfl ?_
              refine z_istore_n (lv' := [(0, .ref (ad 17)), (1, .int (zi row)), (2, .int (zi ((l : Nat) : Int))), (3, .int (zi (zdl n (μ 13) (μ 14) (μ 18) l))), (4, .int (zi ((l : Nat) : Int))), (5, .int (zi (zdl n (μ 13) (μ 14) (μ 18) l)))]) K dX1_mostPressing_73 (by decide) rfl ?_
              refine z_iincN (lv' := [(0, .ref (ad 17)), (1, .int (zi row)), (2, .int (zi ((l : Nat) : Int))), (3, .int (zi (zdl n (μ 13) (μ 14) (μ 18) l))), (4, .int (zi ((l + 1 : Nat) : Int))), (5, .int (zi (zdl n (μ 13) (μ 14) (μ 18) l)))]) K dX1_mostPressing_74 rfl (by decide) rfl ?_
              refine z_goto (tgt := 8) K dX1_mostPressing_77 (by decide) ?_
              refine z_ipick [0, 1, 2, 3, 4] rfl ?_
              have e9 : zmp n (μ 13) (μ 14) (μ 18) row (l + 1) = ((l : Int), zdl n (μ 13) (μ 14) (μ 18) l) := by
                rw [zmp_s]
                rw [if_pos ⟨by omega, by omega, by omega⟩]
              have q := ih (l + 1) (by omega) (by omega)
              rw [e9] at q
              exact q
  exact L8 0 (by omega)
set_option maxHeartbeats 4000000 in
set_option maxRecDepth 100000 in
theorem ct_clerkAnswers_n (la : Launch) (g0 : zG) (ad : Nat → Nat) (μ : zMem) (n nc : Nat) (hp : zPlan μ n nc) (c a : Nat → Int) (hv : zHW n nc c) (k : Nat) (hk : k < nc) : zCon la g0 yX1_clerkAnswers cX1_clerkAnswers 4 none 2 ad zSH [.ref (ad 17), .int (zi ((k : Nat) : Int))] (zup (zup μ 18 c) 19 a) (zPm (zup (zup μ 18 ((zca n (μ 13) (μ 14) k (μ 16 k).toNat (c, a)).1)) 19 ((zca n (μ 13) (μ 14) k (μ 16 k).toNat (c, a)).2))) := by
  refine zCon_of (by decide +kernel) (Nat.le_of_ble_eq_true rfl) ?_
  intro χ K T hl1 hg1
  have K : zOk χ cX1_clerkAnswers RX1 4 2 none := K
  obtain ⟨hn, hn6, hnc, hnc3, hpl, hpk⟩ := id hp
  have hpk1 := hpk k hk
  show zV χ 4 ad zSH 0 0 0 [(0, .ref (ad 17)), (1, .int (zi ((k : Nat) : Int)))] [] (zup (zup μ 18 c) 19 a)
  refine z_iconst K dX1_clerkAnswers_0 ?_
  refine z_istore_n (lv' := [(0, .ref (ad 17)), (1, .int (zi ((k : Nat) : Int))), (2, .int (zi (0 : Int)))]) K dX1_clerkAnswers_1 (by decide) rfl ?_
  have L2 : ∀ i, i ≤ (μ 16 k).toNat → ∀ (d b : Nat → Int), zHW n nc d → zca n (μ 13) (μ 14) k ((μ 16 k).toNat - i) (d, b) = zca n (μ 13) (μ 14) k (μ 16 k).toNat (c, a) → zV χ 4 ad zSH 0 0 2 [(0, .ref (ad 17)), (1, .int (zi ((k : Nat) : Int))), (2, .int (zi ((i : Nat) : Int)))] [] (zup (zup μ 18 d) 19 b) := by
    refine zfor ?_
    intro i hi ih d b hw hF
    have hw2 := hw.2.1 k hk
    have hb := zmp_rg hp.pk hw (d (18 + k)) n (Nat.le_refl _)
    refine z_iload_n K dX1_clerkAnswers_2 rfl ?_
    refine z_aload_n K dX1_clerkAnswers_3 rfl ?_
    refine z_get (k := 17) (v := .ref (ad 10)) K dX1_clerkAnswers_4 fl_X1_18 rfl rfl rfl ?_
    refine z_get (k := 10) (v := .ref (ad 16)) K dX1_clerkAnswers_7 fl_X1_96 rfl rfl rfl ?_
    refine z_iload_n K dX1_clerkAnswers_10 rfl ?_
    refine z_iald (k := 16) (v := μ 16 k) K dX1_clerkAnswers_11 k rfl (by decide) (by omega) (by omega) rfl ?_
    refine z_icmpge (tgt := 62) K dX1_clerkAnswers_12 (by decide) (by omega) (by omega) (fun h12 => ?_) (fun h12 => ?_)
    · exact z_vretd K T rfl dX1_clerkAnswers_62 (by rw [← hF, show (μ 16 k).toNat - i = 0 by omega]; rfl)
    · refine z_aload_n K dX1_clerkAnswers_15 rfl ?_
      refine z_aload_n K dX1_clerkAnswers_16 rfl ?_
      refine z_get (k := 17) (v := .ref (ad 18)) K dX1_clerkAnswers_17 fl_X1_11 rfl rfl rfl ?_
      refine z_bipush K dX1_clerkAnswers_20 (by decide +kernel) ?_
      refine z_iload_n K dX1_clerkAnswers_22 rfl ?_
      refine z_iadd K dX1_clerkAnswers_23 ?_
      refine z_iald (k := 18) (v := d (18 + k)) K dX1_clerkAnswers_24 (18 + k) rfl (by decide) (by omega) (by omega) rfl ?_
      refine z_callVd K hl1 hg1 (kb := 17) (As := [.int (zi (d (18 + k)))]) (rest := []) (ct_mostPressing_n la g0 ad (zup (zup μ 18 d) 19 b) n nc hp hw (d (18 + k)) hw2) (by decide) lk_X1_99 cd_X1_mostPressing rfl rfl rfl rfl (Nat.le_of_ble_eq_true rfl) dX1_clerkAnswers_25 ?_
      show zV χ 4 ad zSH 0 0 28 [(0, .ref (ad 17)), (1, .int (zi ((k : Nat) : Int))), (2, .int (zi ((i : Nat) : Int)))] [.int (zi ((zmp n (μ 13) (μ 14) d (d (18 + k)) n).1))] (zup (zup μ 18 d) 19 b)
      refine z_istore_n (lv' := [(0, .ref (ad 17)), (1, .int (zi ((k : Nat) : Int))), (2, .int (zi ((i : Nat) : Int))), (3, .int (zi ((zmp n (μ 13) (μ 14) d (d (18 + k)) n).1)))]) K dX1_clerkAnswers_28 (by decide) rfl ?_
      refine z_iload_n K dX1_clerkAnswers_29 rfl ?_
      refine z_bipush K dX1_clerkAnswers_30 (by decide +kernel) ?_
      refine z_icmpne (tgt := 36) K dX1_clerkAnswers_32 (by decide) (by omega) ⟨by decide, by decide⟩ (fun h32 => ?_) (fun h32 => ?_)
      · refine z_aload_n K dX1_clerkAnswers_36 rfl ?_
        refine z_get (k := 17) (v := .ref (ad 18)) K dX1_clerkAnswers_37 fl_X1_11 rfl rfl rfl ?_
        refine z_bipush K dX1_clerkAnswers_40 (by decide +kernel) ?_
        refine z_iload_n K dX1_clerkAnswers_42 rfl ?_
        refine z_iadd K dX1_clerkAnswers_43 ?_
        refine z_iconst K dX1_clerkAnswers_44 ?_
        refine z_iast (k := 18) K dX1_clerkAnswers_45 (12 + (zmp n (μ 13) (μ 14) d (d (18 + k)) n).1.toNat) rfl (by decide) (by omega) (by omega) (z_mem (ν := zup (zup μ 18 (zu1 d (12 + (zmp n (μ 13) (μ 14) d (d (18 + k)) n).1.toNat) (1 : Int))) 19 b) (zup_sw _ (by decide) _ _ _) ?_)
        refine z_aload_n K dX1_clerkAnswers_46 rfl ?_
        refine z_get (k := 17) (v := .ref (ad 19)) K dX1_clerkAnswers_47 fl_X1_15 rfl rfl rfl ?_
        refine z_iload_n K dX1_clerkAnswers_50 rfl ?_
        refine z_dup2 K dX1_clerkAnswers_51 rfl rfl ?_
        refine z_iald (k := 19) (v := b k) K dX1_clerkAnswers_52 k rfl (by decide) (by omega) (by omega) rfl ?_
        refine z_iconst K dX1_clerkAnswers_53 ?_
        refine z_iadd K dX1_clerkAnswers_54 ?_
        refine z_iast (k := 19) K dX1_clerkAnswers_55 k rfl (by decide) (by omega) (by omega) (z_mem (ν := zup (zup μ 18 (zu1 d (12 + (zmp n (μ 13) (μ 14) d (d (18 + k)) n).1.toNat) (1 : Int))) 19 (zu1 b k ((b k) + (1 : Int)))) (zup_same _ _ _ _) ?_)
        refine z_iincN (lv' := [(0, .ref (ad 17)), (1, .int (zi ((k : Nat) : Int))), (2, .int (zi ((i + 1 : Nat) : Int))), (3, .int (zi ((zmp n (μ 13) (μ 14) d (d (18 + k)) n).1)))]) K dX1_clerkAnswers_56 rfl (by decide) rfl ?_
        refine z_goto (tgt := 2) K dX1_clerkAnswers_59 (by decide) ?_
        refine z_ipick [0, 1, 2] rfl ?_
        exact ih (i + 1) (by omega) (by omega) (zu1 d (12 + (zmp n (μ 13) (μ 14) d (d (18 + k)) n).1.toNat) (1 : Int)) (zu1 b k ((b k) + (1 : Int))) (zHW_fate hn6 hw (by omega) ⟨by decide, by decide⟩) (by
          rw [show (μ 16 k).toNat - i = ((μ 16 k).toNat - (i + 1)) + 1 by omega, zca_s, if_neg h32] at hF
          exact hF)
      · exact z_vretd K T rfl dX1_clerkAnswers_35 (by rw [← hF, show (μ 16 k).toNat - i = ((μ 16 k).toNat - (i + 1)) + 1 by omega, zca_s, if_pos h32])
  exact L2 0 (by omega) c a hv rfl
set_option maxHeartbeats 4000000 in
set_option maxRecDepth 100000 in
theorem ct_hatch_n (la : Launch) (g0 : zG) (ad : Nat → Nat) (μ : zMem) (n nc : Nat) (hp : zPlan μ n nc) (c a : Nat → Int) (hv : zHW n nc c) (l : Nat) (hl : l < n) : zCon la g0 yX1_hatch cX1_hatch 4 none 0 ad zSH [.ref (ad 17), .int (zi ((l : Nat) : Int))] (zup (zup μ 18 c) 19 a) (zPm (zup (zup μ 18 (zhat n (μ 13) c l)) 19 a)) := by
  refine zCon_of (by decide +kernel) (Nat.le_of_ble_eq_true rfl) ?_
  intro χ K T hl1 hg1
  have K : zOk χ cX1_hatch RX1 4 0 none := K
  obtain ⟨hn, hn6, hnc, hnc3, hpl, hpk⟩ := id hp
  have hvl := hv.1 l hl
  have hpp := hpl l hl
  have hw := zHW_fate hn6 hv hl (v := 2) ⟨by decide, by decide⟩
  show zV χ 4 ad zSH 0 0 0 [(0, .ref (ad 17)), (1, .int (zi ((l : Nat) : Int)))] [] (zup (zup μ 18 c) 19 a)
  refine z_aload_n K dX1_hatch_0 rfl ?_
  refine z_get (k := 17) (v := .ref (ad 18)) K dX1_hatch_1 fl_X1_11 rfl rfl rfl ?_
  refine z_bipush K dX1_hatch_4 (by decide +kernel) ?_
  refine z_iload_n K dX1_hatch_6 rfl ?_
  refine z_iadd K dX1_hatch_7 ?_
  refine z_iconst K dX1_hatch_8 ?_
  refine z_iast (k := 18) K dX1_hatch_9 (12 + l) rfl (by decide) (by omega) (by omega) (z_mem (ν := zup (zup μ 18 (zu1 c (12 + l) (2 : Int))) 19 a) (zup_sw _ (by decide) _ _ _) ?_)
  refine z_aload_n K dX1_hatch_10 rfl ?_
  refine z_get (k := 17) (v := .ref (ad 18)) K dX1_hatch_11 fl_X1_11 rfl rfl rfl ?_
  refine z_iconst K dX1_hatch_14 ?_
  refine z_iload_n K dX1_hatch_15 rfl ?_
  refine z_iadd K dX1_hatch_16 ?_
  refine z_iald (k := 18) (v := c l) K dX1_hatch_17 l rfl (by decide) (by omega) (by omega) (zu1_ne _ _ (by omega)) ?_
  refine z_istore_n (lv' := [(0, .ref (ad 17)), (1, .int (zi ((l : Nat) : Int))), (2, .int (zi (c l)))]) K dX1_hatch_18 (by decide) rfl ?_
  refine z_aload_n K dX1_hatch_19 rfl ?_
  refine z_get (k := 17) (v := .ref (ad 10)) K dX1_hatch_20 fl_X1_18 rfl rfl rfl ?_
  refine z_get (k := 10) (v := .ref (ad 13)) K dX1_hatch_23 fl_X1_61 rfl rfl rfl ?_
  refine z_iload_n K dX1_hatch_26 rfl ?_
  refine z_iald (k := 13) (v := μ 13 l) K dX1_hatch_27 l rfl (by decide) (by omega) (by omega) rfl ?_
  refine z_iconst K dX1_hatch_28 ?_
  refine z_icmpne (tgt := 37) K dX1_hatch_29 (by decide) (by omega) ⟨by decide, by decide⟩ (fun h29 => ?_) (fun h29 => ?_)
  · exact z_vretd K T rfl dX1_hatch_37 (by unfold zhat; rw [if_neg (by omega)])
  · refine z_iload_n K dX1_hatch_32 rfl ?_
    refine z_iconst K dX1_hatch_33 ?_
    refine z_icmpge (tgt := 38) K dX1_hatch_34 (by decide) (by omega) ⟨by decide, by decide⟩ (fun h34 => ?_) (fun h34 => ?_)
    · refine z_iconst K dX1_hatch_38 ?_
      refine z_istore_n (lv' := [(0, .ref (ad 17)), (1, .int (zi ((l : Nat) : Int))), (2, .int (zi (c l))), (3, .int (zi (0 : Int)))]) K dX1_hatch_39 (by decide) rfl ?_
      have L40 : ∀ o, o ≤ n → zV χ 4 ad zSH 0 0 40 [(0, .ref (ad 17)), (1, .int (zi ((l : Nat) : Int))), (2, .int (zi (c l))), (3, .int (zi ((o : Nat) : Int)))] [] (zup (zup μ 18 (zpo (zu1 c (12 + l) 2) (c l) o)) 19 a) := by
        refine zfor ?_
        intro o ho ih
        have hwo := zpo_ok hn6 hw (x := c l) ⟨by omega, by omega⟩ o ho
        refine z_iload_n K dX1_hatch_40 rfl ?_
        refine z_aload_n K dX1_hatch_41 rfl ?_
        refine z_get (k := 17) (v := .ref (ad 10)) K dX1_hatch_42 fl_X1_18 rfl rfl rfl ?_
        refine z_get (k := 10) (v := .int (zi (μ 10 0))) K dX1_hatch_45 fl_X1_22 rfl rfl rfl ?_
        refine z_icmpge (tgt := 92) K dX1_hatch_48 (by decide) (by omega) (by omega) (fun h48 => ?_) (fun h48 => ?_)
        · exact z_vretd K T rfl dX1_hatch_92 (by unfold zhat; rw [if_pos ⟨by omega, by omega⟩, show n = o by omega])
        · have hwl := hwo.1 o (by omega)
          refine z_aload_n K dX1_hatch_51 rfl ?_
          refine z_get (k := 17) (v := .ref (ad 18)) K dX1_hatch_52 fl_X1_11 rfl rfl rfl ?_
          refine z_bipush K dX1_hatch_55 (by decide +kernel) ?_
          refine z_iload_n K dX1_hatch_57 rfl ?_
          refine z_iadd K dX1_hatch_58 ?_
          refine z_iald (k := 18) (v := (zpo (zu1 c (12 + l) 2) (c l) o) (12 + o)) K dX1_hatch_59 (12 + o) rfl (by decide) (by omega) (by omega) rfl ?_
          refine z_ifne (tgt := 86) K dX1_hatch_60 (by decide) (by omega) (fun h60 => ?_) (fun h60 => ?_)
          · refine z_iincN (lv' := [(0, .ref (ad 17)), (1, .int (zi ((l : Nat) : Int))), (2, .int (zi (c l))), (3, .int (zi ((o + 1 : Nat) : Int)))]) K dX1_hatch_86 rfl (by decide) rfl ?_
            refine z_goto (tgt := 40) K dX1_hatch_89 (by decide) ?_
            have e9 : zpo (zu1 c (12 + l) 2) (c l) (o + 1) = zpo (zu1 c (12 + l) 2) (c l) o := by
              rw [zpo_s]
              rw [if_neg (by omega)]
            have q := ih (o + 1) (by omega) (by omega)
            rw [e9] at q
            exact q
          · refine z_aload_n K dX1_hatch_63 rfl ?_
            refine z_get (k := 17) (v := .ref (ad 18)) K dX1_hatch_64 fl_X1_11 rfl rfl rfl ?_
            refine z_iconst K dX1_hatch_67 ?_
            refine z_iload_n K dX1_hatch_68 rfl ?_
            refine z_iadd K dX1_hatch_69 ?_
            refine z_iald (k := 18) (v := (zpo (zu1 c (12 + l) 2) (c l) o) o) K dX1_hatch_70 o rfl (by decide) (by omega) (by omega) rfl ?_
            refine z_iload_n K dX1_hatch_71 rfl ?_
            refine z_icmpne (tgt := 86) K dX1_hatch_72 (by decide) (by omega) (by omega) (fun h72 => ?_) (fun h72 => ?_)
            · refine z_iincN (lv' := [(0, .ref (ad 17)), (1, .int (zi ((l : Nat) : Int))), (2, .int (zi (c l))), (3, .int (zi ((o + 1 : Nat) : Int)))]) K dX1_hatch_86 rfl (by decide) rfl ?_
              refine z_goto (tgt := 40) K dX1_hatch_89 (by decide) ?_
              have e9 : zpo (zu1 c (12 + l) 2) (c l) (o + 1) = zpo (zu1 c (12 + l) 2) (c l) o := by
                rw [zpo_s]
                rw [if_neg (by omega)]
              have q := ih (o + 1) (by omega) (by omega)
              rw [e9] at q
              exact q
            · refine z_aload_n K dX1_hatch_75 rfl ?_
              refine z_get (k := 17) (v := .ref (ad 18)) K dX1_hatch_76 fl_X1_11 rfl rfl rfl ?_
              refine z_iconst K dX1_hatch_79 ?_
              refine z_iload_n K dX1_hatch_80 rfl ?_
              refine z_iadd K dX1_hatch_81 ?_
              refine z_iload_n K dX1_hatch_82 rfl ?_
              refine z_iconst K dX1_hatch_83 ?_
              refine z_isub K dX1_hatch_84 ?_
              refine z_iast (k := 18) K dX1_hatch_85 o rfl (by decide) (by omega) (by omega) (z_mem (ν := zup (zup μ 18 (zu1 (zpo (zu1 c (12 + l) 2) (c l) o) o ((c l) - (4 : Int)))) 19 a) (zup_sw _ (by decide) _ _ _) ?_)
              refine z_iincN (lv' := [(0, .ref (ad 17)), (1, .int (zi ((l : Nat) : Int))), (2, .int (zi (c l))), (3, .int (zi ((o + 1 : Nat) : Int)))]) K dX1_hatch_86 rfl (by decide) rfl ?_
              refine z_goto (tgt := 40) K dX1_hatch_89 (by decide) ?_
              have e9 : zpo (zu1 c (12 + l) 2) (c l) (o + 1) = zu1 (zpo (zu1 c (12 + l) 2) (c l) o) o ((c l) - (4 : Int)) := by
                rw [zpo_s]
                rw [if_pos ⟨by omega, by omega⟩]
              have q := ih (o + 1) (by omega) (by omega)
              rw [e9] at q
              exact q
      exact L40 0 (by omega)
    · exact z_vretd K T rfl dX1_hatch_37 (by unfold zhat; rw [if_neg (by omega)])
set_option maxHeartbeats 4000000 in
set_option maxRecDepth 100000 in
theorem ct_birdsEat_n (la : Launch) (g0 : zG) (ad : Nat → Nat) (μ : zMem) (n nc : Nat) (hp : zPlan μ n nc) (c a : Nat → Int) (hv : zHV n nc c) : zCon la g0 yX1_birdsEat cX1_birdsEat 2 none 0 ad zSH [.ref (ad 17)] (zup (zup μ 18 c) 19 a) (zPm (zup (zup μ 18 (zeat c n)) 19 a)) := by
  refine zCon_of (by decide +kernel) (Nat.le_of_ble_eq_true rfl) ?_
  intro χ K T hl1 hg1
  have K : zOk χ cX1_birdsEat RX1 2 0 none := K
  obtain ⟨hn, hn6, hnc, hnc3, hpl, hpk⟩ := id hp
  show zV χ 2 ad zSH 0 0 0 [(0, .ref (ad 17))] [] (zup (zup μ 18 c) 19 a)
  refine z_iconst K dX1_birdsEat_0 ?_
  refine z_istore_n (lv' := [(0, .ref (ad 17)), (1, .int (zi (0 : Int)))]) K dX1_birdsEat_1 (by decide) rfl ?_
  have L2 : ∀ l, l ≤ n → zV χ 2 ad zSH 0 0 2 [(0, .ref (ad 17)), (1, .int (zi ((l : Nat) : Int)))] [] (zup (zup μ 18 (zeat c l)) 19 a) := by
    refine zfor ?_
    intro l hl ih
    have hw := zeat_ok hn6 hnc3 hv l hl
    have hw21 := hw.1.2.2
    refine z_iload_n K dX1_birdsEat_2 rfl ?_
    refine z_aload_n K dX1_birdsEat_3 rfl ?_
    refine z_get (k := 17) (v := .ref (ad 10)) K dX1_birdsEat_4 fl_X1_18 rfl rfl rfl ?_
    refine z_get (k := 10) (v := .int (zi (μ 10 0))) K dX1_birdsEat_7 fl_X1_22 rfl rfl rfl ?_
    refine z_icmpge (tgt := 66) K dX1_birdsEat_10 (by decide) (by omega) (by omega) (fun h10 => ?_) (fun h10 => ?_)
    · exact z_vretd K T rfl dX1_birdsEat_66 (by rw [show n = l by omega])
    · have hwl := hw.1.1 l (by omega)
      refine z_aload_n K dX1_birdsEat_13 rfl ?_
      refine z_get (k := 17) (v := .ref (ad 18)) K dX1_birdsEat_14 fl_X1_11 rfl rfl rfl ?_
      refine z_bipush K dX1_birdsEat_17 (by decide +kernel) ?_
      refine z_iload_n K dX1_birdsEat_19 rfl ?_
      refine z_iadd K dX1_birdsEat_20 ?_
      refine z_iald (k := 18) (v := (zeat c l) (12 + l)) K dX1_birdsEat_21 (12 + l) rfl (by decide) (by omega) (by omega) rfl ?_
      refine z_iconst K dX1_birdsEat_22 ?_
      refine z_icmpne (tgt := 60) K dX1_birdsEat_23 (by decide) (by omega) ⟨by decide, by decide⟩ (fun h23 => ?_) (fun h23 => ?_)
      · refine z_iincN (lv' := [(0, .ref (ad 17)), (1, .int (zi ((l + 1 : Nat) : Int)))]) K dX1_birdsEat_60 rfl (by decide) rfl ?_
        refine z_goto (tgt := 2) K dX1_birdsEat_63 (by decide) ?_
        have e9 : zeat c (l + 1) = zeat c l := by
          rw [zeat_s]
          rw [if_neg (by omega)]
        have q := ih (l + 1) (by omega) (by omega)
        rw [e9] at q
        exact q
      · refine z_aload_n K dX1_birdsEat_26 rfl ?_
        refine z_get (k := 17) (v := .ref (ad 18)) K dX1_birdsEat_27 fl_X1_11 rfl rfl rfl ?_
        refine z_bipush K dX1_birdsEat_30 (by decide +kernel) ?_
        refine z_iald (k := 18) (v := (zeat c l) 21) K dX1_birdsEat_32 21 rfl (by decide) (by omega) (by omega) rfl ?_
        refine z_ifle (tgt := 50) K dX1_birdsEat_33 (by decide) (by omega) (fun h33 => ?_) (fun h33 => ?_)
        · refine z_aload_n K dX1_birdsEat_50 rfl ?_
          refine z_get (k := 17) (v := .ref (ad 18)) K dX1_birdsEat_51 fl_X1_11 rfl rfl rfl ?_
          refine z_bipush K dX1_birdsEat_54 (by decide +kernel) ?_
          refine z_iload_n K dX1_birdsEat_56 rfl ?_
          refine z_iadd K dX1_birdsEat_57 ?_
          refine z_iconst K dX1_birdsEat_58 ?_
          refine z_iast (k := 18) K dX1_birdsEat_59 (12 + l) rfl (by decide) (by omega) (by omega) (z_mem (ν := zup (zup μ 18 (zu1 (zeat c l) (12 + l) (3 : Int))) 19 a) (zup_sw _ (by decide) _ _ _) ?_)
          refine z_iincN (lv' := [(0, .ref (ad 17)), (1, .int (zi ((l + 1 : Nat) : Int)))]) K dX1_birdsEat_60 rfl (by decide) rfl ?_
          refine z_goto (tgt := 2) K dX1_birdsEat_63 (by decide) ?_
          have e9 : zeat c (l + 1) = zu1 (zeat c l) (12 + l) (3 : Int) := by
            rw [zeat_s]
            rw [if_pos (by omega), if_neg (by omega)]
          have q := ih (l + 1) (by omega) (by omega)
          rw [e9] at q
          exact q
        · refine z_aload_n K dX1_birdsEat_36 rfl ?_
          refine z_get (k := 17) (v := .ref (ad 18)) K dX1_birdsEat_37 fl_X1_11 rfl rfl rfl ?_
          refine z_bipush K dX1_birdsEat_40 (by decide +kernel) ?_
          refine z_dup2 K dX1_birdsEat_42 rfl rfl ?_
          refine z_iald (k := 18) (v := (zeat c l) 21) K dX1_birdsEat_43 21 rfl (by decide) (by omega) (by omega) rfl ?_
          refine z_iconst K dX1_birdsEat_44 ?_
          refine z_isub K dX1_birdsEat_45 ?_
          refine z_iast (k := 18) K dX1_birdsEat_46 21 rfl (by decide) (by omega) (by omega) (z_mem (ν := zup (zup μ 18 (zu1 (zeat c l) 21 (((zeat c l) 21) - (1 : Int)))) 19 a) (zup_sw _ (by decide) _ _ _) ?_)
          refine z_goto (tgt := 60) K dX1_birdsEat_47 (by decide) ?_
          refine z_iincN (lv' := [(0, .ref (ad 17)), (1, .int (zi ((l + 1 : Nat) : Int)))]) K dX1_birdsEat_60 rfl (by decide) rfl ?_
          refine z_goto (tgt := 2) K dX1_birdsEat_63 (by decide) ?_
          have e9 : zeat c (l + 1) = zu1 (zeat c l) 21 (((zeat c l) 21) - (1 : Int)) := by
            rw [zeat_s]
            rw [if_pos (by omega), if_pos (by omega)]
          have q := ih (l + 1) (by omega) (by omega)
          rw [e9] at q
          exact q
  exact L2 0 (by omega)
set_option maxHeartbeats 4000000 in
set_option maxRecDepth 100000 in
theorem ct_passDay_n (la : Launch) (g0 : zG) (ad : Nat → Nat) (μ : zMem) (n nc : Nat) (hp : zPlan μ n nc) (c a : Nat → Int) (hv : zHV n nc c) : zCon la g0 yX1_passDay cX1_passDay 3 (some .int) 3 ad zSH [.ref (ad 17)] (zup (zup μ 18 c) 19 a) (zPd (zup (zup μ 18 ((zday n (μ 13) (μ 14) nc (μ 16) (c, a)).1)) 19 ((zday n (μ 13) (μ 14) nc (μ 16) (c, a)).2)) ((zdayM n (μ 13) (μ 14) nc (μ 16) (c, a) : Nat) : Int)) := by
  refine zCon_of (by decide +kernel) (Nat.le_of_ble_eq_true rfl) ?_
  intro χ K T hl1 hg1
  have K : zOk χ cX1_passDay RX1 3 3 (some .int) := K
  obtain ⟨hn, hn6, hnc, hnc3, hpl, hpk⟩ := id hp
  show zV χ 3 ad zSH 0 0 0 [(0, .ref (ad 17))] [] (zup (zup μ 18 c) 19 a)
  refine z_iconst K dX1_passDay_0 ?_
  refine z_istore_n (lv' := [(0, .ref (ad 17)), (1, .int (zi (0 : Int)))]) K dX1_passDay_1 (by decide) rfl ?_
  have L2 : ∀ k, k ≤ nc → ∀ (d b : Nat → Int), zcl n (μ 13) (μ 14) (μ 16) k (c, a) = (d, b) → zV χ 3 ad zSH 0 0 2 [(0, .ref (ad 17)), (1, .int (zi ((k : Nat) : Int)))] [] (zup (zup μ 18 d) 19 b) := by
    refine zfor ?_
    intro k hk ih d b hF
    have hwv := zcl_wait hp.pk k (c, a) hv
    rw [hF] at hwv
    dsimp only at hwv
    refine z_iload_n K dX1_passDay_2 rfl ?_
    refine z_aload_n K dX1_passDay_3 rfl ?_
    refine z_get (k := 17) (v := .ref (ad 10)) K dX1_passDay_4 fl_X1_18 rfl rfl rfl ?_
    refine z_get (k := 10) (v := .int (zi (μ 10 1))) K dX1_passDay_7 fl_X1_31 rfl rfl rfl ?_
    refine z_icmpge (tgt := 24) K dX1_passDay_10 (by decide) (by omega) (by omega) (fun h10 => ?_) (fun h10 => ?_)
    · have hkn : k = nc := by omega
      rw [hkn] at hF
      refine z_iconst K dX1_passDay_24 ?_
      refine z_istore_n (lv' := [(0, .ref (ad 17)), (1, .int (zi (0 : Int)))]) K dX1_passDay_25 (by decide) rfl ?_
      have L26 : ∀ l, l ≤ n → ∀ e, zwt d l = e → zV χ 3 ad zSH 0 0 26 [(0, .ref (ad 17)), (1, .int (zi ((l : Nat) : Int)))] [] (zup (zup μ 18 e) 19 b) := by
        refine zfor ?_
        intro l hl ih e hF2
        have hwt := zwt_ok hn6 hwv l hl
        rw [hF2] at hwt
        refine z_iload_n K dX1_passDay_26 rfl ?_
        refine z_aload_n K dX1_passDay_27 rfl ?_
        refine z_get (k := 17) (v := .ref (ad 10)) K dX1_passDay_28 fl_X1_18 rfl rfl rfl ?_
        refine z_get (k := 10) (v := .int (zi (μ 10 0))) K dX1_passDay_31 fl_X1_22 rfl rfl rfl ?_
        refine z_icmpge (tgt := 68) K dX1_passDay_34 (by decide) (by omega) (by omega) (fun h34 => ?_) (fun h34 => ?_)
        · have hln : l = n := by omega
          rw [hln] at hF2
          refine z_iconst K dX1_passDay_68 ?_
          refine z_istore_n (lv' := [(0, .ref (ad 17)), (1, .int (zi (0 : Int)))]) K dX1_passDay_69 (by decide) rfl ?_
          refine z_iconst K dX1_passDay_70 ?_
          refine z_istore_n (lv' := [(0, .ref (ad 17)), (1, .int (zi (0 : Int))), (2, .int (zi (0 : Int)))]) K dX1_passDay_71 (by decide) rfl ?_
          have L72 : ∀ l, l ≤ n → ∀ (f : Nat → Int) (m : Nat), zht n (μ 13) (μ 14) e l = (f, m) → zV χ 3 ad zSH 0 0 72 [(0, .ref (ad 17)), (1, .int (zi ((m : Nat) : Int))), (2, .int (zi ((l : Nat) : Int)))] [] (zup (zup μ 18 f) 19 b) := by
            refine zfor ?_
            intro l hl ih f m hF3
            have hht := zht_ok hp.pk hwt.1 l hl
            rw [hF3] at hht
            dsimp only at hht
            refine z_iload_n K dX1_passDay_72 rfl ?_
            refine z_aload_n K dX1_passDay_73 rfl ?_
            refine z_get (k := 17) (v := .ref (ad 10)) K dX1_passDay_74 fl_X1_18 rfl rfl rfl ?_
            refine z_get (k := 10) (v := .int (zi (μ 10 0))) K dX1_passDay_77 fl_X1_22 rfl rfl rfl ?_
            refine z_icmpge (tgt := 117) K dX1_passDay_80 (by decide) (by omega) (by omega) (fun h80 => ?_) (fun h80 => ?_)
            · have hln : l = n := by omega
              rw [hln] at hF3
              have hdA : zdayA n (μ 13) (μ 14) nc (μ 16) (c, a) = (f, m) := by unfold zdayA; rw [hF]; show zht n (μ 13) (μ 14) (zwt d n) n = (f, m); rw [hF2, hF3]
              have hdV := (zdayA_ok hp.pk (s := (c, a)) hv).1
              rw [hdA] at hdV
              dsimp only at hdV
              refine z_aload_n K dX1_passDay_117 rfl ?_
              refine z_callVm K hl1 hg1 (kb := 17) (As := []) (rest := []) (ct_birdsEat_n la g0 ad μ n nc hp f b hdV) (by decide) lk_X1_93 cd_X1_birdsEat rfl rfl rfl rfl (Nat.le_of_ble_eq_true rfl) dX1_passDay_118 ?_
              refine z_aload_n K dX1_passDay_121 rfl ?_
              refine z_get (k := 17) (v := .ref (ad 18)) K dX1_passDay_122 fl_X1_11 rfl rfl rfl ?_
              refine z_bipush K dX1_passDay_125 (by decide +kernel) ?_
              refine z_dup2 K dX1_passDay_127 rfl rfl ?_
              refine z_iald (k := 18) (v := (zeat f n) 22) K dX1_passDay_128 22 rfl (by decide) (by omega) (by omega) rfl ?_
              refine z_iconst K dX1_passDay_129 ?_
              refine z_iadd K dX1_passDay_130 ?_
              refine z_iast (k := 18) K dX1_passDay_131 22 rfl (by decide) (by omega) (by omega) (z_mem (ν := zup (zup μ 18 (zu1 (zeat f n) 22 (((zeat f n) 22) + (1 : Int)))) 19 b) (zup_sw _ (by decide) _ _ _) ?_)
              refine z_iload_n K dX1_passDay_132 rfl ?_
              exact z_iretd K T rfl dX1_passDay_133 (by unfold zdayM; rw [hdA]) (by unfold zday; rw [hdA, hF])
            · have hwl := hht.1.1 l (by omega)
              have hdl := zdl_rg hp.pk hht.1 (l := l) (by omega)
              refine z_aload_n K dX1_passDay_83 rfl ?_
              refine z_get (k := 17) (v := .ref (ad 18)) K dX1_passDay_84 fl_X1_11 rfl rfl rfl ?_
              refine z_bipush K dX1_passDay_87 (by decide +kernel) ?_
              refine z_iload_n K dX1_passDay_89 rfl ?_
              refine z_iadd K dX1_passDay_90 ?_
              refine z_iald (k := 18) (v := f (12 + l)) K dX1_passDay_91 (12 + l) rfl (by decide) (by omega) (by omega) rfl ?_
              refine z_ifne (tgt := 111) K dX1_passDay_92 (by decide) (by omega) (fun h92 => ?_) (fun h92 => ?_)
              · refine z_iincN (lv' := [(0, .ref (ad 17)), (1, .int (zi ((m : Nat) : Int))), (2, .int (zi ((l + 1 : Nat) : Int)))]) K dX1_passDay_111 rfl (by decide) rfl ?_
                refine z_goto (tgt := 72) K dX1_passDay_114 (by decide) ?_
                exact ih (l + 1) (by omega) (by omega) _ _ (by
                  rw [zht_s, hF3]
                  dsimp only
                  rw [if_neg (by omega)])
              · refine z_aload_n K dX1_passDay_95 rfl ?_
                refine z_iload_n K dX1_passDay_96 rfl ?_
                refine z_callVd K hl1 hg1 (kb := 17) (As := [.int (zi ((l : Nat) : Int))]) (rest := []) (ct_daysLeft_n la g0 ad (zup (zup μ 18 f) 19 b) n nc hp hht.1 l (by omega)) (by decide) lk_X1_87 cd_X1_daysLeft rfl rfl rfl rfl (Nat.le_of_ble_eq_true rfl) dX1_passDay_97 ?_
                show zV χ 3 ad zSH 0 0 100 [(0, .ref (ad 17)), (1, .int (zi ((m : Nat) : Int))), (2, .int (zi ((l : Nat) : Int)))] [.int (zi (zdl n (μ 13) (μ 14) f l))] (zup (zup μ 18 f) 19 b)
                refine z_ifne (tgt := 111) K dX1_passDay_100 (by decide) (by omega) (fun h100 => ?_) (fun h100 => ?_)
                · refine z_iincN (lv' := [(0, .ref (ad 17)), (1, .int (zi ((m : Nat) : Int))), (2, .int (zi ((l + 1 : Nat) : Int)))]) K dX1_passDay_111 rfl (by decide) rfl ?_
                  refine z_goto (tgt := 72) K dX1_passDay_114 (by decide) ?_
                  exact ih (l + 1) (by omega) (by omega) _ _ (by
                    rw [zht_s, hF3]
                    dsimp only
                    rw [if_neg (by omega)])
                · refine z_aload_n K dX1_passDay_103 rfl ?_
                  refine z_iload_n K dX1_passDay_104 rfl ?_
                  refine z_callVm K hl1 hg1 (kb := 17) (As := [.int (zi ((l : Nat) : Int))]) (rest := []) (ct_hatch_n la g0 ad μ n nc hp f b hht.1 l (by omega)) (by decide) lk_X1_90 cd_X1_hatch rfl rfl rfl rfl (Nat.le_of_ble_eq_true rfl) dX1_passDay_105 ?_
                  refine z_iincN (lv' := [(0, .ref (ad 17)), (1, .int (zi ((m + 1 : Nat) : Int))), (2, .int (zi ((l : Nat) : Int)))]) K dX1_passDay_108 rfl (by decide) rfl ?_
                  refine z_iincN (lv' := [(0, .ref (ad 17)), (1, .int (zi ((m + 1 : Nat) : Int))), (2, .int (zi ((l + 1 : Nat) : Int)))]) K dX1_passDay_111 rfl (by decide) rfl ?_
                  refine z_goto (tgt := 72) K dX1_passDay_114 (by decide) ?_
                  exact ih (l + 1) (by omega) (by omega) _ _ (by
                    rw [zht_s, hF3]
                    dsimp only
                    rw [if_pos ⟨by omega, by omega⟩])
          exact L72 0 (by omega) e 0 rfl
        · have hwl := hwt.1.1 l (by omega)
          refine z_aload_n K dX1_passDay_37 rfl ?_
          refine z_get (k := 17) (v := .ref (ad 18)) K dX1_passDay_38 fl_X1_11 rfl rfl rfl ?_
          refine z_bipush K dX1_passDay_41 (by decide +kernel) ?_
          refine z_iload_n K dX1_passDay_43 rfl ?_
          refine z_iadd K dX1_passDay_44 ?_
          refine z_iald (k := 18) (v := e (12 + l)) K dX1_passDay_45 (12 + l) rfl (by decide) (by omega) (by omega) rfl ?_
          refine z_ifne (tgt := 62) K dX1_passDay_46 (by decide) (by omega) (fun h46 => ?_) (fun h46 => ?_)
          · refine z_iincN (lv' := [(0, .ref (ad 17)), (1, .int (zi ((l + 1 : Nat) : Int)))]) K dX1_passDay_62 rfl (by decide) rfl ?_
            refine z_goto (tgt := 26) K dX1_passDay_65 (by decide) ?_
            exact ih (l + 1) (by omega) (by omega) _ (by
              rw [zwt_s, hF2]
              rw [if_neg (by omega)])
          · refine z_aload_n K dX1_passDay_49 rfl ?_
            refine z_get (k := 17) (v := .ref (ad 18)) K dX1_passDay_50 fl_X1_11 rfl rfl rfl ?_
            refine z_bipush K dX1_passDay_53 (by decide +kernel) ?_
            refine z_iload_n K dX1_passDay_55 rfl ?_
            refine z_iadd K dX1_passDay_56 ?_
            refine z_dup2 K dX1_passDay_57 rfl rfl ?_
            refine z_iald (k := 18) (v := e (6 + l)) K dX1_passDay_58 (6 + l) rfl (by decide) (by omega) (by omega) rfl ?_
            refine z_iconst K dX1_passDay_59 ?_
            refine z_iadd K dX1_passDay_60 ?_
            refine z_iast (k := 18) K dX1_passDay_61 (6 + l) rfl (by decide) (by omega) (by omega) (z_mem (ν := zup (zup μ 18 (zu1 e (6 + l) ((e (6 + l)) + (1 : Int)))) 19 b) (zup_sw _ (by decide) _ _ _) ?_)
            refine z_iincN (lv' := [(0, .ref (ad 17)), (1, .int (zi ((l + 1 : Nat) : Int)))]) K dX1_passDay_62 rfl (by decide) rfl ?_
            refine z_goto (tgt := 26) K dX1_passDay_65 (by decide) ?_
            exact ih (l + 1) (by omega) (by omega) _ (by
              rw [zwt_s, hF2]
              rw [if_pos (by omega)])
      exact L26 0 (by omega) d rfl
    · refine z_aload_n K dX1_passDay_13 rfl ?_
      refine z_iload_n K dX1_passDay_14 rfl ?_
      refine z_callVm K hl1 hg1 (kb := 17) (As := [.int (zi ((k : Nat) : Int))]) (rest := []) (ct_clerkAnswers_n la g0 ad μ n nc hp d b hwv.1 k (by omega)) (by decide) lk_X1_83 cd_X1_clerkAnswers rfl rfl rfl rfl (Nat.le_of_ble_eq_true rfl) dX1_passDay_15 ?_
      refine z_iincN (lv' := [(0, .ref (ad 17)), (1, .int (zi ((k + 1 : Nat) : Int)))]) K dX1_passDay_18 rfl (by decide) rfl ?_
      refine z_goto (tgt := 2) K dX1_passDay_21 (by decide) ?_
      exact ih (k + 1) (by omega) (by omega) _ _ (by rw [zcl_s, hF])
  exact L2 0 (by omega) c a rfl
set_option maxHeartbeats 4000000 in
set_option maxRecDepth 100000 in
theorem ct_moveTo_n (la : Launch) (g0 : zG) (ad : Nat → Nat) (μ : zMem) (l : Nat) (hl : l < 6) (x : Int) : zCon la g0 yX1_moveTo cX1_moveTo 3 none 0 ad zSH [.ref (ad 17), .int (zi ((l : Nat) : Int)), .int (zi x)] μ (zPm (zup μ 18 (zu1 (μ 18) l x))) := by
  refine zCon_of (by decide +kernel) (Nat.le_of_ble_eq_true rfl) ?_
  intro χ K T hl1 hg1
  have K : zOk χ cX1_moveTo RX1 3 0 none := K
  show zV χ 3 ad zSH 0 0 0 [(0, .ref (ad 17)), (1, .int (zi ((l : Nat) : Int))), (2, .int (zi x))] [] μ
  refine z_aload_n K dX1_moveTo_0 rfl ?_
  refine z_get (k := 17) (v := .ref (ad 18)) K dX1_moveTo_1 fl_X1_11 rfl rfl rfl ?_
  refine z_iconst K dX1_moveTo_4 ?_
  refine z_iload_n K dX1_moveTo_5 rfl ?_
  refine z_iadd K dX1_moveTo_6 ?_
  refine z_iload_n K dX1_moveTo_7 rfl ?_
  refine z_iast (k := 18) K dX1_moveTo_8 l rfl (by decide) (by omega) (by omega) ?_
  exact z_vretd K T rfl dX1_moveTo_9 rfl
set_option maxHeartbeats 4000000 in
set_option maxRecDepth 100000 in
theorem ct_sendTo_n (la : Launch) (g0 : zG) (ad : Nat → Nat) (μ : zMem) (k : Nat) (hk : k < 3) (x : Int) : zCon la g0 yX1_sendTo cX1_sendTo 3 none 0 ad zSH [.ref (ad 17), .int (zi ((k : Nat) : Int)), .int (zi x)] μ (zPm (zup μ 18 (zu1 (μ 18) (18 + k) x))) := by
  refine zCon_of (by decide +kernel) (Nat.le_of_ble_eq_true rfl) ?_
  intro χ K T hl1 hg1
  have K : zOk χ cX1_sendTo RX1 3 0 none := K
  show zV χ 3 ad zSH 0 0 0 [(0, .ref (ad 17)), (1, .int (zi ((k : Nat) : Int))), (2, .int (zi x))] [] μ
  refine z_aload_n K dX1_sendTo_0 rfl ?_
  refine z_get (k := 17) (v := .ref (ad 18)) K dX1_sendTo_1 fl_X1_11 rfl rfl rfl ?_
  refine z_bipush K dX1_sendTo_4 (by decide +kernel) ?_
  refine z_iload_n K dX1_sendTo_6 rfl ?_
  refine z_iadd K dX1_sendTo_7 ?_
  refine z_iload_n K dX1_sendTo_8 rfl ?_
  refine z_iast (k := 18) K dX1_sendTo_9 (18 + k) rfl (by decide) (by omega) (by omega) ?_
  exact z_vretd K T rfl dX1_sendTo_10 rfl
set_option maxHeartbeats 4000000 in
set_option maxRecDepth 100000 in
theorem ct_addGrain_n (la : Launch) (g0 : zG) (ad : Nat → Nat) (μ : zMem) (x : Int) (hx : 0 ≤ x ∧ x ≤ 9) (hg : 0 ≤ μ 18 21 ∧ μ 18 21 ≤ 99) : zCon la g0 yX1_addGrain cX1_addGrain 2 none 1 ad zSH [.ref (ad 17), .int (zi x)] μ (zPm (zup μ 18 (zu1 (μ 18) 21 (min 99 (μ 18 21 + x))))) := by
  refine zCon_of (by decide +kernel) (Nat.le_of_ble_eq_true rfl) ?_
  intro χ K T hl1 hg1
  have K : zOk χ cX1_addGrain RX1 2 1 none := K
  show zV χ 2 ad zSH 0 0 0 [(0, .ref (ad 17)), (1, .int (zi x))] [] μ
  refine z_aload_n K dX1_addGrain_0 rfl ?_
  refine z_get (k := 17) (v := .ref (ad 18)) K dX1_addGrain_1 fl_X1_11 rfl rfl rfl ?_
  refine z_bipush K dX1_addGrain_4 (by decide +kernel) ?_
  refine z_bipush K dX1_addGrain_6 (by decide +kernel) ?_
  refine z_aload_n K dX1_addGrain_8 rfl ?_
  refine z_get (k := 17) (v := .ref (ad 18)) K dX1_addGrain_9 fl_X1_11 rfl rfl rfl ?_
  refine z_bipush K dX1_addGrain_12 (by decide +kernel) ?_
  refine z_iald (k := 18) (v := μ 18 21) K dX1_addGrain_14 21 rfl (by decide) (by omega) (by omega) rfl ?_
  refine z_iload_n K dX1_addGrain_15 rfl ?_
  refine z_iadd K dX1_addGrain_16 ?_
  refine z_min K dX1_addGrain_17 lk_X1_77 (by decide) ⟨by decide, by decide⟩ (by omega) (Nat.le_of_ble_eq_true rfl) ?_
  refine z_iast (k := 18) K dX1_addGrain_20 21 rfl (by decide) (by omega) (by omega) ?_
  exact z_vretd K T rfl dX1_addGrain_21 rfl
set_option maxHeartbeats 4000000 in
set_option maxRecDepth 100000 in
theorem ct_mostPressing_t (la : Launch) (g0 : zG) (ad : Nat → Nat) (μ : zMem) (n nc : Nat) (hp : zPlan μ n nc) (hv : zHW n nc (μ 26)) (row : Int) (hrow : 0 ≤ row ∧ row ≤ 3) : zCon la g0 yX1_mostPressing cX1_mostPressing 6 (some .int) 1 ad zSH [.ref (ad 25), .int (zi row)] μ (zPd μ (zmp n (μ 13) (μ 14) (μ 26) row n).1) := by
  refine zCon_of (by decide +kernel) (Nat.le_of_ble_eq_true rfl) ?_
  intro χ K T hl1 hg1
  have K : zOk χ cX1_mostPressing RX1 6 1 (some .int) := K
  obtain ⟨hn, hn6, hnc, hnc3, hpl, hpk⟩ := id hp
  obtain ⟨hv1, hv2, hv3, hv4⟩ := id hv
  show zV χ 6 ad zSH 0 0 0 [(0, .ref (ad 25)), (1, .int (zi row))] [] μ
  refine z_bipush K dX1_mostPressing_0 (by decide +kernel) ?_
  refine z_istore_n (lv' := [(0, .ref (ad 25)), (1, .int (zi row)), (2, .int (zi (-9 : Int)))]) K dX1_mostPressing_2 (by decide) rfl ?_
  refine z_iconst K dX1_mostPressing_3 ?_
  refine z_istore_n (lv' := [(0, .ref (ad 25)), (1, .int (zi row)), (2, .int (zi (-9 : Int))), (3, .int (zi (0 : Int)))]) K dX1_mostPressing_4 (by decide) rfl ?_
  refine z_iconst K dX1_mostPressing_5 ?_
  refine z_istore (lv' := [(0, .ref (ad 25)), (1, .int (zi row)), (2, .int (zi (-9 : Int))), (3, .int (zi (0 : Int))), (4, .int (zi (0 : Int)))]) K dX1_mostPressing_6 (by decide) rfl ?_
  have L8 : ∀ l, l ≤ n → zV χ 6 ad zSH 0 0 8 [(0, .ref (ad 25)), (1, .int (zi row)), (2, .int (zi ((zmp n (μ 13) (μ 14) (μ 26) row l).1))), (3, .int (zi ((zmp n (μ 13) (μ 14) (μ 26) row l).2))), (4, .int (zi ((l : Nat) : Int)))] [] μ := by
    refine zfor ?_
    intro l hl ih
    have hrg := zmp_rg hp.pk hv row l hl
    refine z_iload K dX1_mostPressing_8 rfl ?_
    refine z_aload_n K dX1_mostPressing_10 rfl ?_
    refine z_get (k := 25) (v := .ref (ad 10)) K dX1_mostPressing_11 fl_X1_18 rfl rfl rfl ?_
    refine z_get (k := 10) (v := .int (zi (μ 10 0))) K dX1_mostPressing_14 fl_X1_22 rfl rfl rfl ?_
    refine z_icmpge (tgt := 80) K dX1_mostPressing_17 (by decide) (by omega) (by omega) (fun h17 => ?_) (fun h17 => ?_)
    · refine z_iload_n K dX1_mostPressing_80 rfl ?_
      exact z_iretd K T rfl dX1_mostPressing_81 (by rw [show l = n by omega]) rfl
    · have hfl := hv1 l (by omega)
      have hdl := zdl_rg hp.pk hv (l := l) (by omega)
      refine z_aload_n K dX1_mostPressing_20 rfl ?_
      refine z_get (k := 25) (v := .ref (ad 26)) K dX1_mostPressing_21 fl_X1_11 rfl rfl rfl ?_
      refine z_bipush K dX1_mostPressing_24 (by decide +kernel) ?_
      refine z_iload K dX1_mostPressing_26 rfl ?_
      refine z_iadd K dX1_mostPressing_28 ?_
      refine z_iald (k := 26) (v := μ 26 (12 + l)) K dX1_mostPressing_29 (12 + l) rfl (by decide) (by omega) (by omega) rfl ?_
      refine z_ifne (tgt := 74) K dX1_mostPressing_30 (by decide) (by omega) (fun h30 => ?_) (fun h30 => ?_)
      · refine z_iincN (lv' := [(0, .ref (ad 25)), (1, .int (zi row)), (2, .int (zi ((zmp n (μ 13) (μ 14) (μ 26) row l).1))), (3, .int (zi ((zmp n (μ 13) (μ 14) (μ 26) row l).2))), (4, .int (zi ((l + 1 : Nat) : Int)))]) K dX1_mostPressing_74 rfl (by decide) rfl ?_
        refine z_goto (tgt := 8) K dX1_mostPressing_77 (by decide) ?_
        have e9 : zmp n (μ 13) (μ 14) (μ 26) row (l + 1) = zmp n (μ 13) (μ 14) (μ 26) row l := by
          rw [zmp_s]
          rw [if_neg (by omega)]
        have q := ih (l + 1) (by omega) (by omega)
        rw [e9] at q
        exact q
      · refine z_aload_n K dX1_mostPressing_33 rfl ?_
        refine z_get (k := 25) (v := .ref (ad 26)) K dX1_mostPressing_34 fl_X1_11 rfl rfl rfl ?_
        refine z_iconst K dX1_mostPressing_37 ?_
        refine z_iload K dX1_mostPressing_38 rfl ?_
        refine z_iadd K dX1_mostPressing_40 ?_
        refine z_iald (k := 26) (v := μ 26 l) K dX1_mostPressing_41 l rfl (by decide) (by omega) (by omega) rfl ?_
        refine z_iconst K dX1_mostPressing_42 ?_
        refine z_idiv K dX1_mostPressing_43 (by omega) (by omega) ?_
        refine z_iload_n K dX1_mostPressing_44 rfl ?_
        refine z_icmpne (tgt := 74) K dX1_mostPressing_45 (by decide) (by omega) (by omega) (fun h45 => ?_) (fun h45 => ?_)
        · refine z_iincN (lv' := [(0, .ref (ad 25)), (1, .int (zi row)), (2, .int (zi ((zmp n (μ 13) (μ 14) (μ 26) row l).1))), (3, .int (zi ((zmp n (μ 13) (μ 14) (μ 26) row l).2))), (4, .int (zi ((l + 1 : Nat) : Int)))]) K dX1_mostPressing_74 rfl (by decide) rfl ?_
          refine z_goto (tgt := 8) K dX1_mostPressing_77 (by decide) ?_
          have e9 : zmp n (μ 13) (μ 14) (μ 26) row (l + 1) = zmp n (μ 13) (μ 14) (μ 26) row l := by
            rw [zmp_s]
            rw [if_neg (by omega)]
          have q := ih (l + 1) (by omega) (by omega)
          rw [e9] at q
          exact q
        · refine z_aload_n K dX1_mostPressing_48 rfl ?_
          refine z_iload K dX1_mostPressing_49 rfl ?_
          refine z_callVd K hl1 hg1 (kb := 25) (As := [.int (zi ((l : Nat) : Int))]) (rest := []) (ct_daysLeft_t la g0 ad μ n nc hp hv l (by omega)) (by decide) lk_X1_87 cd_X1_daysLeft rfl rfl rfl rfl (Nat.le_of_ble_eq_true rfl) dX1_mostPressing_51 ?_
          refine z_istore (lv' := [(0, .ref (ad 25)), (1, .int (zi row)), (2, .int (zi ((zmp n (μ 13) (μ 14) (μ 26) row l).1))), (3, .int (zi ((zmp n (μ 13) (μ 14) (μ 26) row l).2))), (4, .int (zi ((l : Nat) : Int))), (5, .int (zi (zdl n (μ 13) (μ 14) (μ 26) l)))]) K dX1_mostPressing_54 (by decide) rfl ?_
          refine z_iload_n K dX1_mostPressing_56 rfl ?_
          refine z_bipush K dX1_mostPressing_57 (by decide +kernel) ?_
          refine z_icmpeq (tgt := 68) K dX1_mostPressing_59 (by decide) (by omega) ⟨by decide, by decide⟩ (fun h59 => ?_) (fun h59 => ?_)
          · refine z_iload K dX1_mostPressing_68 rfl ?_
            refine z_istore_n (lv' := [(0, .ref (ad 25)), (1, .int (zi row)), (2, .int (zi ((l : Nat) : Int))), (3, .int (zi ((zmp n (μ 13) (μ 14) (μ 26) row l).2))), (4, .int (zi ((l : Nat) : Int))), (5, .int (zi (zdl n (μ 13) (μ 14) (μ 26) l)))]) K dX1_mostPressing_70 (by decide) rfl ?_
            refine z_iload K dX1_mostPressing_71 rfl ?_
            refine z_istore_n (lv' := [(0, .ref (ad 25)), (1, .int (zi row)), (2, .int (zi ((l : Nat) : Int))), (3, .int (zi (zdl n (μ 13) (μ 14) (μ 26) l))), (4, .int (zi ((l : Nat) : Int))), (5, .int (zi (zdl n (μ 13) (μ 14) (μ 26) l)))]) K dX1_mostPressing_73 (by decide) rfl ?_
            refine z_iincN (lv' := [(0, .ref (ad 25)), (1, .int (zi row)), (2, .int (zi ((l : Nat) : Int))), (3, .int (zi (zdl n (μ 13) (μ 14) (μ 26) l))), (4, .int (zi ((l + 1 : Nat) : Int))), (5, .int (zi (zdl n (μ 13) (μ 14) (μ 26) l)))]) K dX1_mostPressing_74 rfl (by decide) rfl ?_
            refine z_goto (tgt := 8) K dX1_mostPressing_77 (by decide) ?_
            refine z_ipick [0, 1, 2, 3, 4] rfl ?_
            have e9 : zmp n (μ 13) (μ 14) (μ 26) row (l + 1) = ((l : Int), zdl n (μ 13) (μ 14) (μ 26) l) := by
              rw [zmp_s]
              rw [if_pos ⟨by omega, by omega, by omega⟩]
            have q := ih (l + 1) (by omega) (by omega)
            rw [e9] at q
            exact q
          · refine z_iload K dX1_mostPressing_62 rfl ?_
            refine z_iload_n K dX1_mostPressing_64 rfl ?_
            refine z_icmpge (tgt := 74) K dX1_mostPressing_65 (by decide) (by omega) (by omega) (fun h65 => ?_) (fun h65 => ?_)
            · refine z_iincN (lv' := [(0, .ref (ad 25)), (1, .int (zi row)), (2, .int (zi ((zmp n (μ 13) (μ 14) (μ 26) row l).1))), (3, .int (zi ((zmp n (μ 13) (μ 14) (μ 26) row l).2))), (4, .int (zi ((l + 1 : Nat) : Int))), (5, .int (zi (zdl n (μ 13) (μ 14) (μ 26) l)))]) K dX1_mostPressing_74 rfl (by decide) rfl ?_
              refine z_goto (tgt := 8) K dX1_mostPressing_77 (by decide) ?_
              refine z_ipick [0, 1, 2, 3, 4] rfl ?_
              have e9 : zmp n (μ 13) (μ 14) (μ 26) row (l + 1) = zmp n (μ 13) (μ 14) (μ 26) row l := by
                rw [zmp_s]
                rw [if_neg (by omega)]
              have q := ih (l + 1) (by omega) (by omega)
              rw [e9] at q
              exact q
            · refine z_iload K dX1_mostPressing_68 rfl ?_
              refine z_istore_n (lv' := [(0, .ref (ad 25)), (1, .int (zi row)), (2, .int (zi ((l : Nat) : Int))), (3, .int (zi ((zmp n (μ 13) (μ 14) (μ 26) row l).2))), (4, .int (zi ((l : Nat) : Int))), (5, .int (zi (zdl n (μ 13) (μ 14) (μ 26) l)))]) K dX1_mostPressing_70 (by decide) rfl ?_
              refine z_iload K dX1_mostPressing_71 rfl ?_
              refine z_istore_n (lv' := [(0, .ref (ad 25)), (1, .int (zi row)), (2, .int (zi ((l : Nat) : Int))), (3, .int (zi (zdl n (μ 13) (μ 14) (μ 26) l))), (4, .int (zi ((l : Nat) : Int))), (5, .int (zi (zdl n (μ 13) (μ 14) (μ 26) l)))]) K dX1_mostPressing_73 (by decide) rfl ?_
              refine z_iincN (lv' := [(0, .ref (ad 25)), (1, .int (zi row)), (2, .int (zi ((l : Nat) : Int))), (3, .int (zi (zdl n (μ 13) (μ 14) (μ 26) l))), (4, .int (zi ((l + 1 : Nat) : Int))), (5, .int (zi (zdl n (μ 13) (μ 14) (μ 26) l)))]) K dX1_mostPressing_74 rfl (by decide) rfl ?_
              refine z_goto (tgt := 8) K dX1_mostPressing_77 (by decide) ?_
              refine z_ipick [0, 1, 2, 3, 4] rfl ?_
              have e9 : zmp n (μ 13) (μ 14) (μ 26) row (l + 1) = ((l : Int), zdl n (μ 13) (μ 14) (μ 26) l) := by
                rw [zmp_s]
                rw [if_pos ⟨by omega, by omega, by omega⟩]
              have q := ih (l + 1) (by omega) (by omega)
              rw [e9] at q
              exact q
  exact L8 0 (by omega)
set_option maxHeartbeats 4000000 in
set_option maxRecDepth 100000 in
theorem ct_clerkAnswers_t (la : Launch) (g0 : zG) (ad : Nat → Nat) (μ : zMem) (n nc : Nat) (hp : zPlan μ n nc) (c a : Nat → Int) (hv : zHW n nc c) (k : Nat) (hk : k < nc) : zCon la g0 yX1_clerkAnswers cX1_clerkAnswers 4 none 2 ad zSH [.ref (ad 25), .int (zi ((k : Nat) : Int))] (zup (zup μ 26 c) 27 a) (zPm (zup (zup μ 26 ((zca n (μ 13) (μ 14) k (μ 16 k).toNat (c, a)).1)) 27 ((zca n (μ 13) (μ 14) k (μ 16 k).toNat (c, a)).2))) := by
  refine zCon_of (by decide +kernel) (Nat.le_of_ble_eq_true rfl) ?_
  intro χ K T hl1 hg1
  have K : zOk χ cX1_clerkAnswers RX1 4 2 none := K
  obtain ⟨hn, hn6, hnc, hnc3, hpl, hpk⟩ := id hp
  have hpk1 := hpk k hk
  show zV χ 4 ad zSH 0 0 0 [(0, .ref (ad 25)), (1, .int (zi ((k : Nat) : Int)))] [] (zup (zup μ 26 c) 27 a)
  refine z_iconst K dX1_clerkAnswers_0 ?_
  refine z_istore_n (lv' := [(0, .ref (ad 25)), (1, .int (zi ((k : Nat) : Int))), (2, .int (zi (0 : Int)))]) K dX1_clerkAnswers_1 (by decide) rfl ?_
  have L2 : ∀ i, i ≤ (μ 16 k).toNat → ∀ (d b : Nat → Int), zHW n nc d → zca n (μ 13) (μ 14) k ((μ 16 k).toNat - i) (d, b) = zca n (μ 13) (μ 14) k (μ 16 k).toNat (c, a) → zV χ 4 ad zSH 0 0 2 [(0, .ref (ad 25)), (1, .int (zi ((k : Nat) : Int))), (2, .int (zi ((i : Nat) : Int)))] [] (zup (zup μ 26 d) 27 b) := by
    refine zfor ?_
    intro i hi ih d b hw hF
    have hw2 := hw.2.1 k hk
    have hb := zmp_rg hp.pk hw (d (18 + k)) n (Nat.le_refl _)
    refine z_iload_n K dX1_clerkAnswers_2 rfl ?_
    refine z_aload_n K dX1_clerkAnswers_3 rfl ?_
    refine z_get (k := 25) (v := .ref (ad 10)) K dX1_clerkAnswers_4 fl_X1_18 rfl rfl rfl ?_
    refine z_get (k := 10) (v := .ref (ad 16)) K dX1_clerkAnswers_7 fl_X1_96 rfl rfl rfl ?_
    refine z_iload_n K dX1_clerkAnswers_10 rfl ?_
    refine z_iald (k := 16) (v := μ 16 k) K dX1_clerkAnswers_11 k rfl (by decide) (by omega) (by omega) rfl ?_
    refine z_icmpge (tgt := 62) K dX1_clerkAnswers_12 (by decide) (by omega) (by omega) (fun h12 => ?_) (fun h12 => ?_)
    · exact z_vretd K T rfl dX1_clerkAnswers_62 (by rw [← hF, show (μ 16 k).toNat - i = 0 by omega]; rfl)
    · refine z_aload_n K dX1_clerkAnswers_15 rfl ?_
      refine z_aload_n K dX1_clerkAnswers_16 rfl ?_
      refine z_get (k := 25) (v := .ref (ad 26)) K dX1_clerkAnswers_17 fl_X1_11 rfl rfl rfl ?_
      refine z_bipush K dX1_clerkAnswers_20 (by decide +kernel) ?_
      refine z_iload_n K dX1_clerkAnswers_22 rfl ?_
      refine z_iadd K dX1_clerkAnswers_23 ?_
      refine z_iald (k := 26) (v := d (18 + k)) K dX1_clerkAnswers_24 (18 + k) rfl (by decide) (by omega) (by omega) rfl ?_
      refine z_callVd K hl1 hg1 (kb := 25) (As := [.int (zi (d (18 + k)))]) (rest := []) (ct_mostPressing_t la g0 ad (zup (zup μ 26 d) 27 b) n nc hp hw (d (18 + k)) hw2) (by decide) lk_X1_99 cd_X1_mostPressing rfl rfl rfl rfl (Nat.le_of_ble_eq_true rfl) dX1_clerkAnswers_25 ?_
      show zV χ 4 ad zSH 0 0 28 [(0, .ref (ad 25)), (1, .int (zi ((k : Nat) : Int))), (2, .int (zi ((i : Nat) : Int)))] [.int (zi ((zmp n (μ 13) (μ 14) d (d (18 + k)) n).1))] (zup (zup μ 26 d) 27 b)
      refine z_istore_n (lv' := [(0, .ref (ad 25)), (1, .int (zi ((k : Nat) : Int))), (2, .int (zi ((i : Nat) : Int))), (3, .int (zi ((zmp n (μ 13) (μ 14) d (d (18 + k)) n).1)))]) K dX1_clerkAnswers_28 (by decide) rfl ?_
      refine z_iload_n K dX1_clerkAnswers_29 rfl ?_
      refine z_bipush K dX1_clerkAnswers_30 (by decide +kernel) ?_
      refine z_icmpne (tgt := 36) K dX1_clerkAnswers_32 (by decide) (by omega) ⟨by decide, by decide⟩ (fun h32 => ?_) (fun h32 => ?_)
      · refine z_aload_n K dX1_clerkAnswers_36 rfl ?_
        refine z_get (k := 25) (v := .ref (ad 26)) K dX1_clerkAnswers_37 fl_X1_11 rfl rfl rfl ?_
        refine z_bipush K dX1_clerkAnswers_40 (by decide +kernel) ?_
        refine z_iload_n K dX1_clerkAnswers_42 rfl ?_
        refine z_iadd K dX1_clerkAnswers_43 ?_
        refine z_iconst K dX1_clerkAnswers_44 ?_
        refine z_iast (k := 26) K dX1_clerkAnswers_45 (12 + (zmp n (μ 13) (μ 14) d (d (18 + k)) n).1.toNat) rfl (by decide) (by omega) (by omega) (z_mem (ν := zup (zup μ 26 (zu1 d (12 + (zmp n (μ 13) (μ 14) d (d (18 + k)) n).1.toNat) (1 : Int))) 27 b) (zup_sw _ (by decide) _ _ _) ?_)
        refine z_aload_n K dX1_clerkAnswers_46 rfl ?_
        refine z_get (k := 25) (v := .ref (ad 27)) K dX1_clerkAnswers_47 fl_X1_15 rfl rfl rfl ?_
        refine z_iload_n K dX1_clerkAnswers_50 rfl ?_
        refine z_dup2 K dX1_clerkAnswers_51 rfl rfl ?_
        refine z_iald (k := 27) (v := b k) K dX1_clerkAnswers_52 k rfl (by decide) (by omega) (by omega) rfl ?_
        refine z_iconst K dX1_clerkAnswers_53 ?_
        refine z_iadd K dX1_clerkAnswers_54 ?_
        refine z_iast (k := 27) K dX1_clerkAnswers_55 k rfl (by decide) (by omega) (by omega) (z_mem (ν := zup (zup μ 26 (zu1 d (12 + (zmp n (μ 13) (μ 14) d (d (18 + k)) n).1.toNat) (1 : Int))) 27 (zu1 b k ((b k) + (1 : Int)))) (zup_same _ _ _ _) ?_)
        refine z_iincN (lv' := [(0, .ref (ad 25)), (1, .int (zi ((k : Nat) : Int))), (2, .int (zi ((i + 1 : Nat) : Int))), (3, .int (zi ((zmp n (μ 13) (μ 14) d (d (18 + k)) n).1)))]) K dX1_clerkAnswers_56 rfl (by decide) rfl ?_
        refine z_goto (tgt := 2) K dX1_clerkAnswers_59 (by decide) ?_
        refine z_ipick [0, 1, 2] rfl ?_
        exact ih (i + 1) (by omega) (by omega) (zu1 d (12 + (zmp n (μ 13) (μ 14) d (d (18 + k)) n).1.toNat) (1 : Int)) (zu1 b k ((b k) + (1 : Int))) (zHW_fate hn6 hw (by omega) ⟨by decide, by decide⟩) (by
          rw [show (μ 16 k).toNat - i = ((μ 16 k).toNat - (i + 1)) + 1 by omega, zca_s, if_neg h32] at hF
          exact hF)
      · exact z_vretd K T rfl dX1_clerkAnswers_35 (by rw [← hF, show (μ 16 k).toNat - i = ((μ 16 k).toNat - (i + 1)) + 1 by omega, zca_s, if_pos h32])
  exact L2 0 (by omega) c a hv rfl
set_option maxHeartbeats 4000000 in
set_option maxRecDepth 100000 in
theorem ct_hatch_t (la : Launch) (g0 : zG) (ad : Nat → Nat) (μ : zMem) (n nc : Nat) (hp : zPlan μ n nc) (c a : Nat → Int) (hv : zHW n nc c) (l : Nat) (hl : l < n) : zCon la g0 yX1_hatch cX1_hatch 4 none 0 ad zSH [.ref (ad 25), .int (zi ((l : Nat) : Int))] (zup (zup μ 26 c) 27 a) (zPm (zup (zup μ 26 (zhat n (μ 13) c l)) 27 a)) := by
  refine zCon_of (by decide +kernel) (Nat.le_of_ble_eq_true rfl) ?_
  intro χ K T hl1 hg1
  have K : zOk χ cX1_hatch RX1 4 0 none := K
  obtain ⟨hn, hn6, hnc, hnc3, hpl, hpk⟩ := id hp
  have hvl := hv.1 l hl
  have hpp := hpl l hl
  have hw := zHW_fate hn6 hv hl (v := 2) ⟨by decide, by decide⟩
  show zV χ 4 ad zSH 0 0 0 [(0, .ref (ad 25)), (1, .int (zi ((l : Nat) : Int)))] [] (zup (zup μ 26 c) 27 a)
  refine z_aload_n K dX1_hatch_0 rfl ?_
  refine z_get (k := 25) (v := .ref (ad 26)) K dX1_hatch_1 fl_X1_11 rfl rfl rfl ?_
  refine z_bipush K dX1_hatch_4 (by decide +kernel) ?_
  refine z_iload_n K dX1_hatch_6 rfl ?_
  refine z_iadd K dX1_hatch_7 ?_
  refine z_iconst K dX1_hatch_8 ?_
  refine z_iast (k := 26) K dX1_hatch_9 (12 + l) rfl (by decide) (by omega) (by omega) (z_mem (ν := zup (zup μ 26 (zu1 c (12 + l) (2 : Int))) 27 a) (zup_sw _ (by decide) _ _ _) ?_)
  refine z_aload_n K dX1_hatch_10 rfl ?_
  refine z_get (k := 25) (v := .ref (ad 26)) K dX1_hatch_11 fl_X1_11 rfl rfl rfl ?_
  refine z_iconst K dX1_hatch_14 ?_
  refine z_iload_n K dX1_hatch_15 rfl ?_
  refine z_iadd K dX1_hatch_16 ?_
  refine z_iald (k := 26) (v := c l) K dX1_hatch_17 l rfl (by decide) (by omega) (by omega) (zu1_ne _ _ (by omega)) ?_
  refine z_istore_n (lv' := [(0, .ref (ad 25)), (1, .int (zi ((l : Nat) : Int))), (2, .int (zi (c l)))]) K dX1_hatch_18 (by decide) rfl ?_
  refine z_aload_n K dX1_hatch_19 rfl ?_
  refine z_get (k := 25) (v := .ref (ad 10)) K dX1_hatch_20 fl_X1_18 rfl rfl rfl ?_
  refine z_get (k := 10) (v := .ref (ad 13)) K dX1_hatch_23 fl_X1_61 rfl rfl rfl ?_
  refine z_iload_n K dX1_hatch_26 rfl ?_
  refine z_iald (k := 13) (v := μ 13 l) K dX1_hatch_27 l rfl (by decide) (by omega) (by omega) rfl ?_
  refine z_iconst K dX1_hatch_28 ?_
  refine z_icmpne (tgt := 37) K dX1_hatch_29 (by decide) (by omega) ⟨by decide, by decide⟩ (fun h29 => ?_) (fun h29 => ?_)
  · exact z_vretd K T rfl dX1_hatch_37 (by unfold zhat; rw [if_neg (by omega)])
  · refine z_iload_n K dX1_hatch_32 rfl ?_
    refine z_iconst K dX1_hatch_33 ?_
    refine z_icmpge (tgt := 38) K dX1_hatch_34 (by decide) (by omega) ⟨by decide, by decide⟩ (fun h34 => ?_) (fun h34 => ?_)
    · refine z_iconst K dX1_hatch_38 ?_
      refine z_istore_n (lv' := [(0, .ref (ad 25)), (1, .int (zi ((l : Nat) : Int))), (2, .int (zi (c l))), (3, .int (zi (0 : Int)))]) K dX1_hatch_39 (by decide) rfl ?_
      have L40 : ∀ o, o ≤ n → zV χ 4 ad zSH 0 0 40 [(0, .ref (ad 25)), (1, .int (zi ((l : Nat) : Int))), (2, .int (zi (c l))), (3, .int (zi ((o : Nat) : Int)))] [] (zup (zup μ 26 (zpo (zu1 c (12 + l) 2) (c l) o)) 27 a) := by
        refine zfor ?_
        intro o ho ih
        have hwo := zpo_ok hn6 hw (x := c l) ⟨by omega, by omega⟩ o ho
        refine z_iload_n K dX1_hatch_40 rfl ?_
        refine z_aload_n K dX1_hatch_41 rfl ?_
        refine z_get (k := 25) (v := .ref (ad 10)) K dX1_hatch_42 fl_X1_18 rfl rfl rfl ?_
        refine z_get (k := 10) (v := .int (zi (μ 10 0))) K dX1_hatch_45 fl_X1_22 rfl rfl rfl ?_
        refine z_icmpge (tgt := 92) K dX1_hatch_48 (by decide) (by omega) (by omega) (fun h48 => ?_) (fun h48 => ?_)
        · exact z_vretd K T rfl dX1_hatch_92 (by unfold zhat; rw [if_pos ⟨by omega, by omega⟩, show n = o by omega])
        · have hwl := hwo.1 o (by omega)
          refine z_aload_n K dX1_hatch_51 rfl ?_
          refine z_get (k := 25) (v := .ref (ad 26)) K dX1_hatch_52 fl_X1_11 rfl rfl rfl ?_
          refine z_bipush K dX1_hatch_55 (by decide +kernel) ?_
          refine z_iload_n K dX1_hatch_57 rfl ?_
          refine z_iadd K dX1_hatch_58 ?_
          refine z_iald (k := 26) (v := (zpo (zu1 c (12 + l) 2) (c l) o) (12 + o)) K dX1_hatch_59 (12 + o) rfl (by decide) (by omega) (by omega) rfl ?_
          refine z_ifne (tgt := 86) K dX1_hatch_60 (by decide) (by omega) (fun h60 => ?_) (fun h60 => ?_)
          · refine z_iincN (lv' := [(0, .ref (ad 25)), (1, .int (zi ((l : Nat) : Int))), (2, .int (zi (c l))), (3, .int (zi ((o + 1 : Nat) : Int)))]) K dX1_hatch_86 rfl (by decide) rfl ?_
            refine z_goto (tgt := 40) K dX1_hatch_89 (by decide) ?_
            have e9 : zpo (zu1 c (12 + l) 2) (c l) (o + 1) = zpo (zu1 c (12 + l) 2) (c l) o := by
              rw [zpo_s]
              rw [if_neg (by omega)]
            have q := ih (o + 1) (by omega) (by omega)
            rw [e9] at q
            exact q
          · refine z_aload_n K dX1_hatch_63 rfl ?_
            refine z_get (k := 25) (v := .ref (ad 26)) K dX1_hatch_64 fl_X1_11 rfl rfl rfl ?_
            refine z_iconst K dX1_hatch_67 ?_
            refine z_iload_n K dX1_hatch_68 rfl ?_
            refine z_iadd K dX1_hatch_69 ?_
            refine z_iald (k := 26) (v := (zpo (zu1 c (12 + l) 2) (c l) o) o) K dX1_hatch_70 o rfl (by decide) (by omega) (by omega) rfl ?_
            refine z_iload_n K dX1_hatch_71 rfl ?_
            refine z_icmpne (tgt := 86) K dX1_hatch_72 (by decide) (by omega) (by omega) (fun h72 => ?_) (fun h72 => ?_)
            · refine z_iincN (lv' := [(0, .ref (ad 25)), (1, .int (zi ((l : Nat) : Int))), (2, .int (zi (c l))), (3, .int (zi ((o + 1 : Nat) : Int)))]) K dX1_hatch_86 rfl (by decide) rfl ?_
              refine z_goto (tgt := 40) K dX1_hatch_89 (by decide) ?_
              have e9 : zpo (zu1 c (12 + l) 2) (c l) (o + 1) = zpo (zu1 c (12 + l) 2) (c l) o := by
                rw [zpo_s]
                rw [if_neg (by omega)]
              have q := ih (o + 1) (by omega) (by omega)
              rw [e9] at q
              exact q
            · refine z_aload_n K dX1_hatch_75 rfl ?_
              refine z_get (k := 25) (v := .ref (ad 26)) K dX1_hatch_76 fl_X1_11 rfl rfl rfl ?_
              refine z_iconst K dX1_hatch_79 ?_
              refine z_iload_n K dX1_hatch_80 rfl ?_
              refine z_iadd K dX1_hatch_81 ?_
              refine z_iload_n K dX1_hatch_82 rfl ?_
              refine z_iconst K dX1_hatch_83 ?_
              refine z_isub K dX1_hatch_84 ?_
              refine z_iast (k := 26) K dX1_hatch_85 o rfl (by decide) (by omega) (by omega) (z_mem (ν := zup (zup μ 26 (zu1 (zpo (zu1 c (12 + l) 2) (c l) o) o ((c l) - (4 : Int)))) 27 a) (zup_sw _ (by decide) _ _ _) ?_)
              refine z_iincN (lv' := [(0, .ref (ad 25)), (1, .int (zi ((l : Nat) : Int))), (2, .int (zi (c l))), (3, .int (zi ((o + 1 : Nat) : Int)))]) K dX1_hatch_86 rfl (by decide) rfl ?_
              refine z_goto (tgt := 40) K dX1_hatch_89 (by decide) ?_
              have e9 : zpo (zu1 c (12 + l) 2) (c l) (o + 1) = zu1 (zpo (zu1 c (12 + l) 2) (c l) o) o ((c l) - (4 : Int)) := by
                rw [zpo_s]
                rw [if_pos ⟨by omega, by omega⟩]
              have q := ih (o + 1) (by omega) (by omega)
              rw [e9] at q
              exact q
      exact L40 0 (by omega)
    · exact z_vretd K T rfl dX1_hatch_37 (by unfold zhat; rw [if_neg (by omega)])
set_option maxHeartbeats 4000000 in
set_option maxRecDepth 100000 in
theorem ct_birdsEat_t (la : Launch) (g0 : zG) (ad : Nat → Nat) (μ : zMem) (n nc : Nat) (hp : zPlan μ n nc) (c a : Nat → Int) (hv : zHV n nc c) : zCon la g0 yX1_birdsEat cX1_birdsEat 2 none 0 ad zSH [.ref (ad 25)] (zup (zup μ 26 c) 27 a) (zPm (zup (zup μ 26 (zeat c n)) 27 a)) := by
  refine zCon_of (by decide +kernel) (Nat.le_of_ble_eq_true rfl) ?_
  intro χ K T hl1 hg1
  have K : zOk χ cX1_birdsEat RX1 2 0 none := K
  obtain ⟨hn, hn6, hnc, hnc3, hpl, hpk⟩ := id hp
  show zV χ 2 ad zSH 0 0 0 [(0, .ref (ad 25))] [] (zup (zup μ 26 c) 27 a)
  refine z_iconst K dX1_birdsEat_0 ?_
  refine z_istore_n (lv' := [(0, .ref (ad 25)), (1, .int (zi (0 : Int)))]) K dX1_birdsEat_1 (by decide) rfl ?_
  have L2 : ∀ l, l ≤ n → zV χ 2 ad zSH 0 0 2 [(0, .ref (ad 25)), (1, .int (zi ((l : Nat) : Int)))] [] (zup (zup μ 26 (zeat c l)) 27 a) := by
    refine zfor ?_
    intro l hl ih
    have hw := zeat_ok hn6 hnc3 hv l hl
    have hw21 := hw.1.2.2
    refine z_iload_n K dX1_birdsEat_2 rfl ?_
    refine z_aload_n K dX1_birdsEat_3 rfl ?_
    refine z_get (k := 25) (v := .ref (ad 10)) K dX1_birdsEat_4 fl_X1_18 rfl rfl rfl ?_
    refine z_get (k := 10) (v := .int (zi (μ 10 0))) K dX1_birdsEat_7 fl_X1_22 rfl rfl rfl ?_
    refine z_icmpge (tgt := 66) K dX1_birdsEat_10 (by decide) (by omega) (by omega) (fun h10 => ?_) (fun h10 => ?_)
    · exact z_vretd K T rfl dX1_birdsEat_66 (by rw [show n = l by omega])
    · have hwl := hw.1.1 l (by omega)
      refine z_aload_n K dX1_birdsEat_13 rfl ?_
      refine z_get (k := 25) (v := .ref (ad 26)) K dX1_birdsEat_14 fl_X1_11 rfl rfl rfl ?_
      refine z_bipush K dX1_birdsEat_17 (by decide +kernel) ?_
      refine z_iload_n K dX1_birdsEat_19 rfl ?_
      refine z_iadd K dX1_birdsEat_20 ?_
      refine z_iald (k := 26) (v := (zeat c l) (12 + l)) K dX1_birdsEat_21 (12 + l) rfl (by decide) (by omega) (by omega) rfl ?_
      refine z_iconst K dX1_birdsEat_22 ?_
      refine z_icmpne (tgt := 60) K dX1_birdsEat_23 (by decide) (by omega) ⟨by decide, by decide⟩ (fun h23 => ?_) (fun h23 => ?_)
      · refine z_iincN (lv' := [(0, .ref (ad 25)), (1, .int (zi ((l + 1 : Nat) : Int)))]) K dX1_birdsEat_60 rfl (by decide) rfl ?_
        refine z_goto (tgt := 2) K dX1_birdsEat_63 (by decide) ?_
        have e9 : zeat c (l + 1) = zeat c l := by
          rw [zeat_s]
          rw [if_neg (by omega)]
        have q := ih (l + 1) (by omega) (by omega)
        rw [e9] at q
        exact q
      · refine z_aload_n K dX1_birdsEat_26 rfl ?_
        refine z_get (k := 25) (v := .ref (ad 26)) K dX1_birdsEat_27 fl_X1_11 rfl rfl rfl ?_
        refine z_bipush K dX1_birdsEat_30 (by decide +kernel) ?_
        refine z_iald (k := 26) (v := (zeat c l) 21) K dX1_birdsEat_32 21 rfl (by decide) (by omega) (by omega) rfl ?_
        refine z_ifle (tgt := 50) K dX1_birdsEat_33 (by decide) (by omega) (fun h33 => ?_) (fun h33 => ?_)
        · refine z_aload_n K dX1_birdsEat_50 rfl ?_
          refine z_get (k := 25) (v := .ref (ad 26)) K dX1_birdsEat_51 fl_X1_11 rfl rfl rfl ?_
          refine z_bipush K dX1_birdsEat_54 (by decide +kernel) ?_
          refine z_iload_n K dX1_birdsEat_56 rfl ?_
          refine z_iadd K dX1_birdsEat_57 ?_
          refine z_iconst K dX1_birdsEat_58 ?_
          refine z_iast (k := 26) K dX1_birdsEat_59 (12 + l) rfl (by decide) (by omega) (by omega) (z_mem (ν := zup (zup μ 26 (zu1 (zeat c l) (12 + l) (3 : Int))) 27 a) (zup_sw _ (by decide) _ _ _) ?_)
          refine z_iincN (lv' := [(0, .ref (ad 25)), (1, .int (zi ((l + 1 : Nat) : Int)))]) K dX1_birdsEat_60 rfl (by decide) rfl ?_
          refine z_goto (tgt := 2) K dX1_birdsEat_63 (by decide) ?_
          have e9 : zeat c (l + 1) = zu1 (zeat c l) (12 + l) (3 : Int) := by
            rw [zeat_s]
            rw [if_pos (by omega), if_neg (by omega)]
          have q := ih (l + 1) (by omega) (by omega)
          rw [e9] at q
          exact q
        · refine z_aload_n K dX1_birdsEat_36 rfl ?_
          refine z_get (k := 25) (v := .ref (ad 26)) K dX1_birdsEat_37 fl_X1_11 rfl rfl rfl ?_
          refine z_bipush K dX1_birdsEat_40 (by decide +kernel) ?_
          refine z_dup2 K dX1_birdsEat_42 rfl rfl ?_
          refine z_iald (k := 26) (v := (zeat c l) 21) K dX1_birdsEat_43 21 rfl (by decide) (by omega) (by omega) rfl ?_
          refine z_iconst K dX1_birdsEat_44 ?_
          refine z_isub K dX1_birdsEat_45 ?_
          refine z_iast (k := 26) K dX1_birdsEat_46 21 rfl (by decide) (by omega) (by omega) (z_mem (ν := zup (zup μ 26 (zu1 (zeat c l) 21 (((zeat c l) 21) - (1 : Int)))) 27 a) (zup_sw _ (by decide) _ _ _) ?_)
          refine z_goto (tgt := 60) K dX1_birdsEat_47 (by decide) ?_
          refine z_iincN (lv' := [(0, .ref (ad 25)), (1, .int (zi ((l + 1 : Nat) : Int)))]) K dX1_birdsEat_60 rfl (by decide) rfl ?_
          refine z_goto (tgt := 2) K dX1_birdsEat_63 (by decide) ?_
          have e9 : zeat c (l + 1) = zu1 (zeat c l) 21 (((zeat c l) 21) - (1 : Int)) := by
            rw [zeat_s]
            rw [if_pos (by omega), if_pos (by omega)]
          have q := ih (l + 1) (by omega) (by omega)
          rw [e9] at q
          exact q
  exact L2 0 (by omega)
set_option maxHeartbeats 4000000 in
set_option maxRecDepth 100000 in
theorem ct_passDay_t (la : Launch) (g0 : zG) (ad : Nat → Nat) (μ : zMem) (n nc : Nat) (hp : zPlan μ n nc) (c a : Nat → Int) (hv : zHV n nc c) : zCon la g0 yX1_passDay cX1_passDay 3 (some .int) 3 ad zSH [.ref (ad 25)] (zup (zup μ 26 c) 27 a) (zPd (zup (zup μ 26 ((zday n (μ 13) (μ 14) nc (μ 16) (c, a)).1)) 27 ((zday n (μ 13) (μ 14) nc (μ 16) (c, a)).2)) ((zdayM n (μ 13) (μ 14) nc (μ 16) (c, a) : Nat) : Int)) := by
  refine zCon_of (by decide +kernel) (Nat.le_of_ble_eq_true rfl) ?_
  intro χ K T hl1 hg1
  have K : zOk χ cX1_passDay RX1 3 3 (some .int) := K
  obtain ⟨hn, hn6, hnc, hnc3, hpl, hpk⟩ := id hp
  show zV χ 3 ad zSH 0 0 0 [(0, .ref (ad 25))] [] (zup (zup μ 26 c) 27 a)
  refine z_iconst K dX1_passDay_0 ?_
  refine z_istore_n (lv' := [(0, .ref (ad 25)), (1, .int (zi (0 : Int)))]) K dX1_passDay_1 (by decide) rfl ?_
  have L2 : ∀ k, k ≤ nc → ∀ (d b : Nat → Int), zcl n (μ 13) (μ 14) (μ 16) k (c, a) = (d, b) → zV χ 3 ad zSH 0 0 2 [(0, .ref (ad 25)), (1, .int (zi ((k : Nat) : Int)))] [] (zup (zup μ 26 d) 27 b) := by
    refine zfor ?_
    intro k hk ih d b hF
    have hwv := zcl_wait hp.pk k (c, a) hv
    rw [hF] at hwv
    dsimp only at hwv
    refine z_iload_n K dX1_passDay_2 rfl ?_
    refine z_aload_n K dX1_passDay_3 rfl ?_
    refine z_get (k := 25) (v := .ref (ad 10)) K dX1_passDay_4 fl_X1_18 rfl rfl rfl ?_
    refine z_get (k := 10) (v := .int (zi (μ 10 1))) K dX1_passDay_7 fl_X1_31 rfl rfl rfl ?_
    refine z_icmpge (tgt := 24) K dX1_passDay_10 (by decide) (by omega) (by omega) (fun h10 => ?_) (fun h10 => ?_)
    · have hkn : k = nc := by omega
      rw [hkn] at hF
      refine z_iconst K dX1_passDay_24 ?_
      refine z_istore_n (lv' := [(0, .ref (ad 25)), (1, .int (zi (0 : Int)))]) K dX1_passDay_25 (by decide) rfl ?_
      have L26 : ∀ l, l ≤ n → ∀ e, zwt d l = e → zV χ 3 ad zSH 0 0 26 [(0, .ref (ad 25)), (1, .int (zi ((l : Nat) : Int)))] [] (zup (zup μ 26 e) 27 b) := by
        refine zfor ?_
        intro l hl ih e hF2
        have hwt := zwt_ok hn6 hwv l hl
        rw [hF2] at hwt
        refine z_iload_n K dX1_passDay_26 rfl ?_
        refine z_aload_n K dX1_passDay_27 rfl ?_
        refine z_get (k := 25) (v := .ref (ad 10)) K dX1_passDay_28 fl_X1_18 rfl rfl rfl ?_
        refine z_get (k := 10) (v := .int (zi (μ 10 0))) K dX1_passDay_31 fl_X1_22 rfl rfl rfl ?_
        refine z_icmpge (tgt := 68) K dX1_passDay_34 (by decide) (by omega) (by omega) (fun h34 => ?_) (fun h34 => ?_)
        · have hln : l = n := by omega
          rw [hln] at hF2
          refine z_iconst K dX1_passDay_68 ?_
          refine z_istore_n (lv' := [(0, .ref (ad 25)), (1, .int (zi (0 : Int)))]) K dX1_passDay_69 (by decide) rfl ?_
          refine z_iconst K dX1_passDay_70 ?_
          refine z_istore_n (lv' := [(0, .ref (ad 25)), (1, .int (zi (0 : Int))), (2, .int (zi (0 : Int)))]) K dX1_passDay_71 (by decide) rfl ?_
          have L72 : ∀ l, l ≤ n → ∀ (f : Nat → Int) (m : Nat), zht n (μ 13) (μ 14) e l = (f, m) → zV χ 3 ad zSH 0 0 72 [(0, .ref (ad 25)), (1, .int (zi ((m : Nat) : Int))), (2, .int (zi ((l : Nat) : Int)))] [] (zup (zup μ 26 f) 27 b) := by
            refine zfor ?_
            intro l hl ih f m hF3
            have hht := zht_ok hp.pk hwt.1 l hl
            rw [hF3] at hht
            dsimp only at hht
            refine z_iload_n K dX1_passDay_72 rfl ?_
            refine z_aload_n K dX1_passDay_73 rfl ?_
            refine z_get (k := 25) (v := .ref (ad 10)) K dX1_passDay_74 fl_X1_18 rfl rfl rfl ?_
            refine z_get (k := 10) (v := .int (zi (μ 10 0))) K dX1_passDay_77 fl_X1_22 rfl rfl rfl ?_
            refine z_icmpge (tgt := 117) K dX1_passDay_80 (by decide) (by omega) (by omega) (fun h80 => ?_) (fun h80 => ?_)
            · have hln : l = n := by omega
              rw [hln] at hF3
              have hdA : zdayA n (μ 13) (μ 14) nc (μ 16) (c, a) = (f, m) := by unfold zdayA; rw [hF]; show zht n (μ 13) (μ 14) (zwt d n) n = (f, m); rw [hF2, hF3]
              have hdV := (zdayA_ok hp.pk (s := (c, a)) hv).1
              rw [hdA] at hdV
              dsimp only at hdV
              refine z_aload_n K dX1_passDay_117 rfl ?_
              refine z_callVm K hl1 hg1 (kb := 25) (As := []) (rest := []) (ct_birdsEat_t la g0 ad μ n nc hp f b hdV) (by decide) lk_X1_93 cd_X1_birdsEat rfl rfl rfl rfl (Nat.le_of_ble_eq_true rfl) dX1_passDay_118 ?_
              refine z_aload_n K dX1_passDay_121 rfl ?_
              refine z_get (k := 25) (v := .ref (ad 26)) K dX1_passDay_122 fl_X1_11 rfl rfl rfl ?_
              refine z_bipush K dX1_passDay_125 (by decide +kernel) ?_
              refine z_dup2 K dX1_passDay_127 rfl rfl ?_
              refine z_iald (k := 26) (v := (zeat f n) 22) K dX1_passDay_128 22 rfl (by decide) (by omega) (by omega) rfl ?_
              refine z_iconst K dX1_passDay_129 ?_
              refine z_iadd K dX1_passDay_130 ?_
              refine z_iast (k := 26) K dX1_passDay_131 22 rfl (by decide) (by omega) (by omega) (z_mem (ν := zup (zup μ 26 (zu1 (zeat f n) 22 (((zeat f n) 22) + (1 : Int)))) 27 b) (zup_sw _ (by decide) _ _ _) ?_)
              refine z_iload_n K dX1_passDay_132 rfl ?_
              exact z_iretd K T rfl dX1_passDay_133 (by unfold zdayM; rw [hdA]) (by unfold zday; rw [hdA, hF])
            · have hwl := hht.1.1 l (by omega)
              have hdl := zdl_rg hp.pk hht.1 (l := l) (by omega)
              refine z_aload_n K dX1_passDay_83 rfl ?_
              refine z_get (k := 25) (v := .ref (ad 26)) K dX1_passDay_84 fl_X1_11 rfl rfl rfl ?_
              refine z_bipush K dX1_passDay_87 (by decide +kernel) ?_
              refine z_iload_n K dX1_passDay_89 rfl ?_
              refine z_iadd K dX1_passDay_90 ?_
              refine z_iald (k := 26) (v := f (12 + l)) K dX1_passDay_91 (12 + l) rfl (by decide) (by omega) (by omega) rfl ?_
              refine z_ifne (tgt := 111) K dX1_passDay_92 (by decide) (by omega) (fun h92 => ?_) (fun h92 => ?_)
              · refine z_iincN (lv' := [(0, .ref (ad 25)), (1, .int (zi ((m : Nat) : Int))), (2, .int (zi ((l + 1 : Nat) : Int)))]) K dX1_passDay_111 rfl (by decide) rfl ?_
                refine z_goto (tgt := 72) K dX1_passDay_114 (by decide) ?_
                exact ih (l + 1) (by omega) (by omega) _ _ (by
                  rw [zht_s, hF3]
                  dsimp only
                  rw [if_neg (by omega)])
              · refine z_aload_n K dX1_passDay_95 rfl ?_
                refine z_iload_n K dX1_passDay_96 rfl ?_
                refine z_callVd K hl1 hg1 (kb := 25) (As := [.int (zi ((l : Nat) : Int))]) (rest := []) (ct_daysLeft_t la g0 ad (zup (zup μ 26 f) 27 b) n nc hp hht.1 l (by omega)) (by decide) lk_X1_87 cd_X1_daysLeft rfl rfl rfl rfl (Nat.le_of_ble_eq_true rfl) dX1_passDay_97 ?_
                show zV χ 3 ad zSH 0 0 100 [(0, .ref (ad 25)), (1, .int (zi ((m : Nat) : Int))), (2, .int (zi ((l : Nat) : Int)))] [.int (zi (zdl n (μ 13) (μ 14) f l))] (zup (zup μ 26 f) 27 b)
                refine z_ifne (tgt := 111) K dX1_passDay_100 (by decide) (by omega) (fun h100 => ?_) (fun h100 => ?_)
                · refine z_iincN (lv' := [(0, .ref (ad 25)), (1, .int (zi ((m : Nat) : Int))), (2, .int (zi ((l + 1 : Nat) : Int)))]) K dX1_passDay_111 rfl (by decide) rfl ?_
                  refine z_goto (tgt := 72) K dX1_passDay_114 (by decide) ?_
                  exact ih (l + 1) (by omega) (by omega) _ _ (by
                    rw [zht_s, hF3]
                    dsimp only
                    rw [if_neg (by omega)])
                · refine z_aload_n K dX1_passDay_103 rfl ?_
                  refine z_iload_n K dX1_passDay_104 rfl ?_
                  refine z_callVm K hl1 hg1 (kb := 25) (As := [.int (zi ((l : Nat) : Int))]) (rest := []) (ct_hatch_t la g0 ad μ n nc hp f b hht.1 l (by omega)) (by decide) lk_X1_90 cd_X1_hatch rfl rfl rfl rfl (Nat.le_of_ble_eq_true rfl) dX1_passDay_105 ?_
                  refine z_iincN (lv' := [(0, .ref (ad 25)), (1, .int (zi ((m + 1 : Nat) : Int))), (2, .int (zi ((l : Nat) : Int)))]) K dX1_passDay_108 rfl (by decide) rfl ?_
                  refine z_iincN (lv' := [(0, .ref (ad 25)), (1, .int (zi ((m + 1 : Nat) : Int))), (2, .int (zi ((l + 1 : Nat) : Int)))]) K dX1_passDay_111 rfl (by decide) rfl ?_
                  refine z_goto (tgt := 72) K dX1_passDay_114 (by decide) ?_
                  exact ih (l + 1) (by omega) (by omega) _ _ (by
                    rw [zht_s, hF3]
                    dsimp only
                    rw [if_pos ⟨by omega, by omega⟩])
          exact L72 0 (by omega) e 0 rfl
        · have hwl := hwt.1.1 l (by omega)
          refine z_aload_n K dX1_passDay_37 rfl ?_
          refine z_get (k := 25) (v := .ref (ad 26)) K dX1_passDay_38 fl_X1_11 rfl rfl rfl ?_
          refine z_bipush K dX1_passDay_41 (by decide +kernel) ?_
          refine z_iload_n K dX1_passDay_43 rfl ?_
          refine z_iadd K dX1_passDay_44 ?_
          refine z_iald (k := 26) (v := e (12 + l)) K dX1_passDay_45 (12 + l) rfl (by decide) (by omega) (by omega) rfl ?_
          refine z_ifne (tgt := 62) K dX1_passDay_46 (by decide) (by omega) (fun h46 => ?_) (fun h46 => ?_)
          · refine z_iincN (lv' := [(0, .ref (ad 25)), (1, .int (zi ((l + 1 : Nat) : Int)))]) K dX1_passDay_62 rfl (by decide) rfl ?_
            refine z_goto (tgt := 26) K dX1_passDay_65 (by decide) ?_
            exact ih (l + 1) (by omega) (by omega) _ (by
              rw [zwt_s, hF2]
              rw [if_neg (by omega)])
          · refine z_aload_n K dX1_passDay_49 rfl ?_
            refine z_get (k := 25) (v := .ref (ad 26)) K dX1_passDay_50 fl_X1_11 rfl rfl rfl ?_
            refine z_bipush K dX1_passDay_53 (by decide +kernel) ?_
            refine z_iload_n K dX1_passDay_55 rfl ?_
            refine z_iadd K dX1_passDay_56 ?_
            refine z_dup2 K dX1_passDay_57 rfl rfl ?_
            refine z_iald (k := 26) (v := e (6 + l)) K dX1_passDay_58 (6 + l) rfl (by decide) (by omega) (by omega) rfl ?_
            refine z_iconst K dX1_passDay_59 ?_
            refine z_iadd K dX1_passDay_60 ?_
            refine z_iast (k := 26) K dX1_passDay_61 (6 + l) rfl (by decide) (by omega) (by omega) (z_mem (ν := zup (zup μ 26 (zu1 e (6 + l) ((e (6 + l)) + (1 : Int)))) 27 b) (zup_sw _ (by decide) _ _ _) ?_)
            refine z_iincN (lv' := [(0, .ref (ad 25)), (1, .int (zi ((l + 1 : Nat) : Int)))]) K dX1_passDay_62 rfl (by decide) rfl ?_
            refine z_goto (tgt := 26) K dX1_passDay_65 (by decide) ?_
            exact ih (l + 1) (by omega) (by omega) _ (by
              rw [zwt_s, hF2]
              rw [if_pos (by omega)])
      exact L26 0 (by omega) d rfl
    · refine z_aload_n K dX1_passDay_13 rfl ?_
      refine z_iload_n K dX1_passDay_14 rfl ?_
      refine z_callVm K hl1 hg1 (kb := 25) (As := [.int (zi ((k : Nat) : Int))]) (rest := []) (ct_clerkAnswers_t la g0 ad μ n nc hp d b hwv.1 k (by omega)) (by decide) lk_X1_83 cd_X1_clerkAnswers rfl rfl rfl rfl (Nat.le_of_ble_eq_true rfl) dX1_passDay_15 ?_
      refine z_iincN (lv' := [(0, .ref (ad 25)), (1, .int (zi ((k + 1 : Nat) : Int)))]) K dX1_passDay_18 rfl (by decide) rfl ?_
      refine z_goto (tgt := 2) K dX1_passDay_21 (by decide) ?_
      exact ih (k + 1) (by omega) (by omega) _ _ (by rw [zcl_s, hF])
  exact L2 0 (by omega) c a rfl
set_option maxHeartbeats 4000000 in
set_option maxRecDepth 100000 in
theorem ct_moveTo_t (la : Launch) (g0 : zG) (ad : Nat → Nat) (μ : zMem) (l : Nat) (hl : l < 6) (x : Int) : zCon la g0 yX1_moveTo cX1_moveTo 3 none 0 ad zSH [.ref (ad 25), .int (zi ((l : Nat) : Int)), .int (zi x)] μ (zPm (zup μ 26 (zu1 (μ 26) l x))) := by
  refine zCon_of (by decide +kernel) (Nat.le_of_ble_eq_true rfl) ?_
  intro χ K T hl1 hg1
  have K : zOk χ cX1_moveTo RX1 3 0 none := K
  show zV χ 3 ad zSH 0 0 0 [(0, .ref (ad 25)), (1, .int (zi ((l : Nat) : Int))), (2, .int (zi x))] [] μ
  refine z_aload_n K dX1_moveTo_0 rfl ?_
  refine z_get (k := 25) (v := .ref (ad 26)) K dX1_moveTo_1 fl_X1_11 rfl rfl rfl ?_
  refine z_iconst K dX1_moveTo_4 ?_
  refine z_iload_n K dX1_moveTo_5 rfl ?_
  refine z_iadd K dX1_moveTo_6 ?_
  refine z_iload_n K dX1_moveTo_7 rfl ?_
  refine z_iast (k := 26) K dX1_moveTo_8 l rfl (by decide) (by omega) (by omega) ?_
  exact z_vretd K T rfl dX1_moveTo_9 rfl
set_option maxHeartbeats 4000000 in
set_option maxRecDepth 100000 in
theorem ct_sendTo_t (la : Launch) (g0 : zG) (ad : Nat → Nat) (μ : zMem) (k : Nat) (hk : k < 3) (x : Int) : zCon la g0 yX1_sendTo cX1_sendTo 3 none 0 ad zSH [.ref (ad 25), .int (zi ((k : Nat) : Int)), .int (zi x)] μ (zPm (zup μ 26 (zu1 (μ 26) (18 + k) x))) := by
  refine zCon_of (by decide +kernel) (Nat.le_of_ble_eq_true rfl) ?_
  intro χ K T hl1 hg1
  have K : zOk χ cX1_sendTo RX1 3 0 none := K
  show zV χ 3 ad zSH 0 0 0 [(0, .ref (ad 25)), (1, .int (zi ((k : Nat) : Int))), (2, .int (zi x))] [] μ
  refine z_aload_n K dX1_sendTo_0 rfl ?_
  refine z_get (k := 25) (v := .ref (ad 26)) K dX1_sendTo_1 fl_X1_11 rfl rfl rfl ?_
  refine z_bipush K dX1_sendTo_4 (by decide +kernel) ?_
  refine z_iload_n K dX1_sendTo_6 rfl ?_
  refine z_iadd K dX1_sendTo_7 ?_
  refine z_iload_n K dX1_sendTo_8 rfl ?_
  refine z_iast (k := 26) K dX1_sendTo_9 (18 + k) rfl (by decide) (by omega) (by omega) ?_
  exact z_vretd K T rfl dX1_sendTo_10 rfl
set_option maxHeartbeats 4000000 in
set_option maxRecDepth 100000 in
theorem ct_addGrain_t (la : Launch) (g0 : zG) (ad : Nat → Nat) (μ : zMem) (x : Int) (hx : 0 ≤ x ∧ x ≤ 9) (hg : 0 ≤ μ 26 21 ∧ μ 26 21 ≤ 99) : zCon la g0 yX1_addGrain cX1_addGrain 2 none 1 ad zSH [.ref (ad 25), .int (zi x)] μ (zPm (zup μ 26 (zu1 (μ 26) 21 (min 99 (μ 26 21 + x))))) := by
  refine zCon_of (by decide +kernel) (Nat.le_of_ble_eq_true rfl) ?_
  intro χ K T hl1 hg1
  have K : zOk χ cX1_addGrain RX1 2 1 none := K
  show zV χ 2 ad zSH 0 0 0 [(0, .ref (ad 25)), (1, .int (zi x))] [] μ
  refine z_aload_n K dX1_addGrain_0 rfl ?_
  refine z_get (k := 25) (v := .ref (ad 26)) K dX1_addGrain_1 fl_X1_11 rfl rfl rfl ?_
  refine z_bipush K dX1_addGrain_4 (by decide +kernel) ?_
  refine z_bipush K dX1_addGrain_6 (by decide +kernel) ?_
  refine z_aload_n K dX1_addGrain_8 rfl ?_
  refine z_get (k := 25) (v := .ref (ad 26)) K dX1_addGrain_9 fl_X1_11 rfl rfl rfl ?_
  refine z_bipush K dX1_addGrain_12 (by decide +kernel) ?_
  refine z_iald (k := 26) (v := μ 26 21) K dX1_addGrain_14 21 rfl (by decide) (by omega) (by omega) rfl ?_
  refine z_iload_n K dX1_addGrain_15 rfl ?_
  refine z_iadd K dX1_addGrain_16 ?_
  refine z_min K dX1_addGrain_17 lk_X1_77 (by decide) ⟨by decide, by decide⟩ (by omega) (Nat.le_of_ble_eq_true rfl) ?_
  refine z_iast (k := 26) K dX1_addGrain_20 21 rfl (by decide) (by omega) (by omega) ?_
  exact z_vretd K T rfl dX1_addGrain_21 rfl
set_option maxHeartbeats 4000000 in
set_option maxRecDepth 100000 in
theorem ct_answer (la : Launch) (g0 : zG) (ad : Nat → Nat) (μ : zMem) (l : Nat) (hl : l < 6) : zCon la g0 yX1_answer cX1_answer 2 none 0 ad zSH [.ref (ad 25), .int (zi ((l : Nat) : Int))] μ (zPm (zup μ 26 (zu1 (μ 26) (12 + l) 1))) := by
  refine zCon_of (by decide +kernel) (Nat.le_of_ble_eq_true rfl) ?_
  intro χ K T hl1 hg1
  have K : zOk χ cX1_answer RX1 2 0 none := K
  show zV χ 2 ad zSH 0 0 0 [(0, .ref (ad 25)), (1, .int (zi ((l : Nat) : Int)))] [] μ
  refine z_aload_n K dX1_answer_0 rfl ?_
  refine z_get (k := 25) (v := .ref (ad 26)) K dX1_answer_1 fl_X1_11 rfl rfl rfl ?_
  refine z_bipush K dX1_answer_4 (by decide +kernel) ?_
  refine z_iload_n K dX1_answer_6 rfl ?_
  refine z_iadd K dX1_answer_7 ?_
  refine z_iconst K dX1_answer_8 ?_
  refine z_iast (k := 26) K dX1_answer_9 (12 + l) rfl (by decide) (by omega) (by omega) ?_
  exact z_vretd K T rfl dX1_answer_10 rfl
set_option maxHeartbeats 4000000 in
set_option maxRecDepth 100000 in
theorem ct_beLike (la : Launch) (g0 : zG) (ad : Nat → Nat) (μ : zMem)  : zCon la g0 yX1_beLike cX1_beLike 3 none 1 ad zSH [.ref (ad 25), .ref (ad 17)] μ (zPm (zup (zup μ 26 (μ 18)) 27 (fun _ => 0))) := by
  refine zCon_of (by decide +kernel) (Nat.le_of_ble_eq_true rfl) ?_
  intro χ K T hl1 hg1
  have K : zOk χ cX1_beLike RX1 3 1 none := K
  show zV χ 3 ad zSH 0 0 0 [(0, .ref (ad 25)), (1, .ref (ad 17))] [] μ
  refine z_aload_n K dX1_beLike_0 rfl ?_
  refine z_get (k := 17) (v := .ref (ad 18)) K dX1_beLike_1 fl_X1_11 rfl rfl rfl ?_
  refine z_iconst K dX1_beLike_4 ?_
  refine z_aload_n K dX1_beLike_5 rfl ?_
  refine z_get (k := 25) (v := .ref (ad 26)) K dX1_beLike_6 fl_X1_11 rfl rfl rfl ?_
  refine z_iconst K dX1_beLike_9 ?_
  refine z_bipush K dX1_beLike_10 (by decide +kernel) ?_
  refine z_copy (k0 := 18) (k1 := 26) K dX1_beLike_12 lk_X1_40 (by decide) rfl rfl 0 0 23 (by omega) (by omega) (by omega) ⟨by decide, by decide⟩ ⟨by decide, by decide⟩ (Nat.le_of_ble_eq_true rfl) ?_
  refine z_eqv (k := 26) (n := 23) (b := false) (ν := zup (zup μ 26 (μ 18)) 27 (μ 27)) rfl (fun q hq => ?_) (fun j hj => ?_) ?_
  · unfold zup; by_cases h27 : q = 27
    · subst h27; rfl
    · simp [hq, h27]
  · show zcpy (μ 18) (μ 26) 0 0 23 j = μ 18 j
    unfold zcpy; rw [if_pos ⟨by omega, by omega⟩]; congr 1; omega
  refine z_iconst K dX1_beLike_15 ?_
  refine z_istore_n (lv' := [(0, .ref (ad 25)), (1, .ref (ad 17)), (2, .int (zi (0 : Int)))]) K dX1_beLike_16 (by decide) rfl ?_
  have L17 : ∀ i, i ≤ 3 → ∀ (a : Nat → Int), (∀ j, j < i → a j = 0) → zV χ 3 ad zSH 0 0 17 [(0, .ref (ad 25)), (1, .ref (ad 17)), (2, .int (zi ((i : Nat) : Int)))] [] (zup (zup μ 26 (μ 18)) 27 a) := by
    refine zfor ?_
    intro i hi ih a ha
    refine z_iload_n K dX1_beLike_17 rfl ?_
    refine z_iconst K dX1_beLike_18 ?_
    refine z_icmpge (tgt := 35) K dX1_beLike_19 (by decide) (by omega) ⟨by decide, by decide⟩ (fun h19 => ?_) (fun h19 => ?_)
    · refine z_eqv (k := 27) (n := 3) (b := false) (ν := zup (zup μ 26 (μ 18)) 27 (fun _ => 0)) rfl (fun q hq => ?_) (fun j hj => ?_) ?_
      · unfold zup; simp [hq]
      · exact ha j (by omega)
      exact z_vretd K T rfl dX1_beLike_35 (by rfl)
    · refine z_aload_n K dX1_beLike_22 rfl ?_
      refine z_get (k := 25) (v := .ref (ad 27)) K dX1_beLike_23 fl_X1_15 rfl rfl rfl ?_
      refine z_iload_n K dX1_beLike_26 rfl ?_
      refine z_iconst K dX1_beLike_27 ?_
      refine z_iast (k := 27) K dX1_beLike_28 i rfl (by decide) (by omega) (by omega) (z_mem (ν := zup (zup μ 26 (μ 18)) 27 (zu1 a i (0 : Int))) (zup_same _ _ _ _) ?_)
      refine z_iincN (lv' := [(0, .ref (ad 25)), (1, .ref (ad 17)), (2, .int (zi ((i + 1 : Nat) : Int)))]) K dX1_beLike_29 rfl (by decide) rfl ?_
      refine z_goto (tgt := 17) K dX1_beLike_32 (by decide) ?_
      exact ih (i + 1) (by omega) (by omega) _ (fun j hj => by
        simp only [zu1]
        split
        · rfl
        · exact ha j (by omega))
  exact L17 0 (by omega) _ (fun j hj => absurd hj (by omega))
