set_option maxHeartbeats 4000000 in
set_option maxRecDepth 100000 in
theorem ct_clerkAnswers_n (la : Launch) (g0 : zG) (ad : Nat → Nat) (μ : zMem) (n nc : Nat) (hp : zPlan μ n nc) (hv : zHW n nc (μ 18)) (k : Nat) (hk : k < nc) : zCon la g0 yX1_clerkAnswers cX1_clerkAnswers 4 none 2 ad zSH [.ref (ad 17), .int (zi ((k : Nat) : Int))] μ (zPm (zup (zup μ 18 (zca n (μ 13) (μ 14) k (μ 16 k).toNat (μ 18, μ 19)).1) 19 (zca n (μ 13) (μ 14) k (μ 16 k).toNat (μ 18, μ 19)).2)) := by
  refine zCon_of (by decide +kernel) (Nat.le_of_ble_eq_true rfl) ?_
  intro χ K T hl1 hg1
  have K : zOk χ cX1_clerkAnswers RX1 4 2 none := K
  obtain ⟨hn, hn6, hnc, hnc3, hpl, hpk⟩ := id hp
  have hpk1 := hpk k hk
  refine z_mem (ν := zup (zup μ 18 (μ 18)) 19 (μ 19)) (zup_id2 μ 18 19 (by decide)) ?_
  show zV χ 4 ad zSH 0 0 0 [(0, .ref (ad 17)), (1, .int (zi ((k : Nat) : Int)))] [] (zup (zup μ 18 (μ 18)) 19 (μ 19))
  refine z_iconst K dX1_clerkAnswers_0 ?_
  refine z_istore_n (lv' := [(0, .ref (ad 17)), (1, .int (zi ((k : Nat) : Int))), (2, .int (zi (0 : Int)))]) K dX1_clerkAnswers_1 (by decide) rfl ?_
  have L2 : ∀ i, i ≤ (μ 16 k).toNat → ∀ (c a : Nat → Int), zHW n nc c → zca n (μ 13) (μ 14) k ((μ 16 k).toNat - i) (c, a) = zca n (μ 13) (μ 14) k (μ 16 k).toNat (μ 18, μ 19) → zV χ 4 ad zSH 0 0 2 [(0, .ref (ad 17)), (1, .int (zi ((k : Nat) : Int))), (2, .int (zi ((i : Nat) : Int)))] [] (zup (zup μ 18 c) 19 a) := by
    refine zfor ?_
    intro i hi ih c a hw hF
    have hw2 := hw.2.1 k hk
    have hb := zmp_rg hp.pk hw (c (18 + k)) n (Nat.le_refl _)
    refine z_iload_n K dX1_clerkAnswers_2 rfl ?_
    refine z_aload_n K dX1_clerkAnswers_3 rfl ?_
    refine z_get (k := 17) (v := .ref (ad 10)) K dX1_clerkAnswers_4 fl_X1_18 rfl rfl rfl ?_
    refine z_get (k := 10) (v := .ref (ad 16)) K dX1_clerkAnswers_7 fl_X1_96 rfl rfl rfl ?_
    refine z_iload_n K dX1_clerkAnswers_10 rfl ?_
    refine z_iald (k := 16) (v := μ 16 k) K dX1_clerkAnswers_11 k rfl (by decide) (by omega) (by omega) rfl ?_
    refine z_icmpge (tgt := 62) K dX1_clerkAnswers_12 (by decide) (by omega) (by omega) (fun h12 => ?_) (fun h12 => ?_)
    · exact z_vretd K T rfl dX1_clerkAnswers_62 (by rw [← hF, show (μ 16 k).toNat - i = 0 by omega]; rfl)
    · refine z_aload_n K dX1_clerkAnswers_15 rfl ?_
      refine z_aload_n K dX1_clerkAnswers_16 rfl ?_
      refine z_get (k := 17) (v := .ref (ad 18)) K dX1_clerkAnswers_17 fl_X1_11 rfl rfl rfl ?_
      refine z_bipush K dX1_clerkAnswers_20 (by decide +kernel) ?_
      refine z_iload_n K dX1_clerkAnswers_22 rfl ?_
      refine z_iadd K dX1_clerkAnswers_23 ?_
      refine z_iald (k := 18) (v := c (18 + k)) K dX1_clerkAnswers_24 (18 + k) rfl (by decide) (by omega) (by omega) rfl ?_
      refine z_callVd K hl1 hg1 (kb := 17) (As := [.int (zi (c (18 + k)))]) (rest := []) (ct_mostPressing_n la g0 ad (zup (zup μ 18 c) 19 a) n nc hp hw (c (18 + k)) hw2) (by decide) lk_X1_99 cd_X1_mostPressing rfl rfl rfl rfl (Nat.le_of_ble_eq_true rfl) dX1_clerkAnswers_25 ?_
      refine z_istore_n (lv' := [(0, .ref (ad 17)), (1, .int (zi ((k : Nat) : Int))), (2, .int (zi ((i : Nat) : Int))), (3, .int (zi ((zmp n (μ 13) (μ 14) c (c (18 + k)) n).1)))]) K dX1_clerkAnswers_28 (by decide) rfl ?_
      refine z_iload_n K dX1_clerkAnswers_29 rfl ?_
      refine z_bipush K dX1_clerkAnswers_30 (by decide +kernel) ?_
      refine z_icmpne (tgt := 36) K dX1_clerkAnswers_32 (by decide) (by omega) ⟨by decide, by decide⟩ (fun h32 => ?_) (fun h32 => ?_)
      · refine z_aload_n K dX1_clerkAnswers_36 rfl ?_
        refine z_get (k := 17) (v := .ref (ad 18)) K dX1_clerkAnswers_37 fl_X1_11 rfl rfl rfl ?_
        refine z_bipush K dX1_clerkAnswers_40 (by decide +kernel) ?_
        refine z_iload_n K dX1_clerkAnswers_42 rfl ?_
        refine z_iadd K dX1_clerkAnswers_43 ?_
        refine z_iconst K dX1_clerkAnswers_44 ?_
        refine z_iast (k := 18) K dX1_clerkAnswers_45 (12 + (zmp n (μ 13) (μ 14) c (c (18 + k)) n).1.toNat) rfl (by decide) (by omega) (by omega) (z_mem (ν := zup (zup μ 18 (zu1 c (12 + (zmp n (μ 13) (μ 14) c (c (18 + k)) n).1.toNat) (1 : Int))) 19 a) (zup_sw _ (by decide) _ _ _) ?_)
        refine z_aload_n K dX1_clerkAnswers_46 rfl ?_
        refine z_get (k := 17) (v := .ref (ad 19)) K dX1_clerkAnswers_47 fl_X1_15 rfl rfl rfl ?_
        refine z_iload_n K dX1_clerkAnswers_50 rfl ?_
        refine z_dup2 K dX1_clerkAnswers_51 rfl rfl ?_
        refine z_iald (k := 19) (v := a k) K dX1_clerkAnswers_52 k rfl (by decide) (by omega) (by omega) rfl ?_
        refine z_iconst K dX1_clerkAnswers_53 ?_
        refine z_iadd K dX1_clerkAnswers_54 ?_
        refine z_iast (k := 19) K dX1_clerkAnswers_55 k rfl (by decide) (by omega) (by omega) (z_mem (ν := zup (zup μ 18 (zu1 c (12 + (zmp n (μ 13) (μ 14) c (c (18 + k)) n).1.toNat) (1 : Int))) 19 (zu1 a k ((a k) + (1 : Int)))) (zup_same _ _ _ _) ?_)
        refine z_iincN (lv' := [(0, .ref (ad 17)), (1, .int (zi ((k : Nat) : Int))), (2, .int (zi ((i + 1 : Nat) : Int))), (3, .int (zi ((zmp n (μ 13) (μ 14) c (c (18 + k)) n).1)))]) K dX1_clerkAnswers_56 rfl (by decide) rfl ?_
        refine z_goto (tgt := 2) K dX1_clerkAnswers_59 (by decide) ?_
        refine z_ipick [0, 1, 2] rfl ?_
        exact ih (i + 1) (by omega) (by omega) _ _ (zHW_fate hn6 hw (by omega) ⟨by decide, by decide⟩) (by
          rw [show (μ 16 k).toNat - i = ((μ 16 k).toNat - (i + 1)) + 1 by omega, zca_s, if_neg h32] at hF
          exact hF)
      · exact z_vretd K T rfl dX1_clerkAnswers_35 (by rw [← hF, show (μ 16 k).toNat - i = ((μ 16 k).toNat - (i + 1)) + 1 by omega, zca_s, if_pos h32])
  exact L2 0 (by omega) _ _ hv rfl
