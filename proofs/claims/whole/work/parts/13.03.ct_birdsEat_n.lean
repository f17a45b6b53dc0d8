set_option maxHeartbeats 4000000 in
set_option maxRecDepth 100000 in
theorem ct_birdsEat_n (la : Launch) (g0 : zG) (ad : Nat → Nat) (μ : zMem) (n nc : Nat) (hp : zPlan μ n nc) (hv : zHV n nc (μ 18)) : zCon la g0 yX1_birdsEat cX1_birdsEat 2 none 0 ad zSH [.ref (ad 17)] μ (zPm (zup μ 18 (zeat (μ 18) n))) := by
  refine zCon_of (by decide +kernel) (Nat.le_of_ble_eq_true rfl) ?_
  intro χ K T hl1 hg1
  have K : zOk χ cX1_birdsEat RX1 2 0 none := K
  obtain ⟨hn, hn6, hnc, hnc3, hpl, hpk⟩ := id hp
  refine z_mem (ν := zup μ 18 (μ 18)) (zup_id μ 18) ?_
  show zV χ 2 ad zSH 0 0 0 [(0, .ref (ad 17))] [] (zup μ 18 (μ 18))
  refine z_iconst K dX1_birdsEat_0 ?_
  refine z_istore_n (lv' := [(0, .ref (ad 17)), (1, .int (zi (0 : Int)))]) K dX1_birdsEat_1 (by decide) rfl ?_
  have L2 : ∀ l, l ≤ n → zV χ 2 ad zSH 0 0 2 [(0, .ref (ad 17)), (1, .int (zi ((l : Nat) : Int)))] [] (zup μ 18 (zeat (μ 18) l)) := by
    refine zfor ?_
    intro l hl ih
    have hw := zeat_ok hn6 hnc3 hv l hl
    have hw21 := hw.1.2.2
    refine z_iload_n K dX1_birdsEat_2 rfl ?_
    refine z_aload_n K dX1_birdsEat_3 rfl ?_
    refine z_get (k := 17) (v := .ref (ad 10)) K dX1_birdsEat_4 fl_X1_18 rfl rfl rfl ?_
    refine z_get (k := 10) (v := .int (zi (μ 10 0))) K dX1_birdsEat_7 fl_X1_22 rfl rfl rfl ?_
    refine z_icmpge (tgt := 66) K dX1_birdsEat_10 (by decide) (by omega) (by omega) (fun h10 => ?_) (fun h10 => ?_)
    · exact z_vretd K T rfl dX1_birdsEat_66 (by rw [show n = l by omega])
    · have hwl := hw.1.1 l (by omega)
      refine z_aload_n K dX1_birdsEat_13 rfl ?_
      refine z_get (k := 17) (v := .ref (ad 18)) K dX1_birdsEat_14 fl_X1_11 rfl rfl rfl ?_
      refine z_bipush K dX1_birdsEat_17 (by decide +kernel) ?_
      refine z_iload_n K dX1_birdsEat_19 rfl ?_
      refine z_iadd K dX1_birdsEat_20 ?_
      refine z_iald (k := 18) (v := (zeat (μ 18) l) (12 + l)) K dX1_birdsEat_21 (12 + l) rfl (by decide) (by omega) (by omega) rfl ?_
      refine z_iconst K dX1_birdsEat_22 ?_
      refine z_icmpne (tgt := 60) K dX1_birdsEat_23 (by decide) (by omega) ⟨by decide, by decide⟩ (fun h23 => ?_) (fun h23 => ?_)
      · refine z_iincN (lv' := [(0, .ref (ad 17)), (1, .int (zi ((l + 1 : Nat) : Int)))]) K dX1_birdsEat_60 rfl (by decide) rfl ?_
        refine z_goto (tgt := 2) K dX1_birdsEat_63 (by decide) ?_
        have e9 : zeat (μ 18) (l + 1) = zeat (μ 18) l := by
          rw [zeat_s]
          rw [if_neg (by omega)]
        have q := ih (l + 1) (by omega) (by omega)
        rw [e9] at q
        exact q
      · refine z_aload_n K dX1_birdsEat_26 rfl ?_
        refine z_get (k := 17) (v := .ref (ad 18)) K dX1_birdsEat_27 fl_X1_11 rfl rfl rfl ?_
        refine z_bipush K dX1_birdsEat_30 (by decide +kernel) ?_
        refine z_iald (k := 18) (v := (zeat (μ 18) l) 21) K dX1_birdsEat_32 21 rfl (by decide) (by omega) (by omega) rfl ?_
        refine z_ifle (tgt := 50) K dX1_birdsEat_33 (by decide) (by omega) (fun h33 => ?_) (fun h33 => ?_)
        · refine z_aload_n K dX1_birdsEat_50 rfl ?_
          refine z_get (k := 17) (v := .ref (ad 18)) K dX1_birdsEat_51 fl_X1_11 rfl rfl rfl ?_
          refine z_bipush K dX1_birdsEat_54 (by decide +kernel) ?_
          refine z_iload_n K dX1_birdsEat_56 rfl ?_
          refine z_iadd K dX1_birdsEat_57 ?_
          refine z_iconst K dX1_birdsEat_58 ?_
          refine z_iast (k := 18) K dX1_birdsEat_59 (12 + l) rfl (by decide) (by omega) (by omega) (z_mem (ν := zup μ 18 (zu1 (zeat (μ 18) l) (12 + l) (3 : Int))) (zup_same _ _ _ _) ?_)
          refine z_iincN (lv' := [(0, .ref (ad 17)), (1, .int (zi ((l + 1 : Nat) : Int)))]) K dX1_birdsEat_60 rfl (by decide) rfl ?_
          refine z_goto (tgt := 2) K dX1_birdsEat_63 (by decide) ?_
          have e9 : zeat (μ 18) (l + 1) = zu1 (zeat (μ 18) l) (12 + l) (3 : Int) := by
            rw [zeat_s]
            rw [if_pos (by omega), if_neg (by omega)]
          have q := ih (l + 1) (by omega) (by omega)
          rw [e9] at q
          exact q
        · refine z_aload_n K dX1_birdsEat_36 rfl ?_
          refine z_get (k := 17) (v := .ref (ad 18)) K dX1_birdsEat_37 fl_X1_11 rfl rfl rfl ?_
          refine z_bipush K dX1_birdsEat_40 (by decide +kernel) ?_
          refine z_dup2 K dX1_birdsEat_42 rfl rfl ?_
          refine z_iald (k := 18) (v := (zeat (μ 18) l) 21) K dX1_birdsEat_43 21 rfl (by decide) (by omega) (by omega) rfl ?_
          refine z_iconst K dX1_birdsEat_44 ?_
          refine z_isub K dX1_birdsEat_45 ?_
          refine z_iast (k := 18) K dX1_birdsEat_46 21 rfl (by decide) (by omega) (by omega) (z_mem (ν := zup μ 18 (zu1 (zeat (μ 18) l) 21 (((zeat (μ 18) l) 21) - (1 : Int)))) (zup_same _ _ _ _) ?_)
          refine z_goto (tgt := 60) K dX1_birdsEat_47 (by decide) ?_
          refine z_iincN (lv' := [(0, .ref (ad 17)), (1, .int (zi ((l + 1 : Nat) : Int)))]) K dX1_birdsEat_60 rfl (by decide) rfl ?_
          refine z_goto (tgt := 2) K dX1_birdsEat_63 (by decide) ?_
          have e9 : zeat (μ 18) (l + 1) = zu1 (zeat (μ 18) l) 21 (((zeat (μ 18) l) 21) - (1 : Int)) := by
            rw [zeat_s]
            rw [if_pos (by omega), if_pos (by omega)]
          have q := ih (l + 1) (by omega) (by omega)
          rw [e9] at q
          exact q
  exact L2 0 (by omega)
