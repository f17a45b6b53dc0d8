set_option maxHeartbeats 4000000 in
set_option maxRecDepth 100000 in
theorem ct_mostPressing_n (la : Launch) (g0 : zG) (ad : Nat → Nat) (μ : zMem) (n nc : Nat) (hp : zPlan μ n nc) (hv : zHW n nc (μ 18)) (row : Int) (hrow : 0 ≤ row ∧ row ≤ 3) : zCon la g0 yX1_mostPressing cX1_mostPressing 6 (some .int) 1 ad zSH [.ref (ad 17), .int (zi row)] μ (zPd μ (zmp n (μ 13) (μ 14) (μ 18) row n).1) := by
  refine zCon_of (by decide +kernel) (Nat.le_of_ble_eq_true rfl) ?_
  intro χ K T hl1 hg1
  have K : zOk χ cX1_mostPressing RX1 6 1 (some .int) := K
  obtain ⟨hn, hn6, hnc, hnc3, hpl, hpk⟩ := id hp
  obtain ⟨hv1, hv2, hv3, hv4⟩ := id hv
  show zV χ 6 ad zSH 0 0 0 [(0, .ref (ad 17)), (1, .int (zi row))] [] μ
  refine z_bipush K dX1_mostPressing_0 (by decide +kernel) ?_
  refine z_istore_n (lv' := [(0, .ref (ad 17)), (1, .int (zi row)), (2, .int (zi (-9 : Int)))]) K dX1_mostPressing_2 (by decide) rfl ?_
  refine z_iconst K dX1_mostPressing_3 ?_
  refine z_istore_n (lv' := [(0, .ref (ad 17)), (1, .int (zi row)), (2, .int (zi (-9 : Int))), (3, .int (zi (0 : Int)))]) K dX1_mostPressing_4 (by decide) rfl ?_
  refine z_iconst K dX1_mostPressing_5 ?_
  refine z_istore (lv' := [(0, .ref (ad 17)), (1, .int (zi row)), (2, .int (zi (-9 : Int))), (3, .int (zi (0 : Int))), (4, .int (zi (0 : Int)))]) K dX1_mostPressing_6 (by decide) rfl ?_
  have L8 : ∀ l, l ≤ n → zV χ 6 ad zSH 0 0 8 [(0, .ref (ad 17)), (1, .int (zi row)), (2, .int (zi ((zmp n (μ 13) (μ 14) (μ 18) row l).1))), (3, .int (zi ((zmp n (μ 13) (μ 14) (μ 18) row l).2))), (4, .int (zi ((l : Nat) : Int)))] [] μ := by
    refine zfor ?_
    intro l hl ih
    have hrg := zmp_rg hp.pk hv row l hl
    refine z_iload K dX1_mostPressing_8 rfl ?_
    refine z_aload_n K dX1_mostPressing_10 rfl ?_
    refine z_get (k := 17) (v := .ref (ad 10)) K dX1_mostPressing_11 fl_X1_18 rfl rfl rfl ?_
    refine z_get (k := 10) (v := .int (zi (μ 10 0))) K dX1_mostPressing_14 fl_X1_22 rfl rfl rfl ?_
    refine z_icmpge (tgt := 80) K dX1_mostPressing_17 (by decide) (by omega) (by omega) (fun h17 => ?_) (fun h17 => ?_)
    · refine z_iload_n K dX1_mostPressing_80 rfl ?_
      exact z_iretd K T rfl dX1_mostPressing_81 (by rw [show l = n by omega]) rfl
    · have hfl := hv1 l (by omega)
      have hdl := zdl_rg hp.pk hv (l := l) (by omega)
      refine z_aload_n K dX1_mostPressing_20 rfl ?_
      refine z_get (k := 17) (v := .ref (ad 18)) K dX1_mostPressing_21 fl_X1_11 rfl rfl rfl ?_
      refine z_bipush K dX1_mostPressing_24 (by decide +kernel) ?_
      refine z_iload K dX1_mostPressing_26 rfl ?_
      refine z_iadd K dX1_mostPressing_28 ?_
      refine z_iald (k := 18) (v := μ 18 (12 + l)) K dX1_mostPressing_29 (12 + l) rfl (by decide) (by omega) (by omega) rfl ?_
      refine z_ifne (tgt := 74) K dX1_mostPressing_30 (by decide) (by omega) (fun h30 => ?_) (fun h30 => ?_)
      · refine z_iincN (lv' := [(0, .ref (ad 17)), (1, .int (zi row)), (2, .int (zi ((zmp n (μ 13) (μ 14) (μ 18) row l).1))), (3, .int (zi ((zmp n (μ 13) (μ 14) (μ 18) row l).2))), (4, .int (zi ((l + 1 : Nat) : Int)))]) K dX1_mostPressing_74 rfl (by decide) rfl ?_
        refine z_goto (tgt := 8) K dX1_mostPressing_77 (by decide) ?_
        have e9 : zmp n (μ 13) (μ 14) (μ 18) row (l + 1) = zmp n (μ 13) (μ 14) (μ 18) row l := by
          rw [zmp_s]
          rw [if_neg (by omega)]
        have q := ih (l + 1) (by omega) (by omega)
        rw [e9] at q
        exact q
      · refine z_aload_n K dX1_mostPressing_33 rfl ?_
        refine z_get (k := 17) (v := .ref (ad 18)) K dX1_mostPressing_34 fl_X1_11 rfl rfl rfl ?_
        refine z_iconst K dX1_mostPressing_37 ?_
        refine z_iload K dX1_mostPressing_38 rfl ?_
        refine z_iadd K dX1_mostPressing_40 ?_
        refine z_iald (k := 18) (v := μ 18 l) K dX1_mostPressing_41 l rfl (by decide) (by omega) (by omega) rfl ?_
        refine z_iconst K dX1_mostPressing_42 ?_
        refine z_idiv K dX1_mostPressing_43 (by omega) (by omega) ?_
        refine z_iload_n K dX1_mostPressing_44 rfl ?_
        refine z_icmpne (tgt := 74) K dX1_mostPressing_45 (by decide) (by omega) (by omega) (fun h45 => ?_) (fun h45 => ?_)
        · refine z_iincN (lv' := [(0, .ref (ad 17)), (1, .int (zi row)), (2, .int (zi ((zmp n (μ 13) (μ 14) (μ 18) row l).1))), (3, .int (zi ((zmp n (μ 13) (μ 14) (μ 18) row l).2))), (4, .int (zi ((l + 1 : Nat) : Int)))]) K dX1_mostPressing_74 rfl (by decide) rfl ?_
          refine z_goto (tgt := 8) K dX1_mostPressing_77 (by decide) ?_
          have e9 : zmp n (μ 13) (μ 14) (μ 18) row (l + 1) = zmp n (μ 13) (μ 14) (μ 18) row l := by
            rw [zmp_s]
            rw [if_neg (by omega)]
          have q := ih (l + 1) (by omega) (by omega)
          rw [e9] at q
          exact q
        · refine z_aload_n K dX1_mostPressing_48 rfl ?_
          refine z_iload K dX1_mostPressing_49 rfl ?_
          refine z_callVd K hl1 hg1 (kb := 17) (As := [.int (zi ((l : Nat) : Int))]) (rest := []) (ct_daysLeft_n la g0 ad μ n nc hp hv l (by omega)) (by decide) lk_X1_87 cd_X1_daysLeft rfl rfl rfl rfl (Nat.le_of_ble_eq_true rfl) dX1_mostPressing_51 ?_
          refine z_istore (lv' := [(0, .ref (ad 17)), (1, .int (zi row)), (2, .int (zi ((zmp n (μ 13) (μ 14) (μ 18) row l).1))), (3, .int (zi ((zmp n (μ 13) (μ 14) (μ 18) row l).2))), (4, .int (zi ((l : Nat) : Int))), (5, .int (zi (zdl n (μ 13) (μ 14) (μ 18) l)))]) K dX1_mostPressing_54 (by decide) rfl ?_
          refine z_iload_n K dX1_mostPressing_56 rfl ?_
          refine z_bipush K dX1_mostPressing_57 (by decide +kernel) ?_
          refine z_icmpeq (tgt := 68) K dX1_mostPressing_59 (by decide) (by omega) ⟨by decide, by decide⟩ (fun h59 => ?_) (fun h59 => ?_)
          · refine z_iload K dX1_mostPressing_68 rfl ?_
            refine z_istore_n (lv' := [(0, .ref (ad 17)), (1, .int (zi row)), (2, .int (zi ((l : Nat) : Int))), (3, .int (zi ((zmp n (μ 13) (μ 14) (μ 18) row l).2))), (4, .int (zi ((l : Nat) : Int))), (5, .int (zi (zdl n (μ 13) (μ 14) (μ 18) l)))]) K dX1_mostPressing_70 (by decide) rfl ?_
            refine z_iload K dX1_mostPressing_71 rfl ?_
            refine z_istore_n (lv' := [(0, .ref (ad 17)), (1, .int (zi row)), (2, .int (zi ((l : Nat) : Int))), (3, .int (zi (zdl n (μ 13) (μ 14) (μ 18) l))), (4, .int (zi ((l : Nat) : Int))), (5, .int (zi (zdl n (μ 13) (μ 14) (μ 18) l)))]) K dX1_mostPressing_73 (by decide) rfl ?_
            refine z_iincN (lv' := [(0, .ref (ad 17)), (1, .int (zi row)), (2, .int (zi ((l : Nat) : Int))), (3, .int (zi (zdl n (μ 13) (μ 14) (μ 18) l))), (4, .int (zi ((l + 1 : Nat) : Int))), (5, .int (zi (zdl n (μ 13) (μ 14) (μ 18) l)))]) K dX1_mostPressing_74 rfl (by decide) rfl ?_
            refine z_goto (tgt := 8) K dX1_mostPressing_77 (by decide) ?_
            refine z_ipick [0, 1, 2, 3, 4] rfl ?_
            have e9 : zmp n (μ 13) (μ 14) (μ 18) row (l + 1) = ((l : Int), zdl n (μ 13) (μ 14) (μ 18) l) := by
              rw [zmp_s]
              rw [if_pos ⟨by omega, by omega, by omega⟩]
            have q := ih (l + 1) (by omega) (by omega)
            rw [e9] at q
            exact q
          · refine z_iload K dX1_mostPressing_62 rfl ?_
            refine z_iload_n K dX1_mostPressing_64 rfl ?_
            refine z_icmpge (tgt := 74) K dX1_mostPressing_65 (by decide) (by omega) (by omega) (fun h65 => ?_) (fun h65 => ?_)
            · refine z_iincN (lv' := [(0, .ref (ad 17)), (1, .int (zi row)), (2, .int (zi ((zmp n (μ 13) (μ 14) (μ 18) row l).1))), (3, .int (zi ((zmp n (μ 13) (μ 14) (μ 18) row l).2))), (4, .int (zi ((l + 1 : Nat) : Int))), (5, .int (zi (zdl n (μ 13) (μ 14) (μ 18) l)))]) K dX1_mostPressing_74 rfl (by decide) rfl ?_
              refine z_goto (tgt := 8) K dX1_mostPressing_77 (by decide) ?_
              refine z_ipick [0, 1, 2, 3, 4] rfl ?_
              have e9 : zmp n (μ 13) (μ 14) (μ 18) row (l + 1) = zmp n (μ 13) (μ 14) (μ 18) row l := by
                rw [zmp_s]
                rw [if_neg (by omega)]
              have q := ih (l + 1) (by omega) (by omega)
              rw [e9] at q
              exact q
            · refine z_iload K dX1_mostPressing_68 rfl ?_
              refine z_istore_n (lv' := [(0, .ref (ad 17)), (1, .int (zi row)), (2, .int (zi ((l : Nat) : Int))), (3, .int (zi ((zmp n (μ 13) (μ 14) (μ 18) row l).2))), (4, .int (zi ((l : Nat) : Int))), (5, .int (zi (zdl n (μ 13) (μ 14) (μ 18) l)))]) K dX1_mostPressing_70 (by decide) rfl ?_
              refine z_iload K dX1_mostPressing_71 rfl ?_
              refine z_istore_n (lv' := [(0, .ref (ad 17)), (1, .int (zi row)), (2, .int (zi ((l : Nat) : Int))), (3, .int (zi (zdl n (μ 13) (μ 14) (μ 18) l))), (4, .int (zi ((l : Nat) : Int))), (5, .int (zi (zdl n (μ 13) (μ 14) (μ 18) l)))]) K dX1_mostPressing_73 (by decide) rfl ?_
              refine z_iincN (lv' := [(0, .ref (ad 17)), (1, .int (zi row)), (2, .int (zi ((l : Nat) : Int))), (3, .int (zi (zdl n (μ 13) (μ 14) (μ 18) l))), (4, .int (zi ((l + 1 : Nat) : Int))), (5, .int (zi (zdl n (μ 13) (μ 14) (μ 18) l)))]) K dX1_mostPressing_74 rfl (by decide) rfl ?_
              refine z_goto (tgt := 8) K dX1_mostPressing_77 (by decide) ?_
              refine z_ipick [0, 1, 2, 3, 4] rfl ?_
              have e9 : zmp n (μ 13) (μ 14) (μ 18) row (l + 1) = ((l : Int), zdl n (μ 13) (μ 14) (μ 18) l) := by
                rw [zmp_s]
                rw [if_pos ⟨by omega, by omega, by omega⟩]
              have q := ih (l + 1) (by omega) (by omega)
              rw [e9] at q
              exact q
  exact L8 0 (by omega)
