set_option maxHeartbeats 4000000 in
set_option maxRecDepth 100000 in
theorem ct_addGrain_n (la : Launch) (g0 : zG) (ad : Nat → Nat) (μ : zMem) (x : Int) (hx : 0 ≤ x ∧ x ≤ 9) (hg : 0 ≤ μ 18 21 ∧ μ 18 21 ≤ 99) : zCon la g0 yX1_addGrain cX1_addGrain 2 none 1 ad zSH [.ref (ad 17), .int (zi x)] μ (zPm (zup μ 18 (zu1 (μ 18) 21 (min 99 (μ 18 21 + x))))) := by
  refine zCon_of (by decide +kernel) (Nat.le_of_ble_eq_true rfl) ?_
  intro χ K T hl1 hg1
  have K : zOk χ cX1_addGrain RX1 2 1 none := K
  show zV χ 2 ad zSH 0 0 0 [(0, .ref (ad 17)), (1, .int (zi x))] [] μ
  refine z_aload_n K dX1_addGrain_0 rfl ?_
  refine z_get (k := 17) (v := .ref (ad 18)) K dX1_addGrain_1 fl_X1_11 rfl rfl rfl ?_
  refine z_bipush K dX1_addGrain_4 (by decide +kernel) ?_
  refine z_bipush K dX1_addGrain_6 (by decide +kernel) ?_
  refine z_aload_n K dX1_addGrain_8 rfl ?_
  refine z_get (k := 17) (v := .ref (ad 18)) K dX1_addGrain_9 fl_X1_11 rfl rfl rfl ?_
  refine z_bipush K dX1_addGrain_12 (by decide +kernel) ?_
  refine z_iald (k := 18) (v := μ 18 21) K dX1_addGrain_14 21 rfl (by decide) (by omega) (by omega) rfl ?_
  refine z_iload_n K dX1_addGrain_15 rfl ?_
  refine z_iadd K dX1_addGrain_16 ?_
  refine z_min K dX1_addGrain_17 lk_X1_77 (by decide) ⟨by decide, by decide⟩ (by omega) (Nat.le_of_ble_eq_true rfl) ?_
  refine z_iast (k := 18) K dX1_addGrain_20 21 rfl (by decide) (by omega) (by omega) ?_
  exact z_vretd K T rfl dX1_addGrain_21 rfl
