set_option maxHeartbeats 4000000 in
set_option maxRecDepth 100000 in
theorem ct_moveTo_n (la : Launch) (g0 : zG) (ad : Nat → Nat) (μ : zMem) (l : Nat) (hl : l < 6) (x : Int) : zCon la g0 yX1_moveTo cX1_moveTo 3 none 0 ad zSH [.ref (ad 17), .int (zi ((l : Nat) : Int)), .int (zi x)] μ (zPm (zup μ 18 (zu1 (μ 18) l x))) := by
  refine zCon_of (by decide +kernel) (Nat.le_of_ble_eq_true rfl) ?_
  intro χ K T hl1 hg1
  have K : zOk χ cX1_moveTo RX1 3 0 none := K
  show zV χ 3 ad zSH 0 0 0 [(0, .ref (ad 17)), (1, .int (zi ((l : Nat) : Int))), (2, .int (zi x))] [] μ
  refine z_aload_n K dX1_moveTo_0 rfl ?_
  refine z_get (k := 17) (v := .ref (ad 18)) K dX1_moveTo_1 fl_X1_11 rfl rfl rfl ?_
  refine z_iconst K dX1_moveTo_4 ?_
  refine z_iload_n K dX1_moveTo_5 rfl ?_
  refine z_iadd K dX1_moveTo_6 ?_
  refine z_iload_n K dX1_moveTo_7 rfl ?_
  refine z_iast (k := 18) K dX1_moveTo_8 l rfl (by decide) (by omega) (by omega) ?_
  exact z_vretd K T rfl dX1_moveTo_9 rfl
