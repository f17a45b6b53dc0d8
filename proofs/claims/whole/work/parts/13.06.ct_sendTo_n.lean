set_option maxHeartbeats 4000000 in
set_option maxRecDepth 100000 in
theorem ct_sendTo_n (la : Launch) (g0 : zG) (ad : Nat → Nat) (μ : zMem) (k : Nat) (hk : k < 3) (x : Int) : zCon la g0 yX1_sendTo cX1_sendTo 3 none 0 ad zSH [.ref (ad 17), .int (zi ((k : Nat) : Int)), .int (zi x)] μ (zPm (zup μ 18 (zu1 (μ 18) (18 + k) x))) := by
  refine zCon_of (by decide +kernel) (Nat.le_of_ble_eq_true rfl) ?_
  intro χ K T hl1 hg1
  have K : zOk χ cX1_sendTo RX1 3 0 none := K
  show zV χ 3 ad zSH 0 0 0 [(0, .ref (ad 17)), (1, .int (zi ((k : Nat) : Int))), (2, .int (zi x))] [] μ
  refine z_aload_n K dX1_sendTo_0 rfl ?_
  refine z_get (k := 17) (v := .ref (ad 18)) K dX1_sendTo_1 fl_X1_11 rfl rfl rfl ?_
  refine z_bipush K dX1_sendTo_4 (by decide +kernel) ?_
  refine z_iload_n K dX1_sendTo_6 rfl ?_
  refine z_iadd K dX1_sendTo_7 ?_
  refine z_iload_n K dX1_sendTo_8 rfl ?_
  refine z_iast (k := 18) K dX1_sendTo_9 (18 + k) rfl (by decide) (by omega) (by omega) ?_
  exact z_vretd K T rfl dX1_sendTo_10 rfl
