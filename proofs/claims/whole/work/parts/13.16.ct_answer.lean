set_option maxHeartbeats 4000000 in
set_option maxRecDepth 100000 in
theorem ct_answer (la : Launch) (g0 : zG) (ad : Nat → Nat) (μ : zMem) (l : Nat) (hl : l < 6) : zCon la g0 yX1_answer cX1_answer 2 none 0 ad zSH [.ref (ad 25), .int (zi ((l : Nat) : Int))] μ (zPm (zup μ 26 (zu1 (μ 26) (12 + l) 1))) := by
  refine zCon_of (by decide +kernel) (Nat.le_of_ble_eq_true rfl) ?_
  intro χ K T hl1 hg1
  have K : zOk χ cX1_answer RX1 2 0 none := K
  show zV χ 2 ad zSH 0 0 0 [(0, .ref (ad 25)), (1, .int (zi ((l : Nat) : Int)))] [] μ
  refine z_aload_n K dX1_answer_0 rfl ?_
  refine z_get (k := 25) (v := .ref (ad 26)) K dX1_answer_1 fl_X1_11 rfl rfl rfl ?_
  refine z_bipush K dX1_answer_4 (by decide +kernel) ?_
  refine z_iload_n K dX1_answer_6 rfl ?_
  refine z_iadd K dX1_answer_7 ?_
  refine z_iconst K dX1_answer_8 ?_
  refine z_iast (k := 26) K dX1_answer_9 (12 + l) rfl (by decide) (by omega) (by omega) ?_
  exact z_vretd K T rfl dX1_answer_10 rfl
