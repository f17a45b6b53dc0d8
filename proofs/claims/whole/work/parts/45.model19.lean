set_option maxHeartbeats 4000000 in
set_option maxRecDepth 100000 in
theorem cm_from (la : Launch) (g0 : zG) (ad : Nat → Nat) (μ : zMem) (p t : Nat) (hp : μ 39 3 = (p : Int)) (ht : μ 39 2 = (t : Int)) (hpt : p ≤ t) (ht48 : t ≤ 48) (hx : ∀ j, j < 48 → 0 ≤ μ 40 j ∧ μ 40 j ≤ 255) (f u w : Int) (hf : 0 ≤ f ∧ f ≤ 255) (hu : zR u) (hw : zR w) : zCon la g0 yX9_from cX9_from 4 (some .int) 1 ad zSH [.ref (ad 39), .int (zi f), .int (zi u), .int (zi w)] μ (zPi (fun r ν => (¬ (p < t ∧ u ≤ μ 40 p - f ∧ μ 40 p - f ≤ w) ∧ r = -9 ∧ ν = μ) ∨ ((p < t ∧ u ≤ μ 40 p - f ∧ μ 40 p - f ≤ w) ∧ r = μ 40 p - f ∧ ν = zup μ 39 (zu1 (μ 39) 3 ((p : Int) + 1))))) := by
  refine zCon_of (by decide +kernel) (Nat.le_of_ble_eq_true rfl) ?_
  intro χ K T hl1 hg1
  have K : zOk χ cX9_from RX9 4 1 (some .int) := K
  refine z_mem (ν := zup μ 39 (μ 39)) (zup_id μ 39) ?_
  show zV χ 4 ad zSH 0 0 0 [(0, .ref (ad 39)), (1, .int (zi f)), (2, .int (zi u)), (3, .int (zi w))] [] (zup μ 39 (μ 39))
  refine z_aload_n K dX9_from_0 rfl ?_
  refine z_get (k := 39) (v := .int (zi ((μ 39) 3))) K dX9_from_1 fl_X9_78 rfl rfl rfl ?_
  rw [show ((μ 39) 3) = ((p : Nat) : Int) from hp]
  refine z_aload_n K dX9_from_4 rfl ?_
  refine z_get (k := 39) (v := .int (zi ((μ 39) 2))) K dX9_from_5 fl_X9_75 rfl rfl rfl ?_
  rw [show ((μ 39) 2) = ((t : Nat) : Int) from ht]
  refine z_icmpeq (tgt := 33) K dX9_from_8 (by decide) (by omega) (by omega) (fun h8 => ?_) (fun h8 => ?_)
  · refine z_bipush K dX9_from_33 (by decide +kernel) ?_
    exact z_ireti K T rfl dX9_from_35 (Or.inl ⟨by omega, rfl, (zup_id μ 39).symm⟩)
  · have hxp := hx p (by omega)
    refine z_aload_n K dX9_from_11 rfl ?_
    refine z_get (k := 39) (v := .ref (ad 40)) K dX9_from_12 fl_X9_7 rfl rfl rfl ?_
    refine z_aload_n K dX9_from_15 rfl ?_
    refine z_get (k := 39) (v := .int (zi ((μ 39) 3))) K dX9_from_16 fl_X9_78 rfl rfl rfl ?_
    rw [show ((μ 39) 3) = ((p : Nat) : Int) from hp]
    refine z_iald (k := 40) (v := μ 40 p) K dX9_from_19 p rfl (by decide) (by omega) (by omega) rfl ?_
    refine z_iload_n K dX9_from_20 rfl ?_
    refine z_isub K dX9_from_21 ?_
    refine z_i2l K dX9_from_22 (by omega) ?_
    refine z_iload_n K dX9_from_23 rfl ?_
    refine z_i2l K dX9_from_24 (by omega) ?_
    refine z_iload_n K dX9_from_25 rfl ?_
    refine z_i2l K dX9_from_26 (by omega) ?_
    refine z_callSd K hl1 hg1 (As := [.long (zl ((μ 40 p) - f)), .long (zl u), .long (zl w)]) (rest := []) (cm_in la g0 ad (zup μ 39 (μ 39)) ((μ 40 p) - f) u w ⟨by omega, by omega⟩ ⟨by omega, by omega⟩ ⟨by omega, by omega⟩) (by decide) lk_X9_66 cd_X9_in rfl rfl (Nat.le_of_ble_eq_true rfl) dX9_from_27 ?_
    show zV χ 4 ad zSH 0 0 30 [(0, .ref (ad 39)), (1, .int (zi f)), (2, .int (zi u)), (3, .int (zi w))] [.int (zi (if u ≤ (μ 40 p) - f ∧ (μ 40 p) - f ≤ w then 1 else 0))] (zup μ 39 (μ 39))
    refine z_ifne (tgt := 36) K dX9_from_30 (by decide) (by omega) (fun h30 => ?_) (fun h30 => ?_)
    · refine z_aload_n K dX9_from_36 rfl ?_
      refine z_dup K dX9_from_37 rfl ?_
      refine z_get (k := 39) (v := .int (zi ((μ 39) 3))) K dX9_from_38 fl_X9_78 rfl rfl rfl ?_
      rw [show ((μ 39) 3) = ((p : Nat) : Int) from hp]
      refine z_iconst K dX9_from_41 ?_
      refine z_iadd K dX9_from_42 ?_
      refine z_puti (k := 39) K dX9_from_43 fp_X9_78 rfl rfl (z_mem (ν := zup μ 39 (zu1 (μ 39) 3 (((p : Nat) : Int) + (1 : Int)))) (zup_same _ _ _ _) ?_)
      refine z_aload_n K dX9_from_46 rfl ?_
      refine z_get (k := 39) (v := .ref (ad 40)) K dX9_from_47 fl_X9_7 rfl rfl rfl ?_
      refine z_aload_n K dX9_from_50 rfl ?_
      refine z_get (k := 39) (v := .int (zi ((zu1 (μ 39) 3 (((p : Nat) : Int) + (1 : Int))) 3))) K dX9_from_51 fl_X9_78 rfl rfl rfl ?_
      rw [show ((zu1 (μ 39) 3 (((p : Nat) : Int) + (1 : Int))) 3) = ((p : Nat) : Int) + 1 from rfl]
      refine z_iconst K dX9_from_54 ?_
      refine z_isub K dX9_from_55 ?_
      rw [show ((((p : Nat) : Int) + 1) - (1 : Int)) = ((p : Nat) : Int) from (by omega)]
      refine z_iald (k := 40) (v := μ 40 p) K dX9_from_56 p rfl (by decide) (by omega) (by omega) rfl ?_
      refine z_iload_n K dX9_from_57 rfl ?_
      refine z_isub K dX9_from_58 ?_
      exact z_ireti K T rfl dX9_from_59 (Or.inr ⟨by omega, rfl, rfl⟩)
    · refine z_bipush K dX9_from_33 (by decide +kernel) ?_
      exact z_ireti K T rfl dX9_from_35 (Or.inl ⟨by omega, rfl, (zup_id μ 39).symm⟩)
