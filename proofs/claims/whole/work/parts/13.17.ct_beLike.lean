set_option maxHeartbeats 4000000 in
set_option maxRecDepth 100000 in
theorem ct_beLike (la : Launch) (g0 : zG) (ad : Nat → Nat) (μ : zMem)  : zCon la g0 yX1_beLike cX1_beLike 3 none 1 ad zSH [.ref (ad 25), .ref (ad 17)] μ (zPm (zup (zup μ 26 (μ 18)) 27 (fun _ => 0))) := by
  refine zCon_of (by decide +kernel) (Nat.le_of_ble_eq_true rfl) ?_
  intro χ K T hl1 hg1
  have K : zOk χ cX1_beLike RX1 3 1 none := K
  show zV χ 3 ad zSH 0 0 0 [(0, .ref (ad 25)), (1, .ref (ad 17))] [] μ
  refine z_aload_n K dX1_beLike_0 rfl ?_
  refine z_get (k := 17) (v := .ref (ad 18)) K dX1_beLike_1 fl_X1_11 rfl rfl rfl ?_
  refine z_iconst K dX1_beLike_4 ?_
  refine z_aload_n K dX1_beLike_5 rfl ?_
  refine z_get (k := 25) (v := .ref (ad 26)) K dX1_beLike_6 fl_X1_11 rfl rfl rfl ?_
  refine z_iconst K dX1_beLike_9 ?_
  refine z_bipush K dX1_beLike_10 (by decide +kernel) ?_
  refine z_copy (k0 := 18) (k1 := 26) K dX1_beLike_12 lk_X1_40 (by decide) rfl rfl 0 0 23 (by omega) (by omega) (by omega) ⟨by decide, by decide⟩ ⟨by decide, by decide⟩ (Nat.le_of_ble_eq_true rfl) ?_
  refine z_eqv (k := 26) (n := 23) (b := false) (ν := zup (zup μ 26 (μ 18)) 27 (μ 27)) rfl (fun q hq => ?_) (fun j hj => ?_) ?_
  · unfold zup; by_cases h27 : q = 27
    · subst h27; rfl
    · simp [hq, h27]
  · show zcpy (μ 18) (μ 26) 0 0 23 j = μ 18 j
    unfold zcpy; rw [if_pos ⟨by omega, by omega⟩]; congr 1; omega
  refine z_iconst K dX1_beLike_15 ?_
  refine z_istore_n (lv' := [(0, .ref (ad 25)), (1, .ref (ad 17)), (2, .int (zi (0 : Int)))]) K dX1_beLike_16 (by decide) rfl ?_
  have L17 : ∀ i, i ≤ 3 → ∀ (a : Nat → Int), (∀ j, j < i → a j = 0) → zV χ 3 ad zSH 0 0 17 [(0, .ref (ad 25)), (1, .ref (ad 17)), (2, .int (zi ((i : Nat) : Int)))] [] (zup (zup μ 26 (μ 18)) 27 a) := by
    refine zfor ?_
    intro i hi ih a ha
    refine z_iload_n K dX1_beLike_17 rfl ?_
    refine z_iconst K dX1_beLike_18 ?_
    refine z_icmpge (tgt := 35) K dX1_beLike_19 (by decide) (by omega) ⟨by decide, by decide⟩ (fun h19 => ?_) (fun h19 => ?_)
    · refine z_eqv (k := 27) (n := 3) (b := false) (ν := zup (zup μ 26 (μ 18)) 27 (fun _ => 0)) rfl (fun q hq => ?_) (fun j hj => ?_) ?_
      · unfold zup; simp [hq]
      · exact ha j (by omega)
      exact z_vretd K T rfl dX1_beLike_35 (by rfl)
    · refine z_aload_n K dX1_beLike_22 rfl ?_
      refine z_get (k := 25) (v := .ref (ad 27)) K dX1_beLike_23 fl_X1_15 rfl rfl rfl ?_
      refine z_iload_n K dX1_beLike_26 rfl ?_
      refine z_iconst K dX1_beLike_27 ?_
      refine z_iast (k := 27) K dX1_beLike_28 i rfl (by decide) (by omega) (by omega) (z_mem (ν := zup (zup μ 26 (μ 18)) 27 (zu1 a i (0 : Int))) (zup_same _ _ _ _) ?_)
      refine z_iincN (lv' := [(0, .ref (ad 25)), (1, .ref (ad 17)), (2, .int (zi ((i + 1 : Nat) : Int)))]) K dX1_beLike_29 rfl (by decide) rfl ?_
      refine z_goto (tgt := 17) K dX1_beLike_32 (by decide) ?_
      exact ih (i + 1) (by omega) (by omega) _ (fun j hj => by
        simp only [zu1]
        split
        · rfl
        · exact ha j (by omega))
  exact L17 0 (by omega) _ (fun j hj => absurd hj (by omega))
