def zrin (f : Nat → Int) (x : Int) : Nat → Nat
  | 0 => 0
  | k + 1 => zrin f x k + (if f (3 * k) = x then 1 else 0)
theorem zrin_s (f : Nat → Int) (x : Int) (k : Nat) : zrin f x (k + 1) = zrin f x k + (if f (3 * k) = x then 1 else 0) := rfl
theorem zrin_le (f : Nat → Int) (x : Int) : ∀ k, zrin f x k ≤ k := by
  intro k
  induction k with
  | zero => exact Nat.le_refl _
  | succ k ih => rw [zrin_s]; split <;> omega
set_option maxHeartbeats 4000000 in
set_option maxRecDepth 100000 in
theorem cm_readIn (la : Launch) (g0 : zG) (ad : Nat → Nat) (μ : zMem) (r : Nat) (hr : μ 39 10 = (r : Int)) (hr6 : r ≤ 6) (hv : ∀ l, l < r → 0 ≤ μ 44 (3 * l) ∧ μ 44 (3 * l) ≤ 11) (x : Int) (hx : zR x) : zCon la g0 yX9_readIn cX9_readIn 4 (some .int) 0 ad zSH [.ref (ad 39), .int (zi x)] μ (zPd μ ((zrin (μ 44) x r : Nat) : Int)) := by
  refine zCon_of (by decide +kernel) (Nat.le_of_ble_eq_true rfl) ?_
  intro χ K T hl1 hg1
  have K : zOk χ cX9_readIn RX9 4 0 (some .int) := K
  show zV χ 4 ad zSH 0 0 0 [(0, .ref (ad 39)), (1, .int (zi x))] [] μ
  refine z_iconst K dX9_readIn_0 ?_
  refine z_istore_n (lv' := [(0, .ref (ad 39)), (1, .int (zi x)), (2, .int (zi (0 : Int)))]) K dX9_readIn_1 (by decide) rfl ?_
  refine z_iconst K dX9_readIn_2 ?_
  refine z_istore_n (lv' := [(0, .ref (ad 39)), (1, .int (zi x)), (2, .int (zi (0 : Int))), (3, .int (zi (0 : Int)))]) K dX9_readIn_3 (by decide) rfl ?_
  have L4 : ∀ k, k ≤ r → zV χ 4 ad zSH 0 0 4 [(0, .ref (ad 39)), (1, .int (zi x)), (2, .int (zi ((zrin (μ 44) x k : Nat) : Int))), (3, .int (zi ((k : Nat) : Int)))] [] μ := by
    refine zfor ?_
    intro k hk ih
    have hle := zrin_le (μ 44) x k
    refine z_iload_n K dX9_readIn_4 rfl ?_
    refine z_aload_n K dX9_readIn_5 rfl ?_
    refine z_get (k := 39) (v := .int (zi (μ 39 10))) K dX9_readIn_6 fl_X9_81 rfl rfl rfl ?_
    rw [show (μ 39 10) = ((r : Nat) : Int) from hr]
    refine z_icmpge (tgt := 38) K dX9_readIn_9 (by decide) (by omega) (by omega) (fun h9 => ?_) (fun h9 => ?_)
    · refine z_iload_n K dX9_readIn_38 rfl ?_
      exact z_iretd K T rfl dX9_readIn_39 (by rw [show k = r by omega]) rfl
    · have hvk := hv k (by omega)
      refine z_iload_n K dX9_readIn_12 rfl ?_
      refine z_aload_n K dX9_readIn_13 rfl ?_
      refine z_get (k := 39) (v := .ref (ad 44)) K dX9_readIn_14 fl_X9_22 rfl rfl rfl ?_
      refine z_iconst K dX9_readIn_17 ?_
      refine z_iload_n K dX9_readIn_18 rfl ?_
      refine z_imul K dX9_readIn_19 ?_
      refine z_iald (k := 44) (v := μ 44 (3 * k)) K dX9_readIn_20 (3 * k) rfl (by decide) (by omega) (by omega) rfl ?_
      refine z_iload_n K dX9_readIn_21 rfl ?_
      refine z_icmpne (tgt := 29) K dX9_readIn_22 (by decide) (by omega) (by omega) (fun h22 => ?_) (fun h22 => ?_)
      · refine z_iconst K dX9_readIn_29 ?_
        refine z_iadd K dX9_readIn_30 ?_
        refine z_istore_n (lv' := [(0, .ref (ad 39)), (1, .int (zi x)), (2, .int (zi (((zrin (μ 44) x k : Nat) : Int) + (0 : Int)))), (3, .int (zi ((k : Nat) : Int)))]) K dX9_readIn_31 (by decide) rfl ?_
        refine z_iincN (lv' := [(0, .ref (ad 39)), (1, .int (zi x)), (2, .int (zi (((zrin (μ 44) x k : Nat) : Int) + (0 : Int)))), (3, .int (zi ((k + 1 : Nat) : Int)))]) K dX9_readIn_32 rfl (by decide) rfl ?_
        refine z_goto (tgt := 4) K dX9_readIn_35 (by decide) ?_
        have e9 : ((zrin (μ 44) x k : Nat) : Int) + (0 : Int) = ((zrin (μ 44) x (k + 1) : Nat) : Int) := by
          rw [zrin_s]
          split <;> omega
        rw [e9]
        exact ih (k + 1) (by omega) (by omega)
      · refine z_iconst K dX9_readIn_25 ?_
        refine z_goto (tgt := 30) K dX9_readIn_26 (by decide) ?_
        refine z_iadd K dX9_readIn_30 ?_
        refine z_istore_n (lv' := [(0, .ref (ad 39)), (1, .int (zi x)), (2, .int (zi (((zrin (μ 44) x k : Nat) : Int) + (1 : Int)))), (3, .int (zi ((k : Nat) : Int)))]) K dX9_readIn_31 (by decide) rfl ?_
        refine z_iincN (lv' := [(0, .ref (ad 39)), (1, .int (zi x)), (2, .int (zi (((zrin (μ 44) x k : Nat) : Int) + (1 : Int)))), (3, .int (zi ((k + 1 : Nat) : Int)))]) K dX9_readIn_32 rfl (by decide) rfl ?_
        refine z_goto (tgt := 4) K dX9_readIn_35 (by decide) ?_
        have e9 : ((zrin (μ 44) x k : Nat) : Int) + (1 : Int) = ((zrin (μ 44) x (k + 1) : Nat) : Int) := by
          rw [zrin_s]
          split <;> omega
        rw [e9]
        exact ih (k + 1) (by omega) (by omega)
  exact L4 0 (Nat.zero_le _)
