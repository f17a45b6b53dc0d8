set_option maxHeartbeats 4000000 in
set_option maxRecDepth 100000 in
theorem cm_ways (la : Launch) (g0 : zG) (ad : Nat → Nat) (μ : zMem) (m : Nat) (hm : m ≤ 3) : zCon la g0 yX9_ways cX9_ways 3 (some .int) 0 ad zSH [.int (zi ((m : Nat) : Int))] μ (zPd μ ((zfac m : Nat) : Int)) := by
  refine zCon_of (by decide +kernel) (Nat.le_of_ble_eq_true rfl) ?_
  intro χ K T hl1 hg1
  have K : zOk χ cX9_ways RX9 3 0 (some .int) := K
  show zV χ 3 ad zSH 0 0 0 [(0, .int (zi ((m : Nat) : Int)))] [] μ
  refine z_iconst K dX9_ways_0 ?_
  refine z_istore_n (lv' := [(0, .int (zi ((m : Nat) : Int))), (1, .int (zi (1 : Int)))]) K dX9_ways_1 (by decide) rfl ?_
  refine z_iconst K dX9_ways_2 ?_
  refine z_istore_n (lv' := [(0, .int (zi ((m : Nat) : Int))), (1, .int (zi (1 : Int))), (2, .int (zi (2 : Int)))]) K dX9_ways_3 (by decide) rfl ?_
  have L4 : ∀ k, k ≤ 4 → 2 ≤ k ∧ (k ≤ m + 1 ∨ k = 2) → zV χ 3 ad zSH 0 0 4 [(0, .int (zi ((m : Nat) : Int))), (1, .int (zi ((zfac (k - 1) : Nat) : Int))), (2, .int (zi ((k : Nat) : Int)))] [] μ := by
    refine zfor ?_
    intro k hk ih h2
    have hf9 := zfac_rg (k - 1) (by omega)
    refine z_iload_n K dX9_ways_4 rfl ?_
    refine z_iload_n K dX9_ways_5 rfl ?_
    refine z_icmpgt (tgt := 19) K dX9_ways_6 (by decide) (by omega) (by omega) (fun h6 => ?_) (fun h6 => ?_)
    · refine z_iload_n K dX9_ways_19 rfl ?_
      exact z_iretd K T rfl dX9_ways_20 (by rcases (show k - 1 = m ∨ (k = 2 ∧ m = 0) by omega) with e | ⟨e, e2⟩; rw [e]; subst e e2; rfl) rfl
    · refine z_iload_n K dX9_ways_9 rfl ?_
      refine z_iload_n K dX9_ways_10 rfl ?_
      refine z_imul K dX9_ways_11 ?_
      refine z_istore_n (lv' := [(0, .int (zi ((m : Nat) : Int))), (1, .int (zi (((zfac (k - 1) : Nat) : Int) * ((k : Nat) : Int)))), (2, .int (zi ((k : Nat) : Int)))]) K dX9_ways_12 (by decide) rfl ?_
      refine z_iincN (lv' := [(0, .int (zi ((m : Nat) : Int))), (1, .int (zi (((zfac (k - 1) : Nat) : Int) * ((k : Nat) : Int)))), (2, .int (zi ((k + 1 : Nat) : Int)))]) K dX9_ways_13 rfl (by decide) rfl ?_
      refine z_goto (tgt := 4) K dX9_ways_16 (by decide) ?_
      have e9 : ((zfac (k - 1) : Nat) : Int) * ((k : Nat) : Int) = ((zfac (k + 1 - 1) : Nat) : Int) := by
        obtain ⟨j, rfl⟩ : ∃ j, k = j + 1 := ⟨k - 1, by omega⟩
        show ((zfac j : Nat) : Int) * ((j + 1 : Nat) : Int) = (((j + 1) * zfac j : Nat) : Int)
        rw [Int.natCast_mul, Int.mul_comm]
      rw [e9]
      exact ih (k + 1) (by omega) (by omega) (by omega)
  exact L4 2 (by omega) (by omega)
set_option maxHeartbeats 4000000 in
set_option maxRecDepth 100000 in
theorem cm_divisor (la : Launch) (g0 : zG) (ad : Nat → Nat) (μ : zMem) (U : Int) (W : Nat) (hU : zR U ∧ -2147483648 < U) (hW : W < 2147483648) : zCon la g0 yX9_divisor cX9_divisor 5 (some .int) 0 ad zSH [.int (zi U), .int (zi ((W : Nat) : Int))] μ (zPd μ ((Nat.gcd U.natAbs W : Nat) : Int)) := by
  refine zCon_of (by decide +kernel) (Nat.le_of_ble_eq_true rfl) ?_
  intro χ K T hl1 hg1
  have K : zOk χ cX9_divisor RX9 5 0 (some .int) := K
  have hA : ((U.natAbs : Nat) : Int) = U ∨ ((U.natAbs : Nat) : Int) = -U := by omega
  show zV χ 5 ad zSH 0 0 0 [(0, .int (zi U)), (1, .int (zi ((W : Nat) : Int)))] [] μ
  refine z_iload_n K dX9_divisor_0 rfl ?_
  refine z_ifge (tgt := 9) K dX9_divisor_1 (by decide) (by omega) (fun h1 => ?_) (fun h1 => ?_)
  · refine z_iload_n K dX9_divisor_9 rfl ?_
    rw [show U = ((U.natAbs : Nat) : Int) by omega]
    refine z_istore_n (lv' := [(0, .int (zi ((U.natAbs : Nat) : Int))), (1, .int (zi ((W : Nat) : Int))), (2, .int (zi ((U.natAbs : Nat) : Int)))]) K dX9_divisor_10 (by decide) rfl ?_
    refine z_iload_n K dX9_divisor_11 rfl ?_
    refine z_istore_n (lv' := [(0, .int (zi ((U.natAbs : Nat) : Int))), (1, .int (zi ((W : Nat) : Int))), (2, .int (zi ((U.natAbs : Nat) : Int))), (3, .int (zi ((W : Nat) : Int)))]) K dX9_divisor_12 (by decide) rfl ?_
    have L13 : ∀ b, ∀ a : Nat, a < 2147483648 → b < 2147483648 → Nat.gcd a b = Nat.gcd U.natAbs W → zV χ 5 ad zSH 0 0 13 [(2, .int (zi ((a : Nat) : Int))), (3, .int (zi ((b : Nat) : Int)))] [] μ := by
      refine zdown ?_
      intro b ih a ha hb hG
      refine z_iload_n K dX9_divisor_13 rfl ?_
      refine z_ifeq (tgt := 30) K dX9_divisor_14 (by decide) (by omega) (fun h14 => ?_) (fun h14 => ?_)
      · refine z_iload_n K dX9_divisor_30 rfl ?_
        exact z_iretd K T rfl dX9_divisor_31 (by rw [← hG, show b = 0 by omega, Nat.gcd_zero_right]) rfl
      · refine z_iload_n K dX9_divisor_17 rfl ?_
        refine z_iload_n K dX9_divisor_18 rfl ?_
        refine z_irem K dX9_divisor_19 (by omega) (by omega) ?_
        refine z_istore (lv' := [(2, .int (zi ((a : Nat) : Int))), (3, .int (zi ((b : Nat) : Int))), (4, .int (zi (((a : Nat) : Int) % ((b : Nat) : Int))))]) K dX9_divisor_20 (by decide) rfl ?_
        refine z_iload_n K dX9_divisor_22 rfl ?_
        refine z_istore_n (lv' := [(2, .int (zi ((b : Nat) : Int))), (3, .int (zi ((b : Nat) : Int))), (4, .int (zi (((a : Nat) : Int) % ((b : Nat) : Int))))]) K dX9_divisor_23 (by decide) rfl ?_
        refine z_iload K dX9_divisor_24 rfl ?_
        refine z_istore_n (lv' := [(2, .int (zi ((b : Nat) : Int))), (3, .int (zi (((a : Nat) : Int) % ((b : Nat) : Int)))), (4, .int (zi (((a : Nat) : Int) % ((b : Nat) : Int))))]) K dX9_divisor_26 (by decide) rfl ?_
        refine z_goto (tgt := 13) K dX9_divisor_27 (by decide) ?_
        refine z_ipick [0, 1] rfl ?_
        exact ih (a % b) (Nat.mod_lt _ (by omega)) b hb (Nat.lt_trans (Nat.mod_lt _ (by omega)) hb) (by rw [← hG, Nat.gcd_comm a b, Nat.gcd_rec b a, Nat.gcd_comm])
    refine z_ipick [2, 3] rfl ?_
    exact L13 W U.natAbs (by omega) hW rfl
  · refine z_iload_n K dX9_divisor_4 rfl ?_
    refine z_ineg K dX9_divisor_5 ?_
    refine z_goto (tgt := 10) K dX9_divisor_6 (by decide) ?_
    rw [show -U = ((U.natAbs : Nat) : Int) by omega]
    refine z_istore_n (lv' := [(0, .int (zi U)), (1, .int (zi ((W : Nat) : Int))), (2, .int (zi ((U.natAbs : Nat) : Int)))]) K dX9_divisor_10 (by decide) rfl ?_
    refine z_iload_n K dX9_divisor_11 rfl ?_
    refine z_istore_n (lv' := [(0, .int (zi U)), (1, .int (zi ((W : Nat) : Int))), (2, .int (zi ((U.natAbs : Nat) : Int))), (3, .int (zi ((W : Nat) : Int)))]) K dX9_divisor_12 (by decide) rfl ?_
    have L13 : ∀ b, ∀ a : Nat, a < 2147483648 → b < 2147483648 → Nat.gcd a b = Nat.gcd U.natAbs W → zV χ 5 ad zSH 0 0 13 [(2, .int (zi ((a : Nat) : Int))), (3, .int (zi ((b : Nat) : Int)))] [] μ := by
      refine zdown ?_
      intro b ih a ha hb hG
      refine z_iload_n K dX9_divisor_13 rfl ?_
      refine z_ifeq (tgt := 30) K dX9_divisor_14 (by decide) (by omega) (fun h14 => ?_) (fun h14 => ?_)
      · refine z_iload_n K dX9_divisor_30 rfl ?_
        exact z_iretd K T rfl dX9_divisor_31 (by rw [← hG, show b = 0 by omega, Nat.gcd_zero_right]) rfl
      · refine z_iload_n K dX9_divisor_17 rfl ?_
        refine z_iload_n K dX9_divisor_18 rfl ?_
        refine z_irem K dX9_divisor_19 (by omega) (by omega) ?_
        refine z_istore (lv' := [(2, .int (zi ((a : Nat) : Int))), (3, .int (zi ((b : Nat) : Int))), (4, .int (zi (((a : Nat) : Int) % ((b : Nat) : Int))))]) K dX9_divisor_20 (by decide) rfl ?_
        refine z_iload_n K dX9_divisor_22 rfl ?_
        refine z_istore_n (lv' := [(2, .int (zi ((b : Nat) : Int))), (3, .int (zi ((b : Nat) : Int))), (4, .int (zi (((a : Nat) : Int) % ((b : Nat) : Int))))]) K dX9_divisor_23 (by decide) rfl ?_
        refine z_iload K dX9_divisor_24 rfl ?_
        refine z_istore_n (lv' := [(2, .int (zi ((b : Nat) : Int))), (3, .int (zi (((a : Nat) : Int) % ((b : Nat) : Int)))), (4, .int (zi (((a : Nat) : Int) % ((b : Nat) : Int))))]) K dX9_divisor_26 (by decide) rfl ?_
        refine z_goto (tgt := 13) K dX9_divisor_27 (by decide) ?_
        refine z_ipick [0, 1] rfl ?_
        exact ih (a % b) (Nat.mod_lt _ (by omega)) b hb (Nat.lt_trans (Nat.mod_lt _ (by omega)) hb) (by rw [← hG, Nat.gcd_comm a b, Nat.gcd_rec b a, Nat.gcd_comm])
    refine z_ipick [2, 3] rfl ?_
    exact L13 W U.natAbs (by omega) hW rfl
set_option maxHeartbeats 4000000 in
set_option maxRecDepth 100000 in
theorem cm_fraction (la : Launch) (g0 : zG) (ad : Nat → Nat) (μ : zMem) (U : Int) (W : Nat) (q : Int) (hU : zR U ∧ -2147483648 < U) (hW : 1 ≤ W ∧ W < 2147483648) (hq : q = 0 ∨ q = 1) : zCon la g0 yX9_fraction cX9_fraction 4 (some .int) 1 ad zSH [.int (zi U), .int (zi ((W : Nat) : Int)), .int (zi q)] μ (zPd μ (zpart U W q)) := by
  refine zCon_of (by decide +kernel) (Nat.le_of_ble_eq_true rfl) ?_
  intro χ K T hl1 hg1
  have K : zOk χ cX9_fraction RX9 4 1 (some .int) := K
  have hgc1 : 1 ≤ Nat.gcd U.natAbs W := Nat.gcd_pos_of_pos_right _ (by omega)
  have hgc2 : Nat.gcd U.natAbs W ≤ W := Nat.gcd_le_right _ (by omega)
  show zV χ 4 ad zSH 0 0 0 [(0, .int (zi U)), (1, .int (zi ((W : Nat) : Int))), (2, .int (zi q))] [] μ
  refine z_iload_n K dX9_fraction_0 rfl ?_
  refine z_iload_n K dX9_fraction_1 rfl ?_
  refine z_callSd K hl1 hg1 (As := [.int (zi U), .int (zi ((W : Nat) : Int))]) (rest := []) (cm_divisor la g0 ad μ U W hU (by omega)) (by decide) lk_X9_228 cd_X9_divisor rfl rfl (Nat.le_of_ble_eq_true rfl) dX9_fraction_2 ?_
  refine z_istore_n (lv' := [(0, .int (zi U)), (1, .int (zi ((W : Nat) : Int))), (2, .int (zi q)), (3, .int (zi ((Nat.gcd U.natAbs W : Nat) : Int)))]) K dX9_fraction_5 (by decide) rfl ?_
  refine z_iload_n K dX9_fraction_6 rfl ?_
  refine z_ifeq (tgt := 16) K dX9_fraction_7 (by decide) (by omega) (fun h7 => ?_) (fun h7 => ?_)
  · refine z_iload_n K dX9_fraction_16 rfl ?_
    refine z_iload_n K dX9_fraction_17 rfl ?_
    refine z_idivT K dX9_fraction_18 (by omega) (by omega) (by omega) ?_
    exact z_iretd K T rfl dX9_fraction_19 (by unfold zpart; rw [if_pos (by omega)]) rfl
  · refine z_iload_n K dX9_fraction_10 rfl ?_
    refine z_iload_n K dX9_fraction_11 rfl ?_
    refine z_idivT K dX9_fraction_12 (by omega) (by omega) (by omega) ?_
    refine z_goto (tgt := 19) K dX9_fraction_13 (by decide) ?_
    exact z_iretd K T rfl dX9_fraction_19 (by unfold zpart; rw [if_neg (by omega)]) rfl
