set_option maxHeartbeats 4000000 in
set_option maxRecDepth 100000 in
/-- Hall.who: the letters of a fate, as bits -/
theorem ct_who_n (la : Launch) (g0 : zG) (ad : Nat → Nat) (μ : zMem) (n : Nat) (hn : μ 10 0 = (n : Int)) (hn6 : n ≤ 6) (fa : Nat → Int) (hfa : ∀ l, l < n → μ 18 (12 + l) = fa l) (hr : ∀ l, l < n → 0 ≤ fa l ∧ fa l ≤ 3) (f : Int) (hf : zR f) : zCon la g0 yX1_who cX1_who 4 (some .int) 0 ad zSH [.ref (ad 17), .int (zi f)] μ (zPd μ ((zwho fa f n : Nat) : Int)) := by
  refine zCon_of (by decide +kernel) (Nat.le_of_ble_eq_true rfl) ?_
  intro χ K T hl1 hg1
  have K : zOk χ cX1_who RX1 4 0 (some .int) := K
  show zV χ 4 ad zSH 0 0 0 [(0, .ref (ad 17)), (1, .int (zi f))] [] μ
  refine z_iconst K dX1_who_0 ?_
  refine z_istore_n (lv' := [(0, .ref (ad 17)), (1, .int (zi f)), (2, .int (zi (0 : Int)))]) K dX1_who_1 (by decide) rfl ?_
  refine z_iconst K dX1_who_2 ?_
  refine z_istore_n (lv' := [(0, .ref (ad 17)), (1, .int (zi f)), (2, .int (zi (0 : Int))), (3, .int (zi (0 : Int)))]) K dX1_who_3 (by decide) rfl ?_
  have L4 : ∀ l, l ≤ n → zV χ 4 ad zSH 0 0 4 [(0, .ref (ad 17)), (1, .int (zi f)), (2, .int (zi ((zwho fa f l : Nat) : Int))), (3, .int (zi ((l : Nat) : Int)))] [] μ := by
    refine zfor ?_
    intro l hl ih
    refine z_iload_n K dX1_who_4 rfl ?_
    refine z_aload_n K dX1_who_5 rfl ?_
    refine z_get (k := 17) (v := .ref (ad 10)) K dX1_who_6 fl_X1_18 rfl rfl rfl ?_
    refine z_get (k := 10) (v := .int (zi (μ 10 0))) K dX1_who_9 fl_X1_22 rfl rfl rfl ?_
    refine z_icmpge (tgt := 40) K dX1_who_12 (by decide) (by omega) (by omega) (fun h12 => ?_) (fun h12 => ?_)
    · refine z_iload_n K dX1_who_40 rfl ?_
      exact z_iretd K T rfl dX1_who_41 (by rw [show l = n by omega]) rfl
    · have hfl := hr l (by omega)
      refine z_aload_n K dX1_who_15 rfl ?_
      refine z_get (k := 17) (v := .ref (ad 18)) K dX1_who_16 fl_X1_11 rfl rfl rfl ?_
      refine z_bipush K dX1_who_19 (by decide +kernel) ?_
      refine z_iload_n K dX1_who_21 rfl ?_
      refine z_iadd K dX1_who_22 ?_
      refine z_iald (k := 18) (v := fa l) K dX1_who_23 (12 + l) rfl (by decide) (by omega) (by omega) (hfa l (by omega)) ?_
      refine z_iload_n K dX1_who_24 rfl ?_
      refine z_icmpne (tgt := 34) K dX1_who_25 (by decide) (by omega) (by omega) (fun h25 => ?_) (fun h25 => ?_)
      · refine z_iincN (lv' := [(0, .ref (ad 17)), (1, .int (zi f)), (2, .int (zi ((zwho fa f l : Nat) : Int))), (3, .int (zi ((l + 1 : Nat) : Int)))]) K dX1_who_34 rfl (by decide) rfl ?_
        refine z_goto (tgt := 4) K dX1_who_37 (by decide) ?_
        have e9 : zwho fa f l = zwho fa f (l + 1) := by simp [zwho, h25]
        rw [e9]
        exact ih (l + 1) (by omega) (by omega)
      · refine z_iload_n K dX1_who_28 rfl ?_
        refine z_iconst K dX1_who_29 ?_
        refine z_iload_n K dX1_who_30 rfl ?_
        refine z_ishlR (z := zi ((2 ^ l : Nat) : Int)) K dX1_who_31 (zb_shl l (by omega)) ?_
        refine z_iorR (z := zi ((zwho fa f l ||| 2 ^ l : Nat) : Int)) K dX1_who_32 (zb_or _ _) ?_
        refine z_istore_n (lv' := [(0, .ref (ad 17)), (1, .int (zi f)), (2, .int (zi ((zwho fa f l ||| 2 ^ l : Nat) : Int))), (3, .int (zi ((l : Nat) : Int)))]) K dX1_who_33 (by decide) rfl ?_
        refine z_iincN (lv' := [(0, .ref (ad 17)), (1, .int (zi f)), (2, .int (zi ((zwho fa f l ||| 2 ^ l : Nat) : Int))), (3, .int (zi ((l + 1 : Nat) : Int)))]) K dX1_who_34 rfl (by decide) rfl ?_
        refine z_goto (tgt := 4) K dX1_who_37 (by decide) ?_
        have e9 : zwho fa f l ||| 2 ^ l = zwho fa f (l + 1) := by simp [zwho, h25]
        rw [e9]
        exact ih (l + 1) (by omega) (by omega)
  exact L4 0 (by omega)
set_option maxHeartbeats 4000000 in
set_option maxRecDepth 100000 in
/-- Hall.who: the letters of a fate, as bits -/
theorem ct_who_t (la : Launch) (g0 : zG) (ad : Nat → Nat) (μ : zMem) (n : Nat) (hn : μ 10 0 = (n : Int)) (hn6 : n ≤ 6) (fa : Nat → Int) (hfa : ∀ l, l < n → μ 26 (12 + l) = fa l) (hr : ∀ l, l < n → 0 ≤ fa l ∧ fa l ≤ 3) (f : Int) (hf : zR f) : zCon la g0 yX1_who cX1_who 4 (some .int) 0 ad zSH [.ref (ad 25), .int (zi f)] μ (zPd μ ((zwho fa f n : Nat) : Int)) := by
  refine zCon_of (by decide +kernel) (Nat.le_of_ble_eq_true rfl) ?_
  intro χ K T hl1 hg1
  have K : zOk χ cX1_who RX1 4 0 (some .int) := K
  show zV χ 4 ad zSH 0 0 0 [(0, .ref (ad 25)), (1, .int (zi f))] [] μ
  refine z_iconst K dX1_who_0 ?_
  refine z_istore_n (lv' := [(0, .ref (ad 25)), (1, .int (zi f)), (2, .int (zi (0 : Int)))]) K dX1_who_1 (by decide) rfl ?_
  refine z_iconst K dX1_who_2 ?_
  refine z_istore_n (lv' := [(0, .ref (ad 25)), (1, .int (zi f)), (2, .int (zi (0 : Int))), (3, .int (zi (0 : Int)))]) K dX1_who_3 (by decide) rfl ?_
  have L4 : ∀ l, l ≤ n → zV χ 4 ad zSH 0 0 4 [(0, .ref (ad 25)), (1, .int (zi f)), (2, .int (zi ((zwho fa f l : Nat) : Int))), (3, .int (zi ((l : Nat) : Int)))] [] μ := by
    refine zfor ?_
    intro l hl ih
    refine z_iload_n K dX1_who_4 rfl ?_
    refine z_aload_n K dX1_who_5 rfl ?_
    refine z_get (k := 25) (v := .ref (ad 10)) K dX1_who_6 fl_X1_18 rfl rfl rfl ?_
    refine z_get (k := 10) (v := .int (zi (μ 10 0))) K dX1_who_9 fl_X1_22 rfl rfl rfl ?_
    refine z_icmpge (tgt := 40) K dX1_who_12 (by decide) (by omega) (by omega) (fun h12 => ?_) (fun h12 => ?_)
    · refine z_iload_n K dX1_who_40 rfl ?_
      exact z_iretd K T rfl dX1_who_41 (by rw [show l = n by omega]) rfl
    · have hfl := hr l (by omega)
      refine z_aload_n K dX1_who_15 rfl ?_
      refine z_get (k := 25) (v := .ref (ad 26)) K dX1_who_16 fl_X1_11 rfl rfl rfl ?_
      refine z_bipush K dX1_who_19 (by decide +kernel) ?_
      refine z_iload_n K dX1_who_21 rfl ?_
      refine z_iadd K dX1_who_22 ?_
      refine z_iald (k := 26) (v := fa l) K dX1_who_23 (12 + l) rfl (by decide) (by omega) (by omega) (hfa l (by omega)) ?_
      refine z_iload_n K dX1_who_24 rfl ?_
      refine z_icmpne (tgt := 34) K dX1_who_25 (by decide) (by omega) (by omega) (fun h25 => ?_) (fun h25 => ?_)
      · refine z_iincN (lv' := [(0, .ref (ad 25)), (1, .int (zi f)), (2, .int (zi ((zwho fa f l : Nat) : Int))), (3, .int (zi ((l + 1 : Nat) : Int)))]) K dX1_who_34 rfl (by decide) rfl ?_
        refine z_goto (tgt := 4) K dX1_who_37 (by decide) ?_
        have e9 : zwho fa f l = zwho fa f (l + 1) := by simp [zwho, h25]
        rw [e9]
        exact ih (l + 1) (by omega) (by omega)
      · refine z_iload_n K dX1_who_28 rfl ?_
        refine z_iconst K dX1_who_29 ?_
        refine z_iload_n K dX1_who_30 rfl ?_
        refine z_ishlR (z := zi ((2 ^ l : Nat) : Int)) K dX1_who_31 (zb_shl l (by omega)) ?_
        refine z_iorR (z := zi ((zwho fa f l ||| 2 ^ l : Nat) : Int)) K dX1_who_32 (zb_or _ _) ?_
        refine z_istore_n (lv' := [(0, .ref (ad 25)), (1, .int (zi f)), (2, .int (zi ((zwho fa f l ||| 2 ^ l : Nat) : Int))), (3, .int (zi ((l : Nat) : Int)))]) K dX1_who_33 (by decide) rfl ?_
        refine z_iincN (lv' := [(0, .ref (ad 25)), (1, .int (zi f)), (2, .int (zi ((zwho fa f l ||| 2 ^ l : Nat) : Int))), (3, .int (zi ((l + 1 : Nat) : Int)))]) K dX1_who_34 rfl (by decide) rfl ?_
        refine z_goto (tgt := 4) K dX1_who_37 (by decide) ?_
        have e9 : zwho fa f l ||| 2 ^ l = zwho fa f (l + 1) := by simp [zwho, h25]
        rw [e9]
        exact ih (l + 1) (by omega) (by omega)
  exact L4 0 (by omega)
