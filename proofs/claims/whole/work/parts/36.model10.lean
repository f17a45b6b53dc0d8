set_option maxHeartbeats 4000000 in
set_option maxRecDepth 100000 in
theorem cm_write (la : Launch) (g0 : zG) (ad : Nat → Nat) (μ : zMem) (t : Nat) (ht : μ 39 2 = (t : Int)) (ht48 : t ≤ 48) (x : Int) (hx : zR x) : zCon la g0 yX9_write cX9_write 2 (some .int) 1 ad zSH [.ref (ad 39), .int (zi x)] μ (zPi (fun r ν => r = (if 0 ≤ x ∧ x ≤ 255 then (if t < 48 then (t : Int) + 1 else -4) else -2) ∧ ((0 ≤ x ∧ x ≤ 255 ∧ t < 48) ∧ ν = zup (zup μ 39 (zu1 (zu1 (μ 39) 0 (0 : Int)) 2 ((t : Int) + 1))) 40 (zu1 (μ 40) t x) ∨ ¬ (0 ≤ x ∧ x ≤ 255 ∧ t < 48) ∧ ν = zup (zup μ 39 (zu1 (μ 39) 0 (0 : Int))) 40 (μ 40)))) := by
  refine zCon_of (by decide +kernel) (Nat.le_of_ble_eq_true rfl) ?_
  intro χ K T hl1 hg1
  have K : zOk χ cX9_write RX9 2 1 (some .int) := K
  refine z_mem (ν := zup (zup μ 39 (μ 39)) 40 (μ 40)) (zup_id2 μ 39 40 (by decide)) ?_
  show zV χ 2 ad zSH 0 0 0 [(0, .ref (ad 39)), (1, .int (zi x))] [] (zup (zup μ 39 (μ 39)) 40 (μ 40))
  refine z_aload_n K dX9_write_0 rfl ?_
  refine z_iconst K dX9_write_1 ?_
  refine z_puti (k := 39) K dX9_write_2 fp_X9_59 rfl rfl (z_mem (ν := zup (zup μ 39 (zu1 (μ 39) 0 (0 : Int))) 40 (μ 40)) (zup_sw _ (by decide) _ _ _) ?_)
  refine z_iload_n K dX9_write_5 rfl ?_
  refine z_i2l K dX9_write_6 (by omega) ?_
  refine z_lconst (z := 0) K dX9_write_7 rfl ?_
  refine z_ldc2 (z := 255) K dX9_write_8 kc_X9_73 rfl ?_
  refine z_callSd K hl1 hg1 (As := [.long (zl x), .long (zl (0 : Int)), .long (zl (255 : Int))]) (rest := []) (cm_in la g0 ad (zup (zup μ 39 (zu1 (μ 39) 0 (0 : Int))) 40 (μ 40)) x (0 : Int) (255 : Int) ⟨by omega, by omega⟩ ⟨by decide, by decide⟩ ⟨by decide, by decide⟩) (by decide) lk_X9_66 cd_X9_in rfl rfl (Nat.le_of_ble_eq_true rfl) dX9_write_11 ?_
  show zV χ 2 ad zSH 0 0 14 [(0, .ref (ad 39)), (1, .int (zi x))] [.int (zi (if (0 : Int) ≤ x ∧ x ≤ (255 : Int) then 1 else 0))] (zup (zup μ 39 (zu1 (μ 39) 0 (0 : Int))) 40 (μ 40))
  refine z_ifne (tgt := 20) K dX9_write_14 (by decide) (by omega) (fun h14 => ?_) (fun h14 => ?_)
  · refine z_aload_n K dX9_write_20 rfl ?_
    refine z_get (k := 39) (v := .int (zi ((zu1 (μ 39) 0 (0 : Int)) 2))) K dX9_write_21 fl_X9_75 rfl rfl rfl ?_
    rw [show ((zu1 (μ 39) 0 (0 : Int)) 2) = ((t : Nat) : Int) from ht]
    refine z_bipush K dX9_write_24 (by decide +kernel) ?_
    refine z_icmpne (tgt := 32) K dX9_write_26 (by decide) (by omega) ⟨by decide, by decide⟩ (fun h26 => ?_) (fun h26 => ?_)
    · refine z_aload_n K dX9_write_32 rfl ?_
      refine z_get (k := 39) (v := .ref (ad 40)) K dX9_write_33 fl_X9_7 rfl rfl rfl ?_
      refine z_aload_n K dX9_write_36 rfl ?_
      refine z_get (k := 39) (v := .int (zi ((zu1 (μ 39) 0 (0 : Int)) 2))) K dX9_write_37 fl_X9_75 rfl rfl rfl ?_
      rw [show ((zu1 (μ 39) 0 (0 : Int)) 2) = ((t : Nat) : Int) from ht]
      refine z_iload_n K dX9_write_40 rfl ?_
      refine z_iast (k := 40) K dX9_write_41 t rfl (by decide) (by omega) (by omega) (z_mem (ν := zup (zup μ 39 (zu1 (μ 39) 0 (0 : Int))) 40 (zu1 (μ 40) t x)) (zup_same _ _ _ _) ?_)
      refine z_aload_n K dX9_write_42 rfl ?_
      refine z_dup K dX9_write_43 rfl ?_
      refine z_get (k := 39) (v := .int (zi ((zu1 (μ 39) 0 (0 : Int)) 2))) K dX9_write_44 fl_X9_75 rfl rfl rfl ?_
      rw [show ((zu1 (μ 39) 0 (0 : Int)) 2) = ((t : Nat) : Int) from ht]
      refine z_iconst K dX9_write_47 ?_
      refine z_iadd K dX9_write_48 ?_
      refine z_puti (k := 39) K dX9_write_49 fp_X9_75 rfl rfl (z_mem (ν := zup (zup μ 39 (zu1 (zu1 (μ 39) 0 (0 : Int)) 2 (((t : Nat) : Int) + (1 : Int)))) 40 (zu1 (μ 40) t x)) (zup_sw _ (by decide) _ _ _) ?_)
      refine z_aload_n K dX9_write_52 rfl ?_
      refine z_get (k := 39) (v := .int (zi ((zu1 (zu1 (μ 39) 0 (0 : Int)) 2 (((t : Nat) : Int) + (1 : Int))) 2))) K dX9_write_53 fl_X9_75 rfl rfl rfl ?_
      rw [show ((zu1 (zu1 (μ 39) 0 (0 : Int)) 2 (((t : Nat) : Int) + (1 : Int))) 2) = ((t : Nat) : Int) + 1 from rfl]
      exact z_ireti K T rfl dX9_write_56 ⟨by omega, Or.inl ⟨by omega, rfl⟩⟩
    · refine z_bipush K dX9_write_29 (by decide +kernel) ?_
      exact z_ireti K T rfl dX9_write_31 ⟨by omega, Or.inr ⟨by omega, rfl⟩⟩
  · refine z_bipush K dX9_write_17 (by decide +kernel) ?_
    exact z_ireti K T rfl dX9_write_19 ⟨by omega, Or.inr ⟨by omega, rfl⟩⟩
set_option maxHeartbeats 4000000 in
set_option maxRecDepth 100000 in
theorem cm_wipe (la : Launch) (g0 : zG) (ad : Nat → Nat) (μ : zMem)  : zCon la g0 yX9_wipe cX9_wipe 2 (some .int) 0 ad zSH [.ref (ad 39)] μ (zPd (zup μ 39 (zu1 (zu1 (μ 39) 0 (0 : Int)) 2 0)) (μ 39 2)) := by
  refine zCon_of (by decide +kernel) (Nat.le_of_ble_eq_true rfl) ?_
  intro χ K T hl1 hg1
  have K : zOk χ cX9_wipe RX9 2 0 (some .int) := K
  refine z_mem (ν := zup μ 39 (μ 39)) (zup_id μ 39) ?_
  show zV χ 2 ad zSH 0 0 0 [(0, .ref (ad 39))] [] (zup μ 39 (μ 39))
  refine z_aload_n K dX9_wipe_0 rfl ?_
  refine z_iconst K dX9_wipe_1 ?_
  refine z_puti (k := 39) K dX9_wipe_2 fp_X9_59 rfl rfl (z_mem (ν := zup μ 39 (zu1 (μ 39) 0 (0 : Int))) (zup_same _ _ _ _) ?_)
  refine z_aload_n K dX9_wipe_5 rfl ?_
  refine z_get (k := 39) (v := .int (zi ((zu1 (μ 39) 0 (0 : Int)) 2))) K dX9_wipe_6 fl_X9_75 rfl rfl rfl ?_
  rw [show ((zu1 (μ 39) 0 (0 : Int)) 2) = μ 39 2 from rfl]
  refine z_istore_n (lv' := [(0, .ref (ad 39)), (1, .int (zi (μ 39 2)))]) K dX9_wipe_9 (by decide) rfl ?_
  refine z_aload_n K dX9_wipe_10 rfl ?_
  refine z_iconst K dX9_wipe_11 ?_
  refine z_puti (k := 39) K dX9_wipe_12 fp_X9_75 rfl rfl (z_mem (ν := zup μ 39 (zu1 (zu1 (μ 39) 0 (0 : Int)) 2 (0 : Int))) (zup_same _ _ _ _) ?_)
  refine z_iload_n K dX9_wipe_15 rfl ?_
  exact z_iretd K T rfl dX9_wipe_16 rfl rfl
set_option maxHeartbeats 4000000 in
set_option maxRecDepth 100000 in
theorem cm_untell (la : Launch) (g0 : zG) (ad : Nat → Nat) (μ : zMem)  : zCon la g0 yX9_untell cX9_untell 2 (some .int) 0 ad zSH [.ref (ad 39)] μ (zPd (zup μ 39 (zu1 (zu1 (μ 39) 0 (0 : Int)) 20 0)) (μ 39 20)) := by
  refine zCon_of (by decide +kernel) (Nat.le_of_ble_eq_true rfl) ?_
  intro χ K T hl1 hg1
  have K : zOk χ cX9_untell RX9 2 0 (some .int) := K
  refine z_mem (ν := zup μ 39 (μ 39)) (zup_id μ 39) ?_
  show zV χ 2 ad zSH 0 0 0 [(0, .ref (ad 39))] [] (zup μ 39 (μ 39))
  refine z_aload_n K dX9_untell_0 rfl ?_
  refine z_iconst K dX9_untell_1 ?_
  refine z_puti (k := 39) K dX9_untell_2 fp_X9_59 rfl rfl (z_mem (ν := zup μ 39 (zu1 (μ 39) 0 (0 : Int))) (zup_same _ _ _ _) ?_)
  refine z_aload_n K dX9_untell_5 rfl ?_
  refine z_get (k := 39) (v := .int (zi ((zu1 (μ 39) 0 (0 : Int)) 20))) K dX9_untell_6 fl_X9_161 rfl rfl rfl ?_
  rw [show ((zu1 (μ 39) 0 (0 : Int)) 20) = μ 39 20 from rfl]
  refine z_istore_n (lv' := [(0, .ref (ad 39)), (1, .int (zi (μ 39 20)))]) K dX9_untell_9 (by decide) rfl ?_
  refine z_aload_n K dX9_untell_10 rfl ?_
  refine z_iconst K dX9_untell_11 ?_
  refine z_puti (k := 39) K dX9_untell_12 fp_X9_161 rfl rfl (z_mem (ν := zup μ 39 (zu1 (zu1 (μ 39) 0 (0 : Int)) 20 (0 : Int))) (zup_same _ _ _ _) ?_)
  refine z_iload_n K dX9_untell_15 rfl ?_
  exact z_iretd K T rfl dX9_untell_16 rfl rfl
set_option maxHeartbeats 4000000 in
set_option maxRecDepth 100000 in
theorem cm_tell (la : Launch) (g0 : zG) (ad : Nat → Nat) (μ : zMem) (t : Nat) (ht : μ 39 20 = (t : Int)) (ht6 : t ≤ 6) (x y : Int) (hx : zR x) (hy : zR y) : zCon la g0 yX9_tell cX9_tell 3 (some .int) 1 ad zSH [.ref (ad 39), .int (zi x), .int (zi y)] μ (zPi (fun r ν => r = (if (0 ≤ x ∧ x ≤ 9) ∧ 0 ≤ y ∧ y ≤ 1 then (if t < 6 then (t : Int) + 1 else -4) else -2) ∧ ((((0 ≤ x ∧ x ≤ 9) ∧ 0 ≤ y ∧ y ≤ 1) ∧ t < 6) ∧ ν = zup (zup (zup μ 39 (zu1 (zu1 (μ 39) 0 (0 : Int)) 20 ((t : Int) + 1))) 51 (zu1 (μ 51) t x)) 52 (zu1 (μ 52) t y) ∨ ¬ (((0 ≤ x ∧ x ≤ 9) ∧ 0 ≤ y ∧ y ≤ 1) ∧ t < 6) ∧ ν = zup (zup (zup μ 39 (zu1 (μ 39) 0 (0 : Int))) 51 (μ 51)) 52 (μ 52)))) := by
  refine zCon_of (by decide +kernel) (Nat.le_of_ble_eq_true rfl) ?_
  intro χ K T hl1 hg1
  have K : zOk χ cX9_tell RX9 3 1 (some .int) := K
  refine z_mem (ν := zup (zup (zup μ 39 (μ 39)) 51 (μ 51)) 52 (μ 52)) (zup_id3 μ 39 51 52 (by decide) (by decide) (by decide)) ?_
  show zV χ 3 ad zSH 0 0 0 [(0, .ref (ad 39)), (1, .int (zi x)), (2, .int (zi y))] [] (zup (zup (zup μ 39 (μ 39)) 51 (μ 51)) 52 (μ 52))
  refine z_aload_n K dX9_tell_0 rfl ?_
  refine z_iconst K dX9_tell_1 ?_
  refine z_puti (k := 39) K dX9_tell_2 fp_X9_59 rfl rfl (z_mem (ν := zup (zup (zup μ 39 (zu1 (μ 39) 0 (0 : Int))) 51 (μ 51)) 52 (μ 52)) (zup_sw3 _ (by decide) (by decide) _ _ _ _) ?_)
  refine z_iload_n K dX9_tell_5 rfl ?_
  refine z_i2l K dX9_tell_6 (by omega) ?_
  refine z_lconst (z := 0) K dX9_tell_7 rfl ?_
  refine z_ldc2 (z := 9) K dX9_tell_8 kc_X9_180 rfl ?_
  refine z_callSd K hl1 hg1 (As := [.long (zl x), .long (zl (0 : Int)), .long (zl (9 : Int))]) (rest := []) (cm_in la g0 ad (zup (zup (zup μ 39 (zu1 (μ 39) 0 (0 : Int))) 51 (μ 51)) 52 (μ 52)) x (0 : Int) (9 : Int) ⟨by omega, by omega⟩ ⟨by decide, by decide⟩ ⟨by decide, by decide⟩) (by decide) lk_X9_66 cd_X9_in rfl rfl (Nat.le_of_ble_eq_true rfl) dX9_tell_11 ?_
  show zV χ 3 ad zSH 0 0 14 [(0, .ref (ad 39)), (1, .int (zi x)), (2, .int (zi y))] [.int (zi (if (0 : Int) ≤ x ∧ x ≤ (9 : Int) then 1 else 0))] (zup (zup (zup μ 39 (zu1 (μ 39) 0 (0 : Int))) 51 (μ 51)) 52 (μ 52))
  refine z_ifeq (tgt := 27) K dX9_tell_14 (by decide) (by omega) (fun h14 => ?_) (fun h14 => ?_)
  · refine z_bipush K dX9_tell_27 (by decide +kernel) ?_
    exact z_ireti K T rfl dX9_tell_29 ⟨by omega, Or.inr ⟨by omega, rfl⟩⟩
  · refine z_iload_n K dX9_tell_17 rfl ?_
    refine z_i2l K dX9_tell_18 (by omega) ?_
    refine z_lconst (z := 0) K dX9_tell_19 rfl ?_
    refine z_lconst (z := 1) K dX9_tell_20 rfl ?_
    refine z_callSd K hl1 hg1 (As := [.long (zl y), .long (zl (0 : Int)), .long (zl (1 : Int))]) (rest := []) (cm_in la g0 ad (zup (zup (zup μ 39 (zu1 (μ 39) 0 (0 : Int))) 51 (μ 51)) 52 (μ 52)) y (0 : Int) (1 : Int) ⟨by omega, by omega⟩ ⟨by decide, by decide⟩ ⟨by decide, by decide⟩) (by decide) lk_X9_66 cd_X9_in rfl rfl (Nat.le_of_ble_eq_true rfl) dX9_tell_21 ?_
    show zV χ 3 ad zSH 0 0 24 [(0, .ref (ad 39)), (1, .int (zi x)), (2, .int (zi y))] [.int (zi (if (0 : Int) ≤ y ∧ y ≤ (1 : Int) then 1 else 0))] (zup (zup (zup μ 39 (zu1 (μ 39) 0 (0 : Int))) 51 (μ 51)) 52 (μ 52))
    refine z_ifne (tgt := 30) K dX9_tell_24 (by decide) (by omega) (fun h24 => ?_) (fun h24 => ?_)
    · refine z_aload_n K dX9_tell_30 rfl ?_
      refine z_get (k := 39) (v := .int (zi ((zu1 (μ 39) 0 (0 : Int)) 20))) K dX9_tell_31 fl_X9_161 rfl rfl rfl ?_
      rw [show ((zu1 (μ 39) 0 (0 : Int)) 20) = ((t : Nat) : Int) from ht]
      refine z_bipush K dX9_tell_34 (by decide +kernel) ?_
      refine z_icmpne (tgt := 42) K dX9_tell_36 (by decide) (by omega) ⟨by decide, by decide⟩ (fun h36 => ?_) (fun h36 => ?_)
      · refine z_aload_n K dX9_tell_42 rfl ?_
        refine z_get (k := 39) (v := .ref (ad 51)) K dX9_tell_43 fl_X9_44 rfl rfl rfl ?_
        refine z_aload_n K dX9_tell_46 rfl ?_
        refine z_get (k := 39) (v := .int (zi ((zu1 (μ 39) 0 (0 : Int)) 20))) K dX9_tell_47 fl_X9_161 rfl rfl rfl ?_
        rw [show ((zu1 (μ 39) 0 (0 : Int)) 20) = ((t : Nat) : Int) from ht]
        refine z_iload_n K dX9_tell_50 rfl ?_
        refine z_iast (k := 51) K dX9_tell_51 t rfl (by decide) (by omega) (by omega) (z_mem (ν := zup (zup (zup μ 39 (zu1 (μ 39) 0 (0 : Int))) 51 (zu1 (μ 51) t x)) 52 (μ 52)) (zup_sw _ (by decide) _ _ _) ?_)
        refine z_aload_n K dX9_tell_52 rfl ?_
        refine z_get (k := 39) (v := .ref (ad 52)) K dX9_tell_53 fl_X9_47 rfl rfl rfl ?_
        refine z_aload_n K dX9_tell_56 rfl ?_
        refine z_get (k := 39) (v := .int (zi ((zu1 (μ 39) 0 (0 : Int)) 20))) K dX9_tell_57 fl_X9_161 rfl rfl rfl ?_
        rw [show ((zu1 (μ 39) 0 (0 : Int)) 20) = ((t : Nat) : Int) from ht]
        refine z_iload_n K dX9_tell_60 rfl ?_
        refine z_iast (k := 52) K dX9_tell_61 t rfl (by decide) (by omega) (by omega) (z_mem (ν := zup (zup (zup μ 39 (zu1 (μ 39) 0 (0 : Int))) 51 (zu1 (μ 51) t x)) 52 (zu1 (μ 52) t y)) (zup_same _ _ _ _) ?_)
        refine z_aload_n K dX9_tell_62 rfl ?_
        refine z_dup K dX9_tell_63 rfl ?_
        refine z_get (k := 39) (v := .int (zi ((zu1 (μ 39) 0 (0 : Int)) 20))) K dX9_tell_64 fl_X9_161 rfl rfl rfl ?_
        rw [show ((zu1 (μ 39) 0 (0 : Int)) 20) = ((t : Nat) : Int) from ht]
        refine z_iconst K dX9_tell_67 ?_
        refine z_iadd K dX9_tell_68 ?_
        refine z_puti (k := 39) K dX9_tell_69 fp_X9_161 rfl rfl (z_mem (ν := zup (zup (zup μ 39 (zu1 (zu1 (μ 39) 0 (0 : Int)) 20 (((t : Nat) : Int) + (1 : Int)))) 51 (zu1 (μ 51) t x)) 52 (zu1 (μ 52) t y)) (zup_sw3 _ (by decide) (by decide) _ _ _ _) ?_)
        refine z_aload_n K dX9_tell_72 rfl ?_
        refine z_get (k := 39) (v := .int (zi ((zu1 (zu1 (μ 39) 0 (0 : Int)) 20 (((t : Nat) : Int) + (1 : Int))) 20))) K dX9_tell_73 fl_X9_161 rfl rfl rfl ?_
        rw [show ((zu1 (zu1 (μ 39) 0 (0 : Int)) 20 (((t : Nat) : Int) + (1 : Int))) 20) = ((t : Nat) : Int) + 1 from rfl]
        exact z_ireti K T rfl dX9_tell_76 ⟨by omega, Or.inl ⟨by omega, rfl⟩⟩
      · refine z_bipush K dX9_tell_39 (by decide +kernel) ?_
        exact z_ireti K T rfl dX9_tell_41 ⟨by omega, Or.inr ⟨by omega, rfl⟩⟩
    · refine z_bipush K dX9_tell_27 (by decide +kernel) ?_
      exact z_ireti K T rfl dX9_tell_29 ⟨by omega, Or.inr ⟨by omega, rfl⟩⟩
set_option maxHeartbeats 4000000 in
set_option maxRecDepth 100000 in
theorem cm_seed (la : Launch) (g0 : zG) (ad : Nat → Nat) (μ : zMem) (v : Int) : zCon la g0 yX9_seed cX9_seed 5 (some .long) 0 ad zSH [.ref (ad 39), .long (zl v)] μ (zPl (fun r ν => r = μ 39 23 ∧ ν = zup μ 39 (zu1 (zu1 (μ 39) 0 (0 : Int)) 23 v))) := by
  refine zCon_of (by decide +kernel) (Nat.le_of_ble_eq_true rfl) ?_
  intro χ K T hl1 hg1
  have K : zOk χ cX9_seed RX9 5 0 (some .long) := K
  refine z_mem (ν := zup μ 39 (μ 39)) (zup_id μ 39) ?_
  show zV χ 5 ad zSH 0 0 0 [(0, .ref (ad 39)), (1, .long (zl v))] [] (zup μ 39 (μ 39))
  refine z_aload_n K dX9_seed_0 rfl ?_
  refine z_iconst K dX9_seed_1 ?_
  refine z_puti (k := 39) K dX9_seed_2 fp_X9_59 rfl rfl (z_mem (ν := zup μ 39 (zu1 (μ 39) 0 (0 : Int))) (zup_same _ _ _ _) ?_)
  refine z_aload_n K dX9_seed_5 rfl ?_
  refine z_get (k := 39) (v := .long (zl ((zu1 (μ 39) 0 (0 : Int)) 23))) K dX9_seed_6 fl_X9_258 rfl rfl rfl ?_
  refine z_lstore_n (lv' := [(0, .ref (ad 39)), (1, .long (zl v)), (3, .long (zl ((zu1 (μ 39) 0 (0 : Int)) 23)))]) K dX9_seed_9 (by decide) rfl ?_
  refine z_aload_n K dX9_seed_10 rfl ?_
  refine z_lload_n K dX9_seed_11 rfl ?_
  refine z_putl (k := 39) K dX9_seed_12 fp_X9_258 rfl rfl (z_mem (ν := zup μ 39 (zu1 (zu1 (μ 39) 0 (0 : Int)) 23 v)) (zup_same _ _ _ _) ?_)
  refine z_lload_n K dX9_seed_15 rfl ?_
  exact z_lreti K T rfl dX9_seed_16 ⟨rfl, rfl⟩
set_option maxHeartbeats 4000000 in
set_option maxRecDepth 100000 in
theorem cm_keepSlot (la : Launch) (g0 : zG) (ad : Nat → Nat) (μ : zMem) (x : Int) (hx : zR x) : zCon la g0 yX9_keep cX9_keep 3 (some .int) 1 ad zSH [.ref (ad 39), .int (zi x)] μ (zPi (fun r ν => (¬ (0 ≤ x ∧ x ≤ 1) ∧ r = -1 ∧ ν = zup (zup (zup μ 39 (zu1 (μ 39) 0 (0 : Int))) 50 (μ 50)) 49 (μ 49)) ∨ ((0 ≤ x ∧ x ≤ 1) ∧ r = μ 46 22 ∧ ∃ v, ν = zup (zup (zup μ 39 (zu1 (μ 39) 0 (0 : Int))) 50 (zu1 (μ 50) x.toNat 1)) 49 v ∧ (∀ j, j < 23 → v (23 * x.toNat + j) = μ 46 j) ∧ ∀ j, (j < 23 * x.toNat ∨ 23 * x.toNat + 23 ≤ j) → v j = μ 49 j))) := by
  refine zCon_of (by decide +kernel) (Nat.le_of_ble_eq_true rfl) ?_
  intro χ K T hl1 hg1
  have K : zOk χ cX9_keep RX9 3 1 (some .int) := K
  refine z_mem (ν := zup (zup (zup μ 39 (μ 39)) 50 (μ 50)) 49 (μ 49)) (zup_id3 μ 39 50 49 (by decide) (by decide) (by decide)) ?_
  show zV χ 3 ad zSH 0 0 0 [(0, .ref (ad 39)), (1, .int (zi x))] [] (zup (zup (zup μ 39 (μ 39)) 50 (μ 50)) 49 (μ 49))
  refine z_aload_n K dX9_keep_0 rfl ?_
  refine z_iconst K dX9_keep_1 ?_
  refine z_puti (k := 39) K dX9_keep_2 fp_X9_59 rfl rfl (z_mem (ν := zup (zup (zup μ 39 (zu1 (μ 39) 0 (0 : Int))) 50 (μ 50)) 49 (μ 49)) (zup_sw3 _ (by decide) (by decide) _ _ _ _) ?_)
  refine z_iload_n K dX9_keep_5 rfl ?_
  refine z_i2l K dX9_keep_6 (by omega) ?_
  refine z_lconst (z := 0) K dX9_keep_7 rfl ?_
  refine z_lconst (z := 1) K dX9_keep_8 rfl ?_
  refine z_callSd K hl1 hg1 (As := [.long (zl x), .long (zl (0 : Int)), .long (zl (1 : Int))]) (rest := []) (cm_in la g0 ad (zup (zup (zup μ 39 (zu1 (μ 39) 0 (0 : Int))) 50 (μ 50)) 49 (μ 49)) x (0 : Int) (1 : Int) ⟨by omega, by omega⟩ ⟨by decide, by decide⟩ ⟨by decide, by decide⟩) (by decide) lk_X9_66 cd_X9_in rfl rfl (Nat.le_of_ble_eq_true rfl) dX9_keep_9 ?_
  show zV χ 3 ad zSH 0 0 12 [(0, .ref (ad 39)), (1, .int (zi x))] [.int (zi (if (0 : Int) ≤ x ∧ x ≤ (1 : Int) then 1 else 0))] (zup (zup (zup μ 39 (zu1 (μ 39) 0 (0 : Int))) 50 (μ 50)) 49 (μ 49))
  refine z_ifne (tgt := 17) K dX9_keep_12 (by decide) (by omega) (fun h12 => ?_) (fun h12 => ?_)
  · obtain ⟨m, rfl⟩ : ∃ m : Nat, x = (m : Int) := ⟨x.toNat, by omega⟩
    refine z_aload_n K dX9_keep_17 rfl ?_
    refine z_get (k := 39) (v := .ref (ad 50)) K dX9_keep_18 fl_X9_40 rfl rfl rfl ?_
    refine z_iload_n K dX9_keep_21 rfl ?_
    refine z_iconst K dX9_keep_22 ?_
    refine z_zast (k := 50) K dX9_keep_23 m rfl (by decide) (by omega) (by omega) (Or.inr rfl) (z_mem (ν := zup (zup (zup μ 39 (zu1 (μ 39) 0 (0 : Int))) 50 (zu1 (μ 50) m (1 : Int))) 49 (μ 49)) (zup_sw _ (by decide) _ _ _) ?_)
    refine z_iconst K dX9_keep_24 ?_
    refine z_istore_n (lv' := [(0, .ref (ad 39)), (1, .int (zi ((m : Nat) : Int))), (2, .int (zi (0 : Int)))]) K dX9_keep_25 (by decide) rfl ?_
    have L26 : ∀ i, i ≤ 23 → ∀ (v : Nat → Int), (∀ j, j < i → v (23 * m + j) = μ 46 j) → (∀ j, (j < 23 * m ∨ 23 * m + 23 ≤ j) → v j = μ 49 j) → zV χ 3 ad zSH 0 0 26 [(0, .ref (ad 39)), (1, .int (zi ((m : Nat) : Int))), (2, .int (zi ((i : Nat) : Int)))] [] (zup (zup (zup μ 39 (zu1 (μ 39) 0 (0 : Int))) 50 (zu1 (μ 50) m (1 : Int))) 49 v) := by
      refine zfor ?_
      intro i hi ih v h1 h2
      refine z_iload_n K dX9_keep_26 rfl ?_
      refine z_bipush K dX9_keep_27 (by decide +kernel) ?_
      refine z_icmpge (tgt := 55) K dX9_keep_29 (by decide) (by omega) ⟨by decide, by decide⟩ (fun h29 => ?_) (fun h29 => ?_)
      · refine z_aload_n K dX9_keep_55 rfl ?_
        refine z_get (k := 39) (v := .ref (ad 46)) K dX9_keep_56 fl_X9_28 rfl rfl rfl ?_
        refine z_bipush K dX9_keep_59 (by decide +kernel) ?_
        refine z_iald (k := 46) (v := μ 46 22) K dX9_keep_61 22 rfl (by decide) (by omega) (by omega) rfl ?_
        exact z_ireti K T rfl dX9_keep_62 (Or.inr ⟨by omega, rfl, v, by rw [Int.toNat_natCast], by rw [Int.toNat_natCast]; exact fun j hj => h1 j (by omega), by rw [Int.toNat_natCast]; exact h2⟩)
      · refine z_aload_n K dX9_keep_32 rfl ?_
        refine z_get (k := 39) (v := .ref (ad 49)) K dX9_keep_33 fl_X9_37 rfl rfl rfl ?_
        refine z_bipush K dX9_keep_36 (by decide +kernel) ?_
        refine z_iload_n K dX9_keep_38 rfl ?_
        refine z_imul K dX9_keep_39 ?_
        refine z_iload_n K dX9_keep_40 rfl ?_
        refine z_iadd K dX9_keep_41 ?_
        refine z_aload_n K dX9_keep_42 rfl ?_
        refine z_get (k := 39) (v := .ref (ad 46)) K dX9_keep_43 fl_X9_28 rfl rfl rfl ?_
        refine z_iload_n K dX9_keep_46 rfl ?_
        refine z_iald (k := 46) (v := μ 46 i) K dX9_keep_47 i rfl (by decide) (by omega) (by omega) rfl ?_
        refine z_iast (k := 49) K dX9_keep_48 (23 * m + i) rfl (by decide) (by omega) (by omega) (z_mem (ν := zup (zup (zup μ 39 (zu1 (μ 39) 0 (0 : Int))) 50 (zu1 (μ 50) m (1 : Int))) 49 (zu1 v (23 * m + i) (μ 46 i))) (zup_same _ _ _ _) ?_)
        refine z_iincN (lv' := [(0, .ref (ad 39)), (1, .int (zi ((m : Nat) : Int))), (2, .int (zi ((i + 1 : Nat) : Int)))]) K dX9_keep_49 rfl (by decide) rfl ?_
        refine z_goto (tgt := 26) K dX9_keep_52 (by decide) ?_
        exact ih (i + 1) (by omega) (by omega) _ (fun j hj => by
          by_cases e : j = i
          · rw [e]; exact zu1_eq _ _ _
          · rw [zu1_ne _ _ (by omega)]; exact h1 j (by omega)) (fun j hj => by
          rw [zu1_ne _ _ (by omega)]; exact h2 j hj)
    exact L26 0 (by omega) (μ 49) (fun j hj => absurd hj (by omega)) (fun _ _ => rfl)
  · refine z_iconst K dX9_keep_15 ?_
    exact z_ireti K T rfl dX9_keep_16 (Or.inl ⟨by omega, rfl, rfl⟩)
set_option maxHeartbeats 4000000 in
set_option maxRecDepth 100000 in
theorem cm_againSlot (la : Launch) (g0 : zG) (ad : Nat → Nat) (μ : zMem) (hb : ∀ j, j < 2 → μ 50 j = 0 ∨ μ 50 j = 1) (x : Int) (hx : zR x) : zCon la g0 yX9_again cX9_again 3 (some .int) 1 ad zSH [.ref (ad 39), .int (zi x)] μ (zPi (fun r ν => (¬ (0 ≤ x ∧ x ≤ 1) ∧ r = -1 ∧ ν = zup (zup μ 39 (zu1 (μ 39) 0 (0 : Int))) 46 (μ 46)) ∨ ((0 ≤ x ∧ x ≤ 1) ∧ μ 50 x.toNat = 0 ∧ r = -3 ∧ ν = zup (zup μ 39 (zu1 (μ 39) 0 (0 : Int))) 46 (μ 46)) ∨ ((0 ≤ x ∧ x ≤ 1) ∧ μ 50 x.toNat = 1 ∧ r = μ 49 (23 * x.toNat + 22) ∧ ∃ p, ν = zup (zup μ 39 (zu1 (zu1 (μ 39) 0 (0 : Int)) 17 0)) 46 p ∧ ∀ j, j < 23 → p j = μ 49 (23 * x.toNat + j)))) := by
  refine zCon_of (by decide +kernel) (Nat.le_of_ble_eq_true rfl) ?_
  intro χ K T hl1 hg1
  have K : zOk χ cX9_again RX9 3 1 (some .int) := K
  refine z_mem (ν := zup (zup μ 39 (μ 39)) 46 (μ 46)) (zup_id2 μ 39 46 (by decide)) ?_
  show zV χ 3 ad zSH 0 0 0 [(0, .ref (ad 39)), (1, .int (zi x))] [] (zup (zup μ 39 (μ 39)) 46 (μ 46))
  refine z_aload_n K dX9_again_0 rfl ?_
  refine z_iconst K dX9_again_1 ?_
  refine z_puti (k := 39) K dX9_again_2 fp_X9_59 rfl rfl (z_mem (ν := zup (zup μ 39 (zu1 (μ 39) 0 (0 : Int))) 46 (μ 46)) (zup_sw _ (by decide) _ _ _) ?_)
  refine z_iload_n K dX9_again_5 rfl ?_
  refine z_i2l K dX9_again_6 (by omega) ?_
  refine z_lconst (z := 0) K dX9_again_7 rfl ?_
  refine z_lconst (z := 1) K dX9_again_8 rfl ?_
  refine z_callSd K hl1 hg1 (As := [.long (zl x), .long (zl (0 : Int)), .long (zl (1 : Int))]) (rest := []) (cm_in la g0 ad (zup (zup μ 39 (zu1 (μ 39) 0 (0 : Int))) 46 (μ 46)) x (0 : Int) (1 : Int) ⟨by omega, by omega⟩ ⟨by decide, by decide⟩ ⟨by decide, by decide⟩) (by decide) lk_X9_66 cd_X9_in rfl rfl (Nat.le_of_ble_eq_true rfl) dX9_again_9 ?_
  show zV χ 3 ad zSH 0 0 12 [(0, .ref (ad 39)), (1, .int (zi x))] [.int (zi (if (0 : Int) ≤ x ∧ x ≤ (1 : Int) then 1 else 0))] (zup (zup μ 39 (zu1 (μ 39) 0 (0 : Int))) 46 (μ 46))
  refine z_ifne (tgt := 17) K dX9_again_12 (by decide) (by omega) (fun h12 => ?_) (fun h12 => ?_)
  · obtain ⟨m, rfl⟩ : ∃ m : Nat, x = (m : Int) := ⟨x.toNat, by omega⟩
    have hbm := hb m (by omega)
    refine z_aload_n K dX9_again_17 rfl ?_
    refine z_get (k := 39) (v := .ref (ad 50)) K dX9_again_18 fl_X9_40 rfl rfl rfl ?_
    refine z_iload_n K dX9_again_21 rfl ?_
    refine z_zald (k := 50) (v := μ 50 m) K dX9_again_22 m rfl (by decide) (by omega) (by omega) rfl ?_
    refine z_ifne (tgt := 29) K dX9_again_23 (by decide) (by omega) (fun h23 => ?_) (fun h23 => ?_)
    · refine z_iconst K dX9_again_29 ?_
      refine z_istore_n (lv' := [(0, .ref (ad 39)), (1, .int (zi ((m : Nat) : Int))), (2, .int (zi (0 : Int)))]) K dX9_again_30 (by decide) rfl ?_
      have L31 : ∀ i, i ≤ 23 → ∀ (p : Nat → Int), (∀ j, j < i → p j = μ 49 (23 * m + j)) → zV χ 3 ad zSH 0 0 31 [(0, .ref (ad 39)), (1, .int (zi ((m : Nat) : Int))), (2, .int (zi ((i : Nat) : Int)))] [] (zup (zup μ 39 (zu1 (μ 39) 0 (0 : Int))) 46 p) := by
        refine zfor ?_
        intro i hi ih p h1
        refine z_iload_n K dX9_again_31 rfl ?_
        refine z_bipush K dX9_again_32 (by decide +kernel) ?_
        refine z_icmpge (tgt := 60) K dX9_again_34 (by decide) (by omega) ⟨by decide, by decide⟩ (fun h34 => ?_) (fun h34 => ?_)
        · refine z_aload_n K dX9_again_60 rfl ?_
          refine z_iconst K dX9_again_61 ?_
          refine z_puti (k := 39) K dX9_again_62 fp_X9_112 rfl rfl (z_mem (ν := zup (zup μ 39 (zu1 (zu1 (μ 39) 0 (0 : Int)) 17 (0 : Int))) 46 p) (zup_sw _ (by decide) _ _ _) ?_)
          refine z_aload_n K dX9_again_65 rfl ?_
          refine z_get (k := 39) (v := .ref (ad 46)) K dX9_again_66 fl_X9_28 rfl rfl rfl ?_
          refine z_bipush K dX9_again_69 (by decide +kernel) ?_
          refine z_iald (k := 46) (v := μ 49 (23 * m + 22)) K dX9_again_71 22 rfl (by decide) (by omega) (by omega) (h1 22 (by omega)) ?_
          exact z_ireti K T rfl dX9_again_72 (Or.inr (Or.inr ⟨by omega, by rw [Int.toNat_natCast]; omega, by rw [Int.toNat_natCast], p, rfl, by rw [Int.toNat_natCast]; exact fun j hj => h1 j (by omega)⟩))
        · refine z_aload_n K dX9_again_37 rfl ?_
          refine z_get (k := 39) (v := .ref (ad 46)) K dX9_again_38 fl_X9_28 rfl rfl rfl ?_
          refine z_iload_n K dX9_again_41 rfl ?_
          refine z_aload_n K dX9_again_42 rfl ?_
          refine z_get (k := 39) (v := .ref (ad 49)) K dX9_again_43 fl_X9_37 rfl rfl rfl ?_
          refine z_bipush K dX9_again_46 (by decide +kernel) ?_
          refine z_iload_n K dX9_again_48 rfl ?_
          refine z_imul K dX9_again_49 ?_
          refine z_iload_n K dX9_again_50 rfl ?_
          refine z_iadd K dX9_again_51 ?_
          refine z_iald (k := 49) (v := μ 49 (23 * m + i)) K dX9_again_52 (23 * m + i) rfl (by decide) (by omega) (by omega) rfl ?_
          refine z_iast (k := 46) K dX9_again_53 i rfl (by decide) (by omega) (by omega) (z_mem (ν := zup (zup μ 39 (zu1 (μ 39) 0 (0 : Int))) 46 (zu1 p i (μ 49 (23 * m + i)))) (zup_same _ _ _ _) ?_)
          refine z_iincN (lv' := [(0, .ref (ad 39)), (1, .int (zi ((m : Nat) : Int))), (2, .int (zi ((i + 1 : Nat) : Int)))]) K dX9_again_54 rfl (by decide) rfl ?_
          refine z_goto (tgt := 31) K dX9_again_57 (by decide) ?_
          exact ih (i + 1) (by omega) (by omega) _ (fun j hj => by
            by_cases e : j = i
            · rw [e]; exact zu1_eq _ _ _
            · rw [zu1_ne _ _ (by omega)]; exact h1 j (by omega))
      exact L31 0 (by omega) (μ 46) (fun j hj => absurd hj (by omega))
    · refine z_bipush K dX9_again_26 (by decide +kernel) ?_
      exact z_ireti K T rfl dX9_again_28 (Or.inr (Or.inl ⟨by omega, by rw [Int.toNat_natCast]; omega, rfl, rfl⟩))
  · refine z_iconst K dX9_again_15 ?_
    exact z_ireti K T rfl dX9_again_16 (Or.inl ⟨by omega, rfl, rfl⟩)
