set_option maxHeartbeats 4000000 in
set_option maxRecDepth 100000 in
theorem ct_store_p (la : Launch) (g0 : zG) (ad : Nat → Nat) (μ : zMem) (p : Int) (q : Nat) (hq : p = (q : Int)) (hq2 : q < 14) (hz : μ 29 0 = 14) : zCon la g0 yX6_store cX6_store 3 none 1 ad zSH [.ref (ad 29), .int (zi p), .ref (ad 17)] μ (zPm (zup μ 30 (zcpy (μ 18) (μ 30) 0 (q * 23) 23))) := by
  refine zCon_of (by decide +kernel) (Nat.le_of_ble_eq_true rfl) ?_
  intro χ K T hl1 hg1
  have K : zOk χ cX6_store RX6 3 1 none := K
  show zV χ 3 ad zSH 0 0 0 [(0, .ref (ad 29)), (1, .int (zi p)), (2, .ref (ad 17))] [] μ
  refine z_iload_n K dX6_store_0 rfl ?_
  refine z_iflt (tgt := 30) K dX6_store_1 (by decide) (by omega) (fun h1 => absurd h1 (by omega)) (fun h1 => ?_)
  refine z_iload_n K dX6_store_4 rfl ?_
  refine z_aload_n K dX6_store_5 rfl ?_
  refine z_get (k := 29) (v := .int (zi (μ 29 0))) K dX6_store_6 fl_X6_13 rfl rfl rfl ?_
  refine z_icmpge (tgt := 30) K dX6_store_9 (by decide) (by omega) (by omega) (fun h9 => absurd h9 (by omega)) (fun h9 => ?_)
  refine z_aload_n K dX6_store_12 rfl ?_
  refine z_get (k := 17) (v := .ref (ad 18)) K dX6_store_13 fl_X6_25 rfl rfl rfl ?_
  refine z_iconst K dX6_store_16 ?_
  refine z_aload_n K dX6_store_17 rfl ?_
  refine z_get (k := 29) (v := .ref (ad 30)) K dX6_store_18 fl_X6_21 rfl rfl rfl ?_
  refine z_iload_n K dX6_store_21 rfl ?_
  refine z_bipush K dX6_store_22 (by decide +kernel) ?_
  refine z_imul K dX6_store_24 ?_
  refine z_bipush K dX6_store_25 (by decide +kernel) ?_
  refine z_copy (k0 := 18) (k1 := 30) K dX6_store_27 lk_X6_26 (by decide) rfl rfl 0 (q * 23) 23 (by omega) (by omega) (by omega) (by omega) (by omega) (Nat.le_of_ble_eq_true rfl) ?_
  exact z_vretd K T rfl dX6_store_30 rfl
set_option maxHeartbeats 4000000 in
set_option maxRecDepth 100000 in
theorem ct_fetch_p (la : Launch) (g0 : zG) (ad : Nat → Nat) (μ : zMem) (p : Int) (q : Nat) (hq : p = (q : Int)) (hq2 : q < 14) (hz : μ 29 0 = 14) : zCon la g0 yX6_fetch cX6_fetch 3 none 1 ad zSH [.ref (ad 29), .int (zi p), .ref (ad 17)] μ (zPm (zup μ 18 (zcpy (μ 30) (μ 18) (q * 23) 0 23))) := by
  refine zCon_of (by decide +kernel) (Nat.le_of_ble_eq_true rfl) ?_
  intro χ K T hl1 hg1
  have K : zOk χ cX6_fetch RX6 3 1 none := K
  show zV χ 3 ad zSH 0 0 0 [(0, .ref (ad 29)), (1, .int (zi p)), (2, .ref (ad 17))] [] μ
  refine z_iload_n K dX6_fetch_0 rfl ?_
  refine z_iflt (tgt := 30) K dX6_fetch_1 (by decide) (by omega) (fun h1 => absurd h1 (by omega)) (fun h1 => ?_)
  refine z_iload_n K dX6_fetch_4 rfl ?_
  refine z_aload_n K dX6_fetch_5 rfl ?_
  refine z_get (k := 29) (v := .int (zi (μ 29 0))) K dX6_fetch_6 fl_X6_13 rfl rfl rfl ?_
  refine z_icmpge (tgt := 30) K dX6_fetch_9 (by decide) (by omega) (by omega) (fun h9 => absurd h9 (by omega)) (fun h9 => ?_)
  refine z_aload_n K dX6_fetch_12 rfl ?_
  refine z_get (k := 29) (v := .ref (ad 30)) K dX6_fetch_13 fl_X6_21 rfl rfl rfl ?_
  refine z_iload_n K dX6_fetch_16 rfl ?_
  refine z_bipush K dX6_fetch_17 (by decide +kernel) ?_
  refine z_imul K dX6_fetch_19 ?_
  refine z_aload_n K dX6_fetch_20 rfl ?_
  refine z_get (k := 17) (v := .ref (ad 18)) K dX6_fetch_21 fl_X6_25 rfl rfl rfl ?_
  refine z_iconst K dX6_fetch_24 ?_
  refine z_bipush K dX6_fetch_25 (by decide +kernel) ?_
  refine z_copy (k0 := 30) (k1 := 18) K dX6_fetch_27 lk_X6_26 (by decide) rfl rfl (q * 23) 0 23 (by omega) (by omega) (by omega) (by omega) (by omega) (Nat.le_of_ble_eq_true rfl) ?_
  exact z_vretd K T rfl dX6_fetch_30 rfl
set_option maxHeartbeats 4000000 in
set_option maxRecDepth 100000 in
theorem ct_store_s (la : Launch) (g0 : zG) (ad : Nat → Nat) (μ : zMem) (p : Int) (q : Nat) (hq : p = (q : Int)) (hq2 : q < 2) (hz : μ 31 0 = 2) : zCon la g0 yX6_store cX6_store 3 none 1 ad zSH [.ref (ad 31), .int (zi p), .ref (ad 17)] μ (zPm (zup μ 32 (zcpy (μ 18) (μ 32) 0 (q * 23) 23))) := by
  refine zCon_of (by decide +kernel) (Nat.le_of_ble_eq_true rfl) ?_
  intro χ K T hl1 hg1
  have K : zOk χ cX6_store RX6 3 1 none := K
  show zV χ 3 ad zSH 0 0 0 [(0, .ref (ad 31)), (1, .int (zi p)), (2, .ref (ad 17))] [] μ
  refine z_iload_n K dX6_store_0 rfl ?_
  refine z_iflt (tgt := 30) K dX6_store_1 (by decide) (by omega) (fun h1 => absurd h1 (by omega)) (fun h1 => ?_)
  refine z_iload_n K dX6_store_4 rfl ?_
  refine z_aload_n K dX6_store_5 rfl ?_
  refine z_get (k := 31) (v := .int (zi (μ 31 0))) K dX6_store_6 fl_X6_13 rfl rfl rfl ?_
  refine z_icmpge (tgt := 30) K dX6_store_9 (by decide) (by omega) (by omega) (fun h9 => absurd h9 (by omega)) (fun h9 => ?_)
  refine z_aload_n K dX6_store_12 rfl ?_
  refine z_get (k := 17) (v := .ref (ad 18)) K dX6_store_13 fl_X6_25 rfl rfl rfl ?_
  refine z_iconst K dX6_store_16 ?_
  refine z_aload_n K dX6_store_17 rfl ?_
  refine z_get (k := 31) (v := .ref (ad 32)) K dX6_store_18 fl_X6_21 rfl rfl rfl ?_
  refine z_iload_n K dX6_store_21 rfl ?_
  refine z_bipush K dX6_store_22 (by decide +kernel) ?_
  refine z_imul K dX6_store_24 ?_
  refine z_bipush K dX6_store_25 (by decide +kernel) ?_
  refine z_copy (k0 := 18) (k1 := 32) K dX6_store_27 lk_X6_26 (by decide) rfl rfl 0 (q * 23) 23 (by omega) (by omega) (by omega) (by omega) (by omega) (Nat.le_of_ble_eq_true rfl) ?_
  exact z_vretd K T rfl dX6_store_30 rfl
set_option maxHeartbeats 4000000 in
set_option maxRecDepth 100000 in
theorem ct_fetch_s (la : Launch) (g0 : zG) (ad : Nat → Nat) (μ : zMem) (p : Int) (q : Nat) (hq : p = (q : Int)) (hq2 : q < 2) (hz : μ 31 0 = 2) : zCon la g0 yX6_fetch cX6_fetch 3 none 1 ad zSH [.ref (ad 31), .int (zi p), .ref (ad 17)] μ (zPm (zup μ 18 (zcpy (μ 32) (μ 18) (q * 23) 0 23))) := by
  refine zCon_of (by decide +kernel) (Nat.le_of_ble_eq_true rfl) ?_
  intro χ K T hl1 hg1
  have K : zOk χ cX6_fetch RX6 3 1 none := K
  show zV χ 3 ad zSH 0 0 0 [(0, .ref (ad 31)), (1, .int (zi p)), (2, .ref (ad 17))] [] μ
  refine z_iload_n K dX6_fetch_0 rfl ?_
  refine z_iflt (tgt := 30) K dX6_fetch_1 (by decide) (by omega) (fun h1 => absurd h1 (by omega)) (fun h1 => ?_)
  refine z_iload_n K dX6_fetch_4 rfl ?_
  refine z_aload_n K dX6_fetch_5 rfl ?_
  refine z_get (k := 31) (v := .int (zi (μ 31 0))) K dX6_fetch_6 fl_X6_13 rfl rfl rfl ?_
  refine z_icmpge (tgt := 30) K dX6_fetch_9 (by decide) (by omega) (by omega) (fun h9 => absurd h9 (by omega)) (fun h9 => ?_)
  refine z_aload_n K dX6_fetch_12 rfl ?_
  refine z_get (k := 31) (v := .ref (ad 32)) K dX6_fetch_13 fl_X6_21 rfl rfl rfl ?_
  refine z_iload_n K dX6_fetch_16 rfl ?_
  refine z_bipush K dX6_fetch_17 (by decide +kernel) ?_
  refine z_imul K dX6_fetch_19 ?_
  refine z_aload_n K dX6_fetch_20 rfl ?_
  refine z_get (k := 17) (v := .ref (ad 18)) K dX6_fetch_21 fl_X6_25 rfl rfl rfl ?_
  refine z_iconst K dX6_fetch_24 ?_
  refine z_bipush K dX6_fetch_25 (by decide +kernel) ?_
  refine z_copy (k0 := 32) (k1 := 18) K dX6_fetch_27 lk_X6_26 (by decide) rfl rfl (q * 23) 0 23 (by omega) (by omega) (by omega) (by omega) (by omega) (Nat.le_of_ble_eq_true rfl) ?_
  exact z_vretd K T rfl dX6_fetch_30 rfl
set_option maxHeartbeats 4000000 in
set_option maxRecDepth 100000 in
theorem ct_past_clear (la : Launch) (g0 : zG) (ad : Nat → Nat) (μ : zMem)  : zCon la g0 yX3_clear cX3_clear 1 none 0 ad zSH [.ref (ad 28)] μ (zPm (zup μ 28 (zu1 (zu1 (μ 28) 1 0) 2 0))) := by
  refine zCon_of (by decide +kernel) (Nat.le_of_ble_eq_true rfl) ?_
  intro χ K T hl1 hg1
  have K : zOk χ cX3_clear RX3 1 0 none := K
  show zV χ 1 ad zSH 0 0 0 [(0, .ref (ad 28))] [] μ
  refine z_aload_n K dX3_clear_0 rfl ?_
  refine z_iconst K dX3_clear_1 ?_
  refine z_puti (k := 28) K dX3_clear_2 fp_X3_20 rfl rfl ?_
  refine z_aload_n K dX3_clear_5 rfl ?_
  refine z_iconst K dX3_clear_6 ?_
  refine z_puti (k := 28) K dX3_clear_7 fp_X3_24 rfl rfl ?_
  exact z_vretd K T rfl dX3_clear_10 (zup_same _ _ _ _)
set_option maxHeartbeats 4000000 in
set_option maxRecDepth 100000 in
theorem ct_remember (la : Launch) (g0 : zG) (ad : Nat → Nat) (μ : zMem) (f k : Nat) (hf : μ 28 1 = (f : Int)) (hf14 : f < 14) (hk : μ 28 2 = (k : Int)) (hk14 : k ≤ 14) (hz : μ 29 0 = 14) : zCon la g0 yX3_remember cX3_remember 2 none 2 ad zSH [.ref (ad 28), .ref (ad 17)] μ (zPm (zup (zup μ 30 (zcpy (μ 18) (μ 30) 0 ((f + k) % 14 * 23) 23)) 28 (if k < 14 then zu1 (μ 28) 2 ((k : Int) + 1) else zu1 (μ 28) 1 (((f + 1) % 14 : Nat) : Int)))) := by
  refine zCon_of (by decide +kernel) (Nat.le_of_ble_eq_true rfl) ?_
  intro χ K T hl1 hg1
  have K : zOk χ cX3_remember RX3 2 2 none := K
  show zV χ 2 ad zSH 0 0 0 [(0, .ref (ad 28)), (1, .ref (ad 17))] [] μ
  refine z_aload_n K dX3_remember_0 rfl ?_
  refine z_get (k := 28) (v := .ref (ad 29)) K dX3_remember_1 fl_X3_14 rfl rfl rfl ?_
  refine z_aload_n K dX3_remember_4 rfl ?_
  refine z_get (k := 28) (v := .int (zi (μ 28 1))) K dX3_remember_5 fl_X3_20 rfl rfl rfl ?_
  refine z_aload_n K dX3_remember_8 rfl ?_
  refine z_get (k := 28) (v := .int (zi (μ 28 2))) K dX3_remember_9 fl_X3_24 rfl rfl rfl ?_
  refine z_iadd K dX3_remember_12 ?_
  refine z_bipush K dX3_remember_13 (by decide +kernel) ?_
  refine z_irem K dX3_remember_15 (by omega) (by omega) ?_
  refine z_aload_n K dX3_remember_16 rfl ?_
  refine z_callVm K hl1 hg1 (kb := 29) (As := [.int (zi (((μ 28 1) + (μ 28 2)) % (14 : Int))), .ref (ad 17)]) (rest := []) (ct_store_p la g0 ad μ (((μ 28 1) + (μ 28 2)) % (14 : Int)) ((f + k) % 14) (by omega) (by omega) hz) (by decide) lk_X3_27 cd_X6_store rfl rfl rfl rfl (Nat.le_of_ble_eq_true rfl) dX3_remember_17 ?_
  refine z_aload_n K dX3_remember_20 rfl ?_
  refine z_get (k := 28) (v := .int (zi (μ 28 2))) K dX3_remember_21 fl_X3_24 rfl rfl rfl ?_
  refine z_bipush K dX3_remember_24 (by decide +kernel) ?_
  refine z_icmpge (tgt := 42) K dX3_remember_26 (by decide) (by omega) ⟨by decide, by decide⟩ (fun h26 => ?_) (fun h26 => ?_)
  · refine z_aload_n K dX3_remember_42 rfl ?_
    refine z_aload_n K dX3_remember_43 rfl ?_
    refine z_get (k := 28) (v := .int (zi (μ 28 1))) K dX3_remember_44 fl_X3_20 rfl rfl rfl ?_
    refine z_iconst K dX3_remember_47 ?_
    refine z_iadd K dX3_remember_48 ?_
    refine z_bipush K dX3_remember_49 (by decide +kernel) ?_
    refine z_irem K dX3_remember_51 (by omega) (by omega) ?_
    refine z_puti (k := 28) K dX3_remember_52 fp_X3_20 rfl rfl (z_mem (ν := zup (zup μ 30 (zcpy (μ 18) (μ 30) 0 ((f + k) % 14 * 23) 23)) 28 (zu1 (μ 28) 1 (((μ 28 1) + (1 : Int)) % (14 : Int)))) rfl ?_)
    exact z_vretd K T rfl dX3_remember_55 (by rw [if_neg (by omega)]; congr 2; omega)
  · refine z_aload_n K dX3_remember_29 rfl ?_
    refine z_dup K dX3_remember_30 rfl ?_
    refine z_get (k := 28) (v := .int (zi (μ 28 2))) K dX3_remember_31 fl_X3_24 rfl rfl rfl ?_
    refine z_iconst K dX3_remember_34 ?_
    refine z_iadd K dX3_remember_35 ?_
    refine z_puti (k := 28) K dX3_remember_36 fp_X3_24 rfl rfl (z_mem (ν := zup (zup μ 30 (zcpy (μ 18) (μ 30) 0 ((f + k) % 14 * 23) 23)) 28 (zu1 (μ 28) 2 ((μ 28 2) + (1 : Int)))) rfl ?_)
    refine z_goto (tgt := 55) K dX3_remember_39 (by decide) ?_
    exact z_vretd K T rfl dX3_remember_55 (by rw [if_pos (by omega)]; congr 2; omega)
set_option maxHeartbeats 4000000 in
set_option maxRecDepth 100000 in
theorem ct_goBack (la : Launch) (g0 : zG) (ad : Nat → Nat) (μ : zMem) (f k : Nat) (hf : μ 28 1 = (f : Int)) (hf14 : f < 14) (hk : μ 28 2 = (k : Int)) (hk14 : k ≤ 14) (hz : μ 29 0 = 14) (hk0 : 0 < k) : zCon la g0 yX3_goBack cX3_goBack 2 none 2 ad zSH [.ref (ad 28), .ref (ad 17)] μ (zPm (zup (zup μ 28 (zu1 (μ 28) 2 ((k : Int) - 1))) 18 (zcpy (μ 30) (μ 18) ((f + (k - 1)) % 14 * 23) 0 23))) := by
  refine zCon_of (by decide +kernel) (Nat.le_of_ble_eq_true rfl) ?_
  intro χ K T hl1 hg1
  have K : zOk χ cX3_goBack RX3 2 2 none := K
  show zV χ 2 ad zSH 0 0 0 [(0, .ref (ad 28)), (1, .ref (ad 17))] [] μ
  refine z_aload_n K dX3_goBack_0 rfl ?_
  refine z_get (k := 28) (v := .int (zi (μ 28 2))) K dX3_goBack_1 fl_X3_24 rfl rfl rfl ?_
  refine z_ifle (tgt := 37) K dX3_goBack_4 (by decide) (by omega) (fun h4 => absurd h4 (by omega)) (fun h4 => ?_)
  refine z_aload_n K dX3_goBack_7 rfl ?_
  refine z_dup K dX3_goBack_8 rfl ?_
  refine z_get (k := 28) (v := .int (zi (μ 28 2))) K dX3_goBack_9 fl_X3_24 rfl rfl rfl ?_
  refine z_iconst K dX3_goBack_12 ?_
  refine z_isub K dX3_goBack_13 ?_
  refine z_puti (k := 28) K dX3_goBack_14 fp_X3_24 rfl rfl ?_
  refine z_mem (ν := zup μ 28 (zu1 (μ 28) 2 ((k : Int) - 1))) (by rw [hk]) ?_
  refine z_aload_n K dX3_goBack_17 rfl ?_
  refine z_get (k := 28) (v := .ref (ad 29)) K dX3_goBack_18 fl_X3_14 rfl rfl rfl ?_
  refine z_aload_n K dX3_goBack_21 rfl ?_
  refine z_get (k := 28) (v := .int (zi ((zu1 (μ 28) 2 ((k : Int) - 1)) 1))) K dX3_goBack_22 fl_X3_20 rfl rfl rfl ?_
  refine z_aload_n K dX3_goBack_25 rfl ?_
  refine z_get (k := 28) (v := .int (zi ((zu1 (μ 28) 2 ((k : Int) - 1)) 2))) K dX3_goBack_26 fl_X3_24 rfl rfl rfl ?_
  refine z_iadd K dX3_goBack_29 ?_
  refine z_bipush K dX3_goBack_30 (by decide +kernel) ?_
  refine z_irem K dX3_goBack_32 (by simp only [zu1]; omega) ⟨by decide, by decide⟩ ?_
  refine z_aload_n K dX3_goBack_33 rfl ?_
  refine z_callVm K hl1 hg1 (kb := 29) (As := [.int (zi ((((zu1 (μ 28) 2 ((k : Int) - 1)) 1) + ((zu1 (μ 28) 2 ((k : Int) - 1)) 2)) % (14 : Int))), .ref (ad 17)]) (rest := []) (ct_fetch_p la g0 ad (zup μ 28 (zu1 (μ 28) 2 ((k : Int) - 1))) ((((zu1 (μ 28) 2 ((k : Int) - 1)) 1) + ((zu1 (μ 28) 2 ((k : Int) - 1)) 2)) % (14 : Int)) ((f + (k - 1)) % 14) (by rw [zu1_ne _ _ (by decide), zu1_eq]; omega) (by omega) hz) (by decide) lk_X3_31 cd_X6_fetch rfl rfl rfl rfl (Nat.le_of_ble_eq_true rfl) dX3_goBack_34 ?_
  exact z_vretd K T rfl dX3_goBack_37 rfl
set_option maxHeartbeats 4000000 in
set_option maxRecDepth 100000 in
theorem ct_script_add (la : Launch) (g0 : zG) (ad : Nat → Nat) (μ : zMem) (t : Nat) (ht : μ 1 1 = (t : Int)) (ht48 : t ≤ 48) (x : Int) : zCon la g0 yX5_add cX5_add 2 (some .int) 0 ad zSH [.ref (ad 1), .int (zi x)] μ (zPd (if t < 48 then zup (zup μ 2 (zu1 (μ 2) t x)) 1 (zu1 (μ 1) 1 ((t : Int) + 1)) else μ) (if t < 48 then (t : Int) + 1 else -4)) := by
  refine zCon_of (by decide +kernel) (Nat.le_of_ble_eq_true rfl) ?_
  intro χ K T hl1 hg1
  have K : zOk χ cX5_add RX5 2 0 (some .int) := K
  show zV χ 2 ad zSH 0 0 0 [(0, .ref (ad 1)), (1, .int (zi x))] [] μ
  refine z_aload_n K dX5_add_0 rfl ?_
  refine z_get (k := 1) (v := .int (zi (μ 1 1))) K dX5_add_1 fl_X5_22 rfl rfl rfl ?_
  refine z_bipush K dX5_add_4 (by decide +kernel) ?_
  refine z_icmplt (tgt := 12) K dX5_add_6 (by decide) (by omega) ⟨by decide, by decide⟩ (fun h6 => ?_) (fun h6 => ?_)
  · refine z_aload_n K dX5_add_12 rfl ?_
    refine z_get (k := 1) (v := .ref (ad 2)) K dX5_add_13 fl_X5_9 rfl rfl rfl ?_
    refine z_aload_n K dX5_add_16 rfl ?_
    refine z_get (k := 1) (v := .int (zi (μ 1 1))) K dX5_add_17 fl_X5_22 rfl rfl rfl ?_
    refine z_iload_n K dX5_add_20 rfl ?_
    refine z_iast (k := 2) K dX5_add_21 t rfl (by decide) (by omega) (by omega) ?_
    refine z_aload_n K dX5_add_22 rfl ?_
    refine z_dup K dX5_add_23 rfl ?_
    refine z_get (k := 1) (v := .int (zi (μ 1 1))) K dX5_add_24 fl_X5_22 rfl rfl rfl ?_
    refine z_iconst K dX5_add_27 ?_
    refine z_iadd K dX5_add_28 ?_
    refine z_puti (k := 1) K dX5_add_29 fp_X5_22 rfl rfl ?_
    refine z_aload_n K dX5_add_32 rfl ?_
    refine z_get (k := 1) (v := .int (zi ((zu1 (μ 1) 1 ((μ 1 1) + (1 : Int))) 1))) K dX5_add_33 fl_X5_22 rfl rfl rfl ?_
    exact z_iretd K T rfl dX5_add_36 (by rw [if_pos (by omega)]; show μ 1 1 + 1 = _; omega) (by rw [if_pos (by omega)]; congr 2; show μ 1 1 + 1 = _; omega)
  · refine z_bipush K dX5_add_9 (by decide +kernel) ?_
    exact z_iretd K T rfl dX5_add_11 (if_neg (by omega)).symm (if_neg (by omega)).symm
set_option maxHeartbeats 4000000 in
set_option maxRecDepth 100000 in
theorem ct_script_clear (la : Launch) (g0 : zG) (ad : Nat → Nat) (μ : zMem)  : zCon la g0 yX5_clear cX5_clear 2 (some .int) 0 ad zSH [.ref (ad 1)] μ (zPd (zup μ 1 (zu1 (μ 1) 1 0)) (μ 1 1)) := by
  refine zCon_of (by decide +kernel) (Nat.le_of_ble_eq_true rfl) ?_
  intro χ K T hl1 hg1
  have K : zOk χ cX5_clear RX5 2 0 (some .int) := K
  show zV χ 2 ad zSH 0 0 0 [(0, .ref (ad 1))] [] μ
  refine z_aload_n K dX5_clear_0 rfl ?_
  refine z_get (k := 1) (v := .int (zi (μ 1 1))) K dX5_clear_1 fl_X5_22 rfl rfl rfl ?_
  refine z_istore_n (lv' := [(0, .ref (ad 1)), (1, .int (zi (μ 1 1)))]) K dX5_clear_4 (by decide) rfl ?_
  refine z_aload_n K dX5_clear_5 rfl ?_
  refine z_iconst K dX5_clear_6 ?_
  refine z_puti (k := 1) K dX5_clear_7 fp_X5_22 rfl rfl ?_
  refine z_iload_n K dX5_clear_10 rfl ?_
  exact z_iretd K T rfl dX5_clear_11 rfl rfl
set_option maxHeartbeats 4000000 in
set_option maxRecDepth 100000 in
theorem ct_told_clear (la : Launch) (g0 : zG) (ad : Nat → Nat) (μ : zMem)  : zCon la g0 yX7_clear cX7_clear 2 (some .int) 0 ad zSH [.ref (ad 34)] μ (zPd (zup μ 34 (zu1 (μ 34) 2 0)) (μ 34 2)) := by
  refine zCon_of (by decide +kernel) (Nat.le_of_ble_eq_true rfl) ?_
  intro χ K T hl1 hg1
  have K : zOk χ cX7_clear RX7 2 0 (some .int) := K
  show zV χ 2 ad zSH 0 0 0 [(0, .ref (ad 34))] [] μ
  refine z_aload_n K dX7_clear_0 rfl ?_
  refine z_get (k := 34) (v := .int (zi (μ 34 2))) K dX7_clear_1 fl_X7_19 rfl rfl rfl ?_
  refine z_istore_n (lv' := [(0, .ref (ad 34)), (1, .int (zi (μ 34 2)))]) K dX7_clear_4 (by decide) rfl ?_
  refine z_aload_n K dX7_clear_5 rfl ?_
  refine z_iconst K dX7_clear_6 ?_
  refine z_puti (k := 34) K dX7_clear_7 fp_X7_19 rfl rfl ?_
  refine z_iload_n K dX7_clear_10 rfl ?_
  exact z_iretd K T rfl dX7_clear_11 rfl rfl
set_option maxHeartbeats 4000000 in
set_option maxRecDepth 100000 in
theorem ct_told_add (la : Launch) (g0 : zG) (ad : Nat → Nat) (μ : zMem) (t : Nat) (ht : μ 34 2 = (t : Int)) (ht6 : t ≤ 6) (x y : Int) (hy : y = 0 ∨ y = 1) : zCon la g0 yX7_add cX7_add 3 (some .int) 0 ad zSH [.ref (ad 34), .int (zi x), .int (zi y)] μ (zPd (if t < 6 then zup (zup (zup μ 35 (zu1 (μ 35) t x)) 36 (zu1 (μ 36) t y)) 34 (zu1 (μ 34) 2 ((t : Int) + 1)) else μ) (if t < 6 then (t : Int) + 1 else -4)) := by
  refine zCon_of (by decide +kernel) (Nat.le_of_ble_eq_true rfl) ?_
  intro χ K T hl1 hg1
  have K : zOk χ cX7_add RX7 3 0 (some .int) := K
  show zV χ 3 ad zSH 0 0 0 [(0, .ref (ad 34)), (1, .int (zi x)), (2, .int (zi y))] [] μ
  refine z_aload_n K dX7_add_0 rfl ?_
  refine z_get (k := 34) (v := .int (zi (μ 34 2))) K dX7_add_1 fl_X7_19 rfl rfl rfl ?_
  refine z_bipush K dX7_add_4 (by decide +kernel) ?_
  refine z_icmplt (tgt := 12) K dX7_add_6 (by decide) (by omega) ⟨by decide, by decide⟩ (fun h6 => ?_) (fun h6 => ?_)
  · refine z_aload_n K dX7_add_12 rfl ?_
    refine z_get (k := 34) (v := .ref (ad 35)) K dX7_add_13 fl_X7_9 rfl rfl rfl ?_
    refine z_aload_n K dX7_add_16 rfl ?_
    refine z_get (k := 34) (v := .int (zi (μ 34 2))) K dX7_add_17 fl_X7_19 rfl rfl rfl ?_
    refine z_iload_n K dX7_add_20 rfl ?_
    refine z_iast (k := 35) K dX7_add_21 t rfl (by decide) (by omega) (by omega) ?_
    refine z_aload_n K dX7_add_22 rfl ?_
    refine z_get (k := 34) (v := .ref (ad 36)) K dX7_add_23 fl_X7_15 rfl rfl rfl ?_
    refine z_aload_n K dX7_add_26 rfl ?_
    refine z_get (k := 34) (v := .int (zi (μ 34 2))) K dX7_add_27 fl_X7_19 rfl rfl rfl ?_
    refine z_iload_n K dX7_add_30 rfl ?_
    refine z_zast (k := 36) K dX7_add_31 t rfl (by decide) (by omega) (by omega) (by omega) ?_
    refine z_aload_n K dX7_add_32 rfl ?_
    refine z_dup K dX7_add_33 rfl ?_
    refine z_get (k := 34) (v := .int (zi (μ 34 2))) K dX7_add_34 fl_X7_19 rfl rfl rfl ?_
    refine z_iconst K dX7_add_37 ?_
    refine z_iadd K dX7_add_38 ?_
    refine z_puti (k := 34) K dX7_add_39 fp_X7_19 rfl rfl ?_
    refine z_aload_n K dX7_add_42 rfl ?_
    refine z_get (k := 34) (v := .int (zi ((zu1 (μ 34) 2 ((μ 34 2) + (1 : Int))) 2))) K dX7_add_43 fl_X7_19 rfl rfl rfl ?_
    exact z_iretd K T rfl dX7_add_46 (by rw [if_pos (by omega)]; show μ 34 2 + 1 = _; omega) (by rw [if_pos (by omega)]; congr 2; show μ 34 2 + 1 = _; omega)
  · refine z_bipush K dX7_add_9 (by decide +kernel) ?_
    exact z_iretd K T rfl dX7_add_11 (if_neg (by omega)).symm (if_neg (by omega)).symm
