set_option maxHeartbeats 4000000 in
set_option maxRecDepth 100000 in
theorem ct_whoIn (la : Launch) (g0 : zG) (ad : Nat → Nat) (μ : zMem) (n nc : Nat) (hp : zPlan μ n nc) (hv : zHV n nc (μ 18)) (x y : Nat → Int) (t : Nat) (ht : t ≤ 20) (f : Int) (hf : zR f) : zCon la g0 yX2_whoIn cX2_whoIn 4 (some .int) 4 ad zSH [.ref (ad 20), .int (zi ((t : Nat) : Int)), .int (zi f)] (zup (zup μ 26 x) 27 y) (zPi (zSc μ (((zwho (zdays n (μ 13) (μ 14) nc (μ 16) t (μ 18, zz0)).1 f n : Nat) : Int)))) := by
  refine zCon_of (by decide +kernel) (Nat.le_of_ble_eq_true rfl) ?_
  intro χ K T hl1 hg1
  have K : zOk χ cX2_whoIn RX2 4 4 (some .int) := K
  obtain ⟨hn, hn6, hnc, hnc3, hpl, hpk⟩ := id hp
  show zV χ 4 ad zSH 0 0 0 [(0, .ref (ad 20)), (1, .int (zi ((t : Nat) : Int))), (2, .int (zi f))] [] (zup (zup μ 26 x) 27 y)
  refine z_aload_n K dX2_whoIn_0 rfl ?_
  refine z_get (k := 20) (v := .ref (ad 25)) K dX2_whoIn_1 fl_X2_37 rfl rfl rfl ?_
  refine z_aload_n K dX2_whoIn_4 rfl ?_
  refine z_get (k := 20) (v := .ref (ad 17)) K dX2_whoIn_5 fl_X2_28 rfl rfl rfl ?_
  refine z_callVm K hl1 hg1 (kb := 25) (As := [.ref (ad 17)]) (rest := []) (ct_beLike2 la g0 ad μ x y) (by decide) lk_X2_40 cd_X1_beLike rfl rfl rfl rfl (Nat.le_of_ble_eq_true rfl) dX2_whoIn_8 ?_
  refine z_iconst K dX2_whoIn_11 ?_
  refine z_istore_n (lv' := [(0, .ref (ad 20)), (1, .int (zi ((t : Nat) : Int))), (2, .int (zi f)), (3, .int (zi (0 : Int)))]) K dX2_whoIn_12 (by decide) rfl ?_
  have L13 : ∀ j, j ≤ t → ∀ (d b : Nat → Int), zdays n (μ 13) (μ 14) nc (μ 16) j (μ 18, zz0) = (d, b) → zV χ 4 ad zSH 0 0 13 [(0, .ref (ad 20)), (1, .int (zi ((t : Nat) : Int))), (2, .int (zi f)), (3, .int (zi ((j : Nat) : Int)))] [] (zup (zup μ 26 d) 27 b) := by
    refine zfor ?_
    intro j hj ih d b hF
    have hdv := zdays_ok hp.pk (s := (μ 18, zz0)) hv j
    rw [hF] at hdv
    dsimp only at hdv
    refine z_iload_n K dX2_whoIn_13 rfl ?_
    refine z_iload_n K dX2_whoIn_14 rfl ?_
    refine z_icmpge (tgt := 32) K dX2_whoIn_15 (by decide) (by omega) (by omega) (fun h15 => ?_) (fun h15 => ?_)
    · refine z_aload_n K dX2_whoIn_32 rfl ?_
      refine z_get (k := 20) (v := .ref (ad 25)) K dX2_whoIn_33 fl_X2_37 rfl rfl rfl ?_
      refine z_iload_n K dX2_whoIn_36 rfl ?_
      refine z_callVd K hl1 hg1 (kb := 25) (As := [.int (zi f)]) (rest := []) (ct_who_t la g0 ad (zup (zup μ 26 d) 27 b) n nc hp hdv.1 f hf) (by decide) lk_X2_48 cd_X1_who rfl rfl rfl rfl (Nat.le_of_ble_eq_true rfl) dX2_whoIn_37 ?_
      show zV χ 4 ad zSH 0 0 40 [(0, .ref (ad 20)), (1, .int (zi ((t : Nat) : Int))), (2, .int (zi f)), (3, .int (zi ((j : Nat) : Int)))] [.int (zi ((zwho d f n : Nat) : Int))] (zup (zup μ 26 d) 27 b)
      exact z_ireti K T rfl dX2_whoIn_40 ⟨(by rw [show t = j by omega, hF]), _, _, rfl⟩
    · refine z_aload_n K dX2_whoIn_18 rfl ?_
      refine z_get (k := 20) (v := .ref (ad 25)) K dX2_whoIn_19 fl_X2_37 rfl rfl rfl ?_
      refine z_callVd K hl1 hg1 (kb := 25) (As := []) (rest := []) (ct_passDay_t la g0 ad μ n nc hp d b hdv) (by decide) lk_X2_44 cd_X1_passDay rfl rfl rfl rfl (Nat.le_of_ble_eq_true rfl) dX2_whoIn_22 ?_
      show zV χ 4 ad zSH 0 0 25 [(0, .ref (ad 20)), (1, .int (zi ((t : Nat) : Int))), (2, .int (zi f)), (3, .int (zi ((j : Nat) : Int)))] [.int (zi ((zdayM n (μ 13) (μ 14) nc (μ 16) (d, b) : Nat) : Int))] (zup (zup μ 26 ((zday n (μ 13) (μ 14) nc (μ 16) (d, b)).1)) 27 ((zday n (μ 13) (μ 14) nc (μ 16) (d, b)).2))
      refine z_pop K dX2_whoIn_25 rfl ?_
      refine z_iincN (lv' := [(0, .ref (ad 20)), (1, .int (zi ((t : Nat) : Int))), (2, .int (zi f)), (3, .int (zi ((j + 1 : Nat) : Int)))]) K dX2_whoIn_26 rfl (by decide) rfl ?_
      refine z_goto (tgt := 13) K dX2_whoIn_29 (by decide) ?_
      exact ih (j + 1) (by omega) (by omega) _ _ (by show zday n (μ 13) (μ 14) nc (μ 16) (zdays n (μ 13) (μ 14) nc (μ 16) j (μ 18, zz0)) = _; rw [hF])
  exact L13 0 (by omega) _ _ rfl
set_option maxHeartbeats 4000000 in
set_option maxRecDepth 100000 in
theorem ct_daysToHatch (la : Launch) (g0 : zG) (ad : Nat → Nat) (μ : zMem) (n nc : Nat) (hp : zPlan μ n nc) (hv : zHV n nc (μ 18)) (x y : Nat → Int) (l : Nat) (hl : l < n) (h : Int) (hh : 0 ≤ h ∧ h < 12) : zCon la g0 yX2_daysToHatch cX2_daysToHatch 5 (some .int) 4 ad zSH [.ref (ad 20), .int (zi ((l : Nat) : Int)), .int (zi h)] (zup (zup μ 26 x) 27 y) (zPi (zSc μ (zdth n (μ 13) (μ 14) nc (μ 16) (μ 18) l h))) := by
  refine zCon_of (by decide +kernel) (Nat.le_of_ble_eq_true rfl) ?_
  intro χ K T hl1 hg1
  have K : zOk χ cX2_daysToHatch RX2 5 4 (some .int) := K
  obtain ⟨hn, hn6, hnc, hnc3, hpl, hpk⟩ := id hp
  show zV χ 5 ad zSH 0 0 0 [(0, .ref (ad 20)), (1, .int (zi ((l : Nat) : Int))), (2, .int (zi h))] [] (zup (zup μ 26 x) 27 y)
  refine z_aload_n K dX2_daysToHatch_0 rfl ?_
  refine z_get (k := 20) (v := .ref (ad 25)) K dX2_daysToHatch_1 fl_X2_37 rfl rfl rfl ?_
  refine z_aload_n K dX2_daysToHatch_4 rfl ?_
  refine z_get (k := 20) (v := .ref (ad 17)) K dX2_daysToHatch_5 fl_X2_28 rfl rfl rfl ?_
  refine z_callVm K hl1 hg1 (kb := 25) (As := [.ref (ad 17)]) (rest := []) (ct_beLike2 la g0 ad μ x y) (by decide) lk_X2_40 cd_X1_beLike rfl rfl rfl rfl (Nat.le_of_ble_eq_true rfl) dX2_daysToHatch_8 ?_
  refine z_aload_n K dX2_daysToHatch_11 rfl ?_
  refine z_get (k := 20) (v := .ref (ad 25)) K dX2_daysToHatch_12 fl_X2_37 rfl rfl rfl ?_
  refine z_iload_n K dX2_daysToHatch_15 rfl ?_
  refine z_iload_n K dX2_daysToHatch_16 rfl ?_
  refine z_callVm K hl1 hg1 (kb := 25) (As := [.int (zi ((l : Nat) : Int)), .int (zi h)]) (rest := []) (ct_moveTo2 la g0 ad μ (μ 18) zz0 l (by omega) h) (by decide) lk_X2_52 cd_X1_moveTo rfl rfl rfl rfl (Nat.le_of_ble_eq_true rfl) dX2_daysToHatch_17 ?_
  refine z_iconst K dX2_daysToHatch_20 ?_
  refine z_istore_n (lv' := [(0, .ref (ad 20)), (1, .int (zi ((l : Nat) : Int))), (2, .int (zi h)), (3, .int (zi (0 : Int)))]) K dX2_daysToHatch_21 (by decide) rfl ?_
  have L22 : ∀ j, j ≤ 21 → ∀ (d b : Nat → Int), zHV n nc d → zdt n (μ 13) (μ 14) nc (μ 16) l (21 - j) j (d, b) = zdth n (μ 13) (μ 14) nc (μ 16) (μ 18) l h → zV χ 5 ad zSH 0 0 22 [(0, .ref (ad 20)), (1, .int (zi ((l : Nat) : Int))), (2, .int (zi h)), (3, .int (zi ((j : Nat) : Int)))] [] (zup (zup μ 26 d) 27 b) := by
    refine zfor ?_
    intro j hj ih d b hdv hF
    refine z_iload_n K dX2_daysToHatch_22 rfl ?_
    refine z_bipush K dX2_daysToHatch_23 (by decide +kernel) ?_
    refine z_icmpgt (tgt := 70) K dX2_daysToHatch_25 (by decide) (by omega) ⟨by decide, by decide⟩ (fun h25 => ?_) (fun h25 => ?_)
    · refine z_bipush K dX2_daysToHatch_70 (by decide +kernel) ?_
      exact z_ireti K T rfl dX2_daysToHatch_72 ⟨(by rw [← hF, show 21 - j = 0 by omega]; rfl), _, _, rfl⟩
    · have hdl := hdv.1.1 l hl
      rw [show 21 - j = (21 - (j + 1)) + 1 by omega, zdt_s] at hF
      refine z_aload_n K dX2_daysToHatch_28 rfl ?_
      refine z_get (k := 20) (v := .ref (ad 25)) K dX2_daysToHatch_29 fl_X2_37 rfl rfl rfl ?_
      refine z_iload_n K dX2_daysToHatch_32 rfl ?_
      refine z_callVd K hl1 hg1 (kb := 25) (As := [.int (zi ((l : Nat) : Int))]) (rest := []) (ct_fateOf_t la g0 ad (zup (zup μ 26 d) 27 b) n nc hp hdv.1 l hl) (by decide) lk_X2_56 cd_X1_fateOf rfl rfl rfl rfl (Nat.le_of_ble_eq_true rfl) dX2_daysToHatch_33 ?_
      show zV χ 5 ad zSH 0 0 36 [(0, .ref (ad 20)), (1, .int (zi ((l : Nat) : Int))), (2, .int (zi h)), (3, .int (zi ((j : Nat) : Int)))] [.int (zi (d (12 + l)))] (zup (zup μ 26 d) 27 b)
      refine z_istore (lv' := [(0, .ref (ad 20)), (1, .int (zi ((l : Nat) : Int))), (2, .int (zi h)), (3, .int (zi ((j : Nat) : Int))), (4, .int (zi (d (12 + l))))]) K dX2_daysToHatch_36 (by decide) rfl ?_
      refine z_iload K dX2_daysToHatch_38 rfl ?_
      refine z_ifeq (tgt := 56) K dX2_daysToHatch_40 (by decide) (by omega) (fun h40 => ?_) (fun h40 => ?_)
      · refine z_aload_n K dX2_daysToHatch_56 rfl ?_
        refine z_get (k := 20) (v := .ref (ad 25)) K dX2_daysToHatch_57 fl_X2_37 rfl rfl rfl ?_
        refine z_callVd K hl1 hg1 (kb := 25) (As := []) (rest := []) (ct_passDay_t la g0 ad μ n nc hp d b hdv) (by decide) lk_X2_44 cd_X1_passDay rfl rfl rfl rfl (Nat.le_of_ble_eq_true rfl) dX2_daysToHatch_60 ?_
        show zV χ 5 ad zSH 0 0 63 [(0, .ref (ad 20)), (1, .int (zi ((l : Nat) : Int))), (2, .int (zi h)), (3, .int (zi ((j : Nat) : Int))), (4, .int (zi (d (12 + l))))] [.int (zi ((zdayM n (μ 13) (μ 14) nc (μ 16) (d, b) : Nat) : Int))] (zup (zup μ 26 ((zday n (μ 13) (μ 14) nc (μ 16) (d, b)).1)) 27 ((zday n (μ 13) (μ 14) nc (μ 16) (d, b)).2))
        refine z_pop K dX2_daysToHatch_63 rfl ?_
        refine z_iincN (lv' := [(0, .ref (ad 20)), (1, .int (zi ((l : Nat) : Int))), (2, .int (zi h)), (3, .int (zi ((j + 1 : Nat) : Int))), (4, .int (zi (d (12 + l))))]) K dX2_daysToHatch_64 rfl (by decide) rfl ?_
        refine z_goto (tgt := 22) K dX2_daysToHatch_67 (by decide) ?_
        refine z_ipick [0, 1, 2, 3] rfl ?_
        exact ih (j + 1) (by omega) (by omega) _ _ (zday_ok hp.pk (s := (d, b)) hdv) (by
          rw [if_pos h40] at hF
          exact hF)
      · refine z_iload K dX2_daysToHatch_43 rfl ?_
        refine z_iconst K dX2_daysToHatch_45 ?_
        refine z_icmpne (tgt := 54) K dX2_daysToHatch_46 (by decide) (by omega) ⟨by decide, by decide⟩ (fun h46 => ?_) (fun h46 => ?_)
        · refine z_iload_n K dX2_daysToHatch_54 rfl ?_
          exact z_ireti K T rfl dX2_daysToHatch_55 ⟨(by rw [← hF, if_neg h40, if_neg h46]), _, _, rfl⟩
        · refine z_bipush K dX2_daysToHatch_49 (by decide +kernel) ?_
          refine z_goto (tgt := 55) K dX2_daysToHatch_51 (by decide) ?_
          exact z_ireti K T rfl dX2_daysToHatch_55 ⟨(by rw [← hF, if_neg h40, if_pos h46]), _, _, rfl⟩
  exact L22 0 (by omega) _ _ (zHV_hole hn6 hv hl hh) rfl
set_option maxHeartbeats 4000000 in
set_option maxRecDepth 100000 in
theorem ct_sendAll (la : Launch) (g0 : zG) (ad : Nat → Nat) (μ : zMem) (n nc : Nat) (hp : zPlan μ n nc) (x y : Nat → Int) (w : Nat) (hw : w < 27) : zCon la g0 yX2_sendAll cX2_sendAll 6 (some .int) 1 ad zSH [.ref (ad 20), .int (zi ((w : Nat) : Int))] (zup (zup μ 26 x) 27 y) (zPd (zup (zup μ 26 ((zsa nc (x, 0, 1, w)).1)) 27 y) (((zsa nc (x, 0, 1, w)).2.1 : Nat) : Int)) := by
  refine zCon_of (by decide +kernel) (Nat.le_of_ble_eq_true rfl) ?_
  intro χ K T hl1 hg1
  have K : zOk χ cX2_sendAll RX2 6 1 (some .int) := K
  obtain ⟨hn, hn6, hnc, hnc3, hpl, hpk⟩ := id hp
  show zV χ 6 ad zSH 0 0 0 [(0, .ref (ad 20)), (1, .int (zi ((w : Nat) : Int)))] [] (zup (zup μ 26 x) 27 y)
  refine z_iconst K dX2_sendAll_0 ?_
  refine z_istore_n (lv' := [(0, .ref (ad 20)), (1, .int (zi ((w : Nat) : Int))), (2, .int (zi (0 : Int)))]) K dX2_sendAll_1 (by decide) rfl ?_
  refine z_iconst K dX2_sendAll_2 ?_
  refine z_istore_n (lv' := [(0, .ref (ad 20)), (1, .int (zi ((w : Nat) : Int))), (2, .int (zi (0 : Int))), (3, .int (zi (1 : Int)))]) K dX2_sendAll_3 (by decide) rfl ?_
  refine z_iload_n K dX2_sendAll_4 rfl ?_
  refine z_istore (lv' := [(0, .ref (ad 20)), (1, .int (zi ((w : Nat) : Int))), (2, .int (zi (0 : Int))), (3, .int (zi (1 : Int))), (4, .int (zi ((w : Nat) : Int)))]) K dX2_sendAll_5 (by decide) rfl ?_
  refine z_aload_n K dX2_sendAll_7 rfl ?_
  refine z_get (k := 20) (v := .ref (ad 10)) K dX2_sendAll_8 fl_X2_24 rfl rfl rfl ?_
  refine z_get (k := 10) (v := .int (zi (μ 10 1))) K dX2_sendAll_11 fl_X2_59 rfl rfl rfl ?_
  refine z_iconst K dX2_sendAll_14 ?_
  refine z_isub K dX2_sendAll_15 ?_
  refine z_istore (lv' := [(0, .ref (ad 20)), (1, .int (zi ((w : Nat) : Int))), (2, .int (zi (0 : Int))), (3, .int (zi (1 : Int))), (4, .int (zi ((w : Nat) : Int))), (5, .int (zi ((μ 10 1) - (1 : Int))))]) K dX2_sendAll_16 (by decide) rfl ?_
  have L18 : ∀ j, ∀ (d : Nat → Int) (fg u r : Nat), j ≤ nc → zsa j (d, fg, u, r) = zsa nc (x, 0, 1, w) → r < 27 → zV χ 6 ad zSH 0 0 18 [(0, .ref (ad 20)), (1, .int (zi ((w : Nat) : Int))), (2, .int (zi ((fg : Nat) : Int))), (3, .int (zi ((u : Nat) : Int))), (4, .int (zi ((r : Nat) : Int))), (5, .int (zi (((j : Nat) : Int) + (-1 : Int))))] [] (zup (zup μ 26 d) 27 y) := by
    refine zdown ?_
    intro j ih d fg u r hj hF hr
    refine z_iload K dX2_sendAll_18 rfl ?_
    refine z_iflt (tgt := 64) K dX2_sendAll_20 (by decide) (by omega) (fun h20 => ?_) (fun h20 => ?_)
    · have hj0 : j = 0 := by omega
      subst hj0
      refine z_iload_n K dX2_sendAll_64 rfl ?_
      exact z_iretd K T rfl dX2_sendAll_65 (by rw [← hF]; rfl) (by rw [← hF]; rfl)
    · obtain ⟨k, rfl⟩ : ∃ k, j = k + 1 := ⟨j - 1, by omega⟩
      rw [show ((k + 1 : Nat) : Int) + (-1 : Int) = ((k : Nat) : Int) by omega]
      refine z_aload_n K dX2_sendAll_23 rfl ?_
      refine z_get (k := 20) (v := .ref (ad 25)) K dX2_sendAll_24 fl_X2_37 rfl rfl rfl ?_
      refine z_iload K dX2_sendAll_27 rfl ?_
      refine z_iload K dX2_sendAll_29 rfl ?_
      refine z_iconst K dX2_sendAll_31 ?_
      refine z_irem K dX2_sendAll_32 (by omega) (by omega) ?_
      rw [show (((r : Nat) : Int) % (3 : Int)) = ((r % 3 : Nat) : Int) from (by omega)]
      refine z_callVm K hl1 hg1 (kb := 25) (As := [.int (zi ((k : Nat) : Int)), .int (zi ((r % 3 : Nat) : Int))]) (rest := []) (ct_sendTo2 la g0 ad μ d y k (by omega) ((r % 3 : Nat) : Int)) (by decide) lk_X2_71 cd_X1_sendTo rfl rfl rfl rfl (Nat.le_of_ble_eq_true rfl) dX2_sendAll_33 ?_
      refine z_iload_n K dX2_sendAll_36 rfl ?_
      refine z_iload K dX2_sendAll_37 rfl ?_
      refine z_iconst K dX2_sendAll_39 ?_
      refine z_irem K dX2_sendAll_40 (by omega) (by omega) ?_
      rw [show (((r : Nat) : Int) % (3 : Int)) = ((r % 3 : Nat) : Int) from (by omega)]
      refine z_iconst K dX2_sendAll_41 ?_
      refine z_iadd K dX2_sendAll_42 ?_
      refine z_iload_n K dX2_sendAll_43 rfl ?_
      refine z_imul K dX2_sendAll_44 ?_
      refine z_iadd K dX2_sendAll_45 ?_
      rw [show (((fg : Nat) : Int) + ((((r % 3 : Nat) : Int) + (1 : Int)) * ((u : Nat) : Int))) = ((fg + (r % 3 + 1) * u : Nat) : Int) from (by push_cast; rfl)]
      refine z_istore_n (lv' := [(0, .ref (ad 20)), (1, .int (zi ((w : Nat) : Int))), (2, .int (zi ((fg + (r % 3 + 1) * u : Nat) : Int))), (3, .int (zi ((u : Nat) : Int))), (4, .int (zi ((r : Nat) : Int))), (5, .int (zi ((k : Nat) : Int)))]) K dX2_sendAll_46 (by decide) rfl ?_
      refine z_iload K dX2_sendAll_47 rfl ?_
      refine z_iconst K dX2_sendAll_49 ?_
      refine z_idiv K dX2_sendAll_50 (by omega) (by omega) ?_
      rw [show (((r : Nat) : Int) / (3 : Int)) = ((r / 3 : Nat) : Int) from (by omega)]
      refine z_istore (lv' := [(0, .ref (ad 20)), (1, .int (zi ((w : Nat) : Int))), (2, .int (zi ((fg + (r % 3 + 1) * u : Nat) : Int))), (3, .int (zi ((u : Nat) : Int))), (4, .int (zi ((r / 3 : Nat) : Int))), (5, .int (zi ((k : Nat) : Int)))]) K dX2_sendAll_51 (by decide) rfl ?_
      refine z_iload_n K dX2_sendAll_53 rfl ?_
      refine z_bipush K dX2_sendAll_54 (by decide +kernel) ?_
      refine z_imul K dX2_sendAll_56 ?_
      rw [show (((u : Nat) : Int) * (10 : Int)) = ((u * 10 : Nat) : Int) from (by omega)]
      refine z_istore_n (lv' := [(0, .ref (ad 20)), (1, .int (zi ((w : Nat) : Int))), (2, .int (zi ((fg + (r % 3 + 1) * u : Nat) : Int))), (3, .int (zi ((u * 10 : Nat) : Int))), (4, .int (zi ((r / 3 : Nat) : Int))), (5, .int (zi ((k : Nat) : Int)))]) K dX2_sendAll_57 (by decide) rfl ?_
      refine z_iinc (lv' := [(0, .ref (ad 20)), (1, .int (zi ((w : Nat) : Int))), (2, .int (zi ((fg + (r % 3 + 1) * u : Nat) : Int))), (3, .int (zi ((u * 10 : Nat) : Int))), (4, .int (zi ((r / 3 : Nat) : Int))), (5, .int (zi (((k : Nat) : Int) + (-1 : Int))))]) K dX2_sendAll_58 rfl (by decide) rfl ?_
      refine z_goto (tgt := 18) K dX2_sendAll_61 (by decide) ?_
      exact ih k (by omega) (zu1 d (18 + k) ((r % 3 : Nat) : Int)) (fg + (r % 3 + 1) * u) (u * 10) (r / 3) (by omega) (by rw [← hF, zsa_s]) (by omega)
  rw [hnc, show (nc : Int) - (1 : Int) = ((nc : Nat) : Int) + (-1 : Int) from rfl]
  exact L18 nc x 0 1 w (Nat.le_refl _) rfl hw
set_option maxHeartbeats 4000000 in
set_option maxRecDepth 100000 in
theorem ct_bestRows (la : Launch) (g0 : zG) (ad : Nat → Nat) (μ : zMem) (n nc : Nat) (hp : zPlan μ n nc) (hv : zHV n nc (μ 18)) (x y : Nat → Int) (q : Int) (hq : q = 0 ∨ q = 1) : zCon la g0 yX2_bestRows cX2_bestRows 8 (some .int) 4 ad zSH [.ref (ad 20), .int (zi q)] (zup (zup μ 26 x) 27 y) (zPi (zSc μ (if q = 0 then (zbr n (μ 13) (μ 14) nc (μ 16) (μ 18) (zp3 nc)).2 else (zbr n (μ 13) (μ 14) nc (μ 16) (μ 18) (zp3 nc)).1))) := by
  refine zCon_of (by decide +kernel) (Nat.le_of_ble_eq_true rfl) ?_
  intro χ K T hl1 hg1
  have K : zOk χ cX2_bestRows RX2 8 4 (some .int) := K
  obtain ⟨hn, hn6, hnc, hnc3, hpl, hpk⟩ := id hp
  have h27 := zp3_le nc hnc3
  show zV χ 8 ad zSH 0 0 0 [(0, .ref (ad 20)), (1, .int (zi q))] [] (zup (zup μ 26 x) 27 y)
  refine z_iconst K dX2_bestRows_0 ?_
  refine z_istore_n (lv' := [(0, .ref (ad 20)), (1, .int (zi q)), (2, .int (zi (1 : Int)))]) K dX2_bestRows_1 (by decide) rfl ?_
  refine z_iconst K dX2_bestRows_2 ?_
  refine z_istore_n (lv' := [(0, .ref (ad 20)), (1, .int (zi q)), (2, .int (zi (1 : Int))), (3, .int (zi (0 : Int)))]) K dX2_bestRows_3 (by decide) rfl ?_
  have L4 : ∀ k, k ≤ nc → zV χ 8 ad zSH 0 0 4 [(0, .ref (ad 20)), (1, .int (zi q)), (2, .int (zi ((zp3 k : Nat) : Int))), (3, .int (zi ((k : Nat) : Int)))] [] (zup (zup μ 26 x) 27 y) := by
    refine zfor ?_
    intro k hk ih
    have hk27 := zp3_le k (by omega)
    refine z_iload_n K dX2_bestRows_4 rfl ?_
    refine z_aload_n K dX2_bestRows_5 rfl ?_
    refine z_get (k := 20) (v := .ref (ad 10)) K dX2_bestRows_6 fl_X2_24 rfl rfl rfl ?_
    refine z_get (k := 10) (v := .int (zi (μ 10 1))) K dX2_bestRows_9 fl_X2_59 rfl rfl rfl ?_
    refine z_icmpge (tgt := 25) K dX2_bestRows_12 (by decide) (by omega) (by omega) (fun h12 => ?_) (fun h12 => ?_)
    · refine z_iconst K dX2_bestRows_25 ?_
      refine z_istore_n (lv' := [(0, .ref (ad 20)), (1, .int (zi q)), (2, .int (zi ((zp3 k : Nat) : Int))), (3, .int (zi (0 : Int)))]) K dX2_bestRows_26 (by decide) rfl ?_
      refine z_bipush K dX2_bestRows_27 (by decide +kernel) ?_
      refine z_istore (lv' := [(0, .ref (ad 20)), (1, .int (zi q)), (2, .int (zi ((zp3 k : Nat) : Int))), (3, .int (zi (0 : Int))), (4, .int (zi (-9 : Int)))]) K dX2_bestRows_29 (by decide) rfl ?_
      refine z_iconst K dX2_bestRows_31 ?_
      refine z_istore (lv' := [(0, .ref (ad 20)), (1, .int (zi q)), (2, .int (zi ((zp3 k : Nat) : Int))), (3, .int (zi (0 : Int))), (4, .int (zi (-9 : Int))), (5, .int (zi (0 : Int)))]) K dX2_bestRows_32 (by decide) rfl ?_
      have L34 : ∀ w, w ≤ zp3 nc → ∀ (x y : Nat → Int), zV χ 8 ad zSH 0 0 34 [(0, .ref (ad 20)), (1, .int (zi q)), (2, .int (zi ((zp3 nc : Nat) : Int))), (3, .int (zi ((zbr n (μ 13) (μ 14) nc (μ 16) (μ 18) w).1))), (4, .int (zi ((zbr n (μ 13) (μ 14) nc (μ 16) (μ 18) w).2))), (5, .int (zi ((w : Nat) : Int)))] [] (zup (zup μ 26 x) 27 y) := by
        refine zfor ?_
        intro w hw ih x y
        have hbr := zbr_rg n (μ 13) (μ 14) nc (μ 16) (μ 18) w
        have hwV : zval n (μ 13) (μ 14) nc (μ 16) (μ 18) w ≤ 6 := zpop_le _
        refine z_iload K dX2_bestRows_34 rfl ?_
        refine z_iload_n K dX2_bestRows_36 rfl ?_
        refine z_icmpge (tgt := 119) K dX2_bestRows_37 (by decide) (by omega) (by omega) (fun h37 => ?_) (fun h37 => ?_)
        · refine z_iload_n K dX2_bestRows_119 rfl ?_
          refine z_ifeq (tgt := 127) K dX2_bestRows_120 (by decide) (by omega) (fun h120 => ?_) (fun h120 => ?_)
          · refine z_iload K dX2_bestRows_127 rfl ?_
            exact z_ireti K T rfl dX2_bestRows_129 ⟨(by rw [if_pos h120, show zp3 nc = w by omega]), _, _, rfl⟩
          · refine z_iload_n K dX2_bestRows_123 rfl ?_
            refine z_goto (tgt := 129) K dX2_bestRows_124 (by decide) ?_
            exact z_ireti K T rfl dX2_bestRows_129 ⟨(by rw [if_neg h120, show zp3 nc = w by omega]), _, _, rfl⟩
        · have hsv := zsa_ok hn6 hnc3 nc (Nat.le_refl _) (μ 18, 0, 1, w) hv
          refine z_aload_n K dX2_bestRows_40 rfl ?_
          refine z_get (k := 20) (v := .ref (ad 25)) K dX2_bestRows_41 fl_X2_37 rfl rfl rfl ?_
          refine z_aload_n K dX2_bestRows_44 rfl ?_
          refine z_get (k := 20) (v := .ref (ad 17)) K dX2_bestRows_45 fl_X2_28 rfl rfl rfl ?_
          refine z_callVm K hl1 hg1 (kb := 25) (As := [.ref (ad 17)]) (rest := []) (ct_beLike2 la g0 ad μ x y) (by decide) lk_X2_40 cd_X1_beLike rfl rfl rfl rfl (Nat.le_of_ble_eq_true rfl) dX2_bestRows_48 ?_
          refine z_aload_n K dX2_bestRows_51 rfl ?_
          refine z_iload K dX2_bestRows_52 rfl ?_
          refine z_callVd K hl1 hg1 (kb := 20) (As := [.int (zi ((w : Nat) : Int))]) (rest := []) (ct_sendAll la g0 ad μ n nc hp (μ 18) zz0 w (by omega)) (by decide) lk_X2_65 cd_X2_sendAll rfl rfl rfl rfl (Nat.le_of_ble_eq_true rfl) dX2_bestRows_54 ?_
          show zV χ 8 ad zSH 0 0 57 [(0, .ref (ad 20)), (1, .int (zi q)), (2, .int (zi ((zp3 nc : Nat) : Int))), (3, .int (zi ((zbr n (μ 13) (μ 14) nc (μ 16) (μ 18) w).1))), (4, .int (zi ((zbr n (μ 13) (μ 14) nc (μ 16) (μ 18) w).2))), (5, .int (zi ((w : Nat) : Int)))] [.int (zi (((zsa nc (μ 18, 0, 1, w)).2.1 : Nat) : Int))] (zup (zup μ 26 ((zsa nc (μ 18, 0, 1, w)).1)) 27 zz0)
          refine z_istore (lv' := [(0, .ref (ad 20)), (1, .int (zi q)), (2, .int (zi ((zp3 nc : Nat) : Int))), (3, .int (zi ((zbr n (μ 13) (μ 14) nc (μ 16) (μ 18) w).1))), (4, .int (zi ((zbr n (μ 13) (μ 14) nc (μ 16) (μ 18) w).2))), (5, .int (zi ((w : Nat) : Int))), (6, .int (zi (((zsa nc (μ 18, 0, 1, w)).2.1 : Nat) : Int)))]) K dX2_bestRows_57 (by decide) rfl ?_
          refine z_iconst K dX2_bestRows_59 ?_
          refine z_istore (lv' := [(0, .ref (ad 20)), (1, .int (zi q)), (2, .int (zi ((zp3 nc : Nat) : Int))), (3, .int (zi ((zbr n (μ 13) (μ 14) nc (μ 16) (μ 18) w).1))), (4, .int (zi ((zbr n (μ 13) (μ 14) nc (μ 16) (μ 18) w).2))), (5, .int (zi ((w : Nat) : Int))), (6, .int (zi (((zsa nc (μ 18, 0, 1, w)).2.1 : Nat) : Int))), (7, .int (zi (0 : Int)))]) K dX2_bestRows_60 (by decide) rfl ?_
          have L62 : ∀ j, j ≤ 9 → ∀ (d b : Nat → Int), zdays n (μ 13) (μ 14) nc (μ 16) j ((zsa nc (μ 18, 0, 1, w)).1, zz0) = (d, b) → zV χ 8 ad zSH 0 0 62 [(0, .ref (ad 20)), (1, .int (zi q)), (2, .int (zi ((zp3 nc : Nat) : Int))), (3, .int (zi ((zbr n (μ 13) (μ 14) nc (μ 16) (μ 18) w).1))), (4, .int (zi ((zbr n (μ 13) (μ 14) nc (μ 16) (μ 18) w).2))), (5, .int (zi ((w : Nat) : Int))), (6, .int (zi (((zsa nc (μ 18, 0, 1, w)).2.1 : Nat) : Int))), (7, .int (zi ((j : Nat) : Int)))] [] (zup (zup μ 26 d) 27 b) := by
            refine zfor ?_
            intro j hj ih2 d b hF
            have hdv := zdays_ok hp.pk (s := ((zsa nc (μ 18, 0, 1, w)).1, zz0)) hsv j
            rw [hF] at hdv
            dsimp only at hdv
            refine z_iload K dX2_bestRows_62 rfl ?_
            refine z_bipush K dX2_bestRows_64 (by decide +kernel) ?_
            refine z_icmpge (tgt := 83) K dX2_bestRows_66 (by decide) (by omega) ⟨by decide, by decide⟩ (fun h66 => ?_) (fun h66 => ?_)
            · have hval : zlost n d = zval n (μ 13) (μ 14) nc (μ 16) (μ 18) w := by unfold zval; rw [← show j = 9 by omega, hF]
              refine z_aload_n K dX2_bestRows_83 rfl ?_
              refine z_get (k := 20) (v := .ref (ad 25)) K dX2_bestRows_84 fl_X2_37 rfl rfl rfl ?_
              refine z_callVd K hl1 hg1 (kb := 25) (As := []) (rest := []) (ct_lost_t la g0 ad (zup (zup μ 26 d) 27 b) n nc hp hdv.1) (by decide) lk_X2_68 cd_X1_lost rfl rfl rfl rfl (Nat.le_of_ble_eq_true rfl) dX2_bestRows_87 ?_
              show zV χ 8 ad zSH 0 0 90 [(0, .ref (ad 20)), (1, .int (zi q)), (2, .int (zi ((zp3 nc : Nat) : Int))), (3, .int (zi ((zbr n (μ 13) (μ 14) nc (μ 16) (μ 18) w).1))), (4, .int (zi ((zbr n (μ 13) (μ 14) nc (μ 16) (μ 18) w).2))), (5, .int (zi ((w : Nat) : Int))), (6, .int (zi (((zsa nc (μ 18, 0, 1, w)).2.1 : Nat) : Int))), (7, .int (zi ((j : Nat) : Int)))] [.int (zi ((zlost n d : Nat) : Int))] (zup (zup μ 26 d) 27 b)
              refine z_istore (lv' := [(0, .ref (ad 20)), (1, .int (zi q)), (2, .int (zi ((zp3 nc : Nat) : Int))), (3, .int (zi ((zbr n (μ 13) (μ 14) nc (μ 16) (μ 18) w).1))), (4, .int (zi ((zbr n (μ 13) (μ 14) nc (μ 16) (μ 18) w).2))), (5, .int (zi ((w : Nat) : Int))), (6, .int (zi (((zsa nc (μ 18, 0, 1, w)).2.1 : Nat) : Int))), (7, .int (zi ((zlost n d : Nat) : Int)))]) K dX2_bestRows_90 (by decide) rfl ?_
              refine z_iload K dX2_bestRows_92 rfl ?_
              refine z_bipush K dX2_bestRows_94 (by decide +kernel) ?_
              refine z_icmpeq (tgt := 106) K dX2_bestRows_96 (by decide) (by omega) ⟨by decide, by decide⟩ (fun h96 => ?_) (fun h96 => ?_)
              · refine z_iload K dX2_bestRows_106 rfl ?_
                refine z_istore (lv' := [(0, .ref (ad 20)), (1, .int (zi q)), (2, .int (zi ((zp3 nc : Nat) : Int))), (3, .int (zi ((zbr n (μ 13) (μ 14) nc (μ 16) (μ 18) w).1))), (4, .int (zi ((zlost n d : Nat) : Int))), (5, .int (zi ((w : Nat) : Int))), (6, .int (zi (((zsa nc (μ 18, 0, 1, w)).2.1 : Nat) : Int))), (7, .int (zi ((zlost n d : Nat) : Int)))]) K dX2_bestRows_108 (by decide) rfl ?_
                refine z_iload K dX2_bestRows_110 rfl ?_
                refine z_istore_n (lv' := [(0, .ref (ad 20)), (1, .int (zi q)), (2, .int (zi ((zp3 nc : Nat) : Int))), (3, .int (zi (((zsa nc (μ 18, 0, 1, w)).2.1 : Nat) : Int))), (4, .int (zi ((zlost n d : Nat) : Int))), (5, .int (zi ((w : Nat) : Int))), (6, .int (zi (((zsa nc (μ 18, 0, 1, w)).2.1 : Nat) : Int))), (7, .int (zi ((zlost n d : Nat) : Int)))]) K dX2_bestRows_112 (by decide) rfl ?_
                refine z_iincN (lv' := [(0, .ref (ad 20)), (1, .int (zi q)), (2, .int (zi ((zp3 nc : Nat) : Int))), (3, .int (zi (((zsa nc (μ 18, 0, 1, w)).2.1 : Nat) : Int))), (4, .int (zi ((zlost n d : Nat) : Int))), (5, .int (zi ((w + 1 : Nat) : Int))), (6, .int (zi (((zsa nc (μ 18, 0, 1, w)).2.1 : Nat) : Int))), (7, .int (zi ((zlost n d : Nat) : Int)))]) K dX2_bestRows_113 rfl (by decide) rfl ?_
                refine z_goto (tgt := 34) K dX2_bestRows_116 (by decide) ?_
                refine z_ipick [0, 1, 2, 3, 4, 5] rfl ?_
                rw [hval]
                have e9 : zbr n (μ 13) (μ 14) nc (μ 16) (μ 18) (w + 1) = ((((zsa nc (μ 18, 0, 1, w)).2.1 : Nat) : Int), ((zval n (μ 13) (μ 14) nc (μ 16) (μ 18) w : Nat) : Int)) := by
                  rw [zbr_s]
                  rw [if_pos (by omega)]
                have q9 := ih (w + 1) (by omega) (by omega) d b
                rw [e9] at q9
                exact q9
              · refine z_iload K dX2_bestRows_99 rfl ?_
                refine z_iload K dX2_bestRows_101 rfl ?_
                refine z_icmpge (tgt := 113) K dX2_bestRows_103 (by decide) (by omega) (by omega) (fun h103 => ?_) (fun h103 => ?_)
                · refine z_iincN (lv' := [(0, .ref (ad 20)), (1, .int (zi q)), (2, .int (zi ((zp3 nc : Nat) : Int))), (3, .int (zi ((zbr n (μ 13) (μ 14) nc (μ 16) (μ 18) w).1))), (4, .int (zi ((zbr n (μ 13) (μ 14) nc (μ 16) (μ 18) w).2))), (5, .int (zi ((w + 1 : Nat) : Int))), (6, .int (zi (((zsa nc (μ 18, 0, 1, w)).2.1 : Nat) : Int))), (7, .int (zi ((zlost n d : Nat) : Int)))]) K dX2_bestRows_113 rfl (by decide) rfl ?_
                  refine z_goto (tgt := 34) K dX2_bestRows_116 (by decide) ?_
                  refine z_ipick [0, 1, 2, 3, 4, 5] rfl ?_
                  have e9 : zbr n (μ 13) (μ 14) nc (μ 16) (μ 18) (w + 1) = zbr n (μ 13) (μ 14) nc (μ 16) (μ 18) w := by
                    rw [zbr_s]
                    rw [if_neg (by omega)]
                  have q9 := ih (w + 1) (by omega) (by omega) d b
                  rw [e9] at q9
                  exact q9
                · refine z_iload K dX2_bestRows_106 rfl ?_
                  refine z_istore (lv' := [(0, .ref (ad 20)), (1, .int (zi q)), (2, .int (zi ((zp3 nc : Nat) : Int))), (3, .int (zi ((zbr n (μ 13) (μ 14) nc (μ 16) (μ 18) w).1))), (4, .int (zi ((zlost n d : Nat) : Int))), (5, .int (zi ((w : Nat) : Int))), (6, .int (zi (((zsa nc (μ 18, 0, 1, w)).2.1 : Nat) : Int))), (7, .int (zi ((zlost n d : Nat) : Int)))]) K dX2_bestRows_108 (by decide) rfl ?_
                  refine z_iload K dX2_bestRows_110 rfl ?_
                  refine z_istore_n (lv' := [(0, .ref (ad 20)), (1, .int (zi q)), (2, .int (zi ((zp3 nc : Nat) : Int))), (3, .int (zi (((zsa nc (μ 18, 0, 1, w)).2.1 : Nat) : Int))), (4, .int (zi ((zlost n d : Nat) : Int))), (5, .int (zi ((w : Nat) : Int))), (6, .int (zi (((zsa nc (μ 18, 0, 1, w)).2.1 : Nat) : Int))), (7, .int (zi ((zlost n d : Nat) : Int)))]) K dX2_bestRows_112 (by decide) rfl ?_
                  refine z_iincN (lv' := [(0, .ref (ad 20)), (1, .int (zi q)), (2, .int (zi ((zp3 nc : Nat) : Int))), (3, .int (zi (((zsa nc (μ 18, 0, 1, w)).2.1 : Nat) : Int))), (4, .int (zi ((zlost n d : Nat) : Int))), (5, .int (zi ((w + 1 : Nat) : Int))), (6, .int (zi (((zsa nc (μ 18, 0, 1, w)).2.1 : Nat) : Int))), (7, .int (zi ((zlost n d : Nat) : Int)))]) K dX2_bestRows_113 rfl (by decide) rfl ?_
                  refine z_goto (tgt := 34) K dX2_bestRows_116 (by decide) ?_
                  refine z_ipick [0, 1, 2, 3, 4, 5] rfl ?_
                  rw [hval]
                  have e9 : zbr n (μ 13) (μ 14) nc (μ 16) (μ 18) (w + 1) = ((((zsa nc (μ 18, 0, 1, w)).2.1 : Nat) : Int), ((zval n (μ 13) (μ 14) nc (μ 16) (μ 18) w : Nat) : Int)) := by
                    rw [zbr_s]
                    rw [if_pos (by omega)]
                  have q9 := ih (w + 1) (by omega) (by omega) d b
                  rw [e9] at q9
                  exact q9
            · refine z_aload_n K dX2_bestRows_69 rfl ?_
              refine z_get (k := 20) (v := .ref (ad 25)) K dX2_bestRows_70 fl_X2_37 rfl rfl rfl ?_
              refine z_callVd K hl1 hg1 (kb := 25) (As := []) (rest := []) (ct_passDay_t la g0 ad μ n nc hp d b hdv) (by decide) lk_X2_44 cd_X1_passDay rfl rfl rfl rfl (Nat.le_of_ble_eq_true rfl) dX2_bestRows_73 ?_
              show zV χ 8 ad zSH 0 0 76 [(0, .ref (ad 20)), (1, .int (zi q)), (2, .int (zi ((zp3 nc : Nat) : Int))), (3, .int (zi ((zbr n (μ 13) (μ 14) nc (μ 16) (μ 18) w).1))), (4, .int (zi ((zbr n (μ 13) (μ 14) nc (μ 16) (μ 18) w).2))), (5, .int (zi ((w : Nat) : Int))), (6, .int (zi (((zsa nc (μ 18, 0, 1, w)).2.1 : Nat) : Int))), (7, .int (zi ((j : Nat) : Int)))] [.int (zi ((zdayM n (μ 13) (μ 14) nc (μ 16) (d, b) : Nat) : Int))] (zup (zup μ 26 ((zday n (μ 13) (μ 14) nc (μ 16) (d, b)).1)) 27 ((zday n (μ 13) (μ 14) nc (μ 16) (d, b)).2))
              refine z_pop K dX2_bestRows_76 rfl ?_
              refine z_iincN (lv' := [(0, .ref (ad 20)), (1, .int (zi q)), (2, .int (zi ((zp3 nc : Nat) : Int))), (3, .int (zi ((zbr n (μ 13) (μ 14) nc (μ 16) (μ 18) w).1))), (4, .int (zi ((zbr n (μ 13) (μ 14) nc (μ 16) (μ 18) w).2))), (5, .int (zi ((w : Nat) : Int))), (6, .int (zi (((zsa nc (μ 18, 0, 1, w)).2.1 : Nat) : Int))), (7, .int (zi ((j + 1 : Nat) : Int)))]) K dX2_bestRows_77 rfl (by decide) rfl ?_
              refine z_goto (tgt := 62) K dX2_bestRows_80 (by decide) ?_
              exact ih2 (j + 1) (by omega) (by omega) _ _ (by show zday n (μ 13) (μ 14) nc (μ 16) (zdays n (μ 13) (μ 14) nc (μ 16) j ((zsa nc (μ 18, 0, 1, w)).1, zz0)) = _; rw [hF])
          exact L62 0 (by omega) _ _ rfl
      rw [show k = nc by omega]
      exact L34 0 (by omega) x y
    · refine z_iload_n K dX2_bestRows_15 rfl ?_
      refine z_iconst K dX2_bestRows_16 ?_
      refine z_imul K dX2_bestRows_17 ?_
      rw [show (((zp3 k : Nat) : Int) * (3 : Int)) = ((zp3 (k + 1) : Nat) : Int) from (by show _ = ((zp3 k * 3 : Nat) : Int); omega)]
      refine z_istore_n (lv' := [(0, .ref (ad 20)), (1, .int (zi q)), (2, .int (zi ((zp3 (k + 1) : Nat) : Int))), (3, .int (zi ((k : Nat) : Int)))]) K dX2_bestRows_18 (by decide) rfl ?_
      refine z_iincN (lv' := [(0, .ref (ad 20)), (1, .int (zi q)), (2, .int (zi ((zp3 (k + 1) : Nat) : Int))), (3, .int (zi ((k + 1 : Nat) : Int)))]) K dX2_bestRows_19 rfl (by decide) rfl ?_
      refine z_goto (tgt := 4) K dX2_bestRows_22 (by decide) ?_
      exact ih (k + 1) (by omega) (by omega)
  exact L4 0 (by omega)
set_option maxHeartbeats 4000000 in
set_option maxRecDepth 100000 in
theorem ct_safestHole (la : Launch) (g0 : zG) (ad : Nat → Nat) (μ : zMem) (n nc : Nat) (hp : zPlan μ n nc) (hv : zHV n nc (μ 18)) (x y : Nat → Int) (l : Nat) (hl : l < n) : zCon la g0 yX2_safestHole cX2_safestHole 6 (some .int) 5 ad zSH [.ref (ad 20), .int (zi ((l : Nat) : Int))] (zup (zup μ 26 x) 27 y) (zPi (zSc μ ((zsh n (μ 13) (μ 14) nc (μ 16) (μ 18) l 12).1))) := by
  refine zCon_of (by decide +kernel) (Nat.le_of_ble_eq_true rfl) ?_
  intro χ K T hl1 hg1
  have K : zOk χ cX2_safestHole RX2 6 5 (some .int) := K
  obtain ⟨hn, hn6, hnc, hnc3, hpl, hpk⟩ := id hp
  show zV χ 6 ad zSH 0 0 0 [(0, .ref (ad 20)), (1, .int (zi ((l : Nat) : Int)))] [] (zup (zup μ 26 x) 27 y)
  refine z_bipush K dX2_safestHole_0 (by decide +kernel) ?_
  refine z_istore_n (lv' := [(0, .ref (ad 20)), (1, .int (zi ((l : Nat) : Int))), (2, .int (zi (-9 : Int)))]) K dX2_safestHole_2 (by decide) rfl ?_
  refine z_iconst K dX2_safestHole_3 ?_
  refine z_istore_n (lv' := [(0, .ref (ad 20)), (1, .int (zi ((l : Nat) : Int))), (2, .int (zi (-9 : Int))), (3, .int (zi (0 : Int)))]) K dX2_safestHole_4 (by decide) rfl ?_
  refine z_iconst K dX2_safestHole_5 ?_
  refine z_istore (lv' := [(0, .ref (ad 20)), (1, .int (zi ((l : Nat) : Int))), (2, .int (zi (-9 : Int))), (3, .int (zi (0 : Int))), (4, .int (zi (0 : Int)))]) K dX2_safestHole_6 (by decide) rfl ?_
  have L8 : ∀ h, h ≤ 12 → ∀ (x y : Nat → Int), zV χ 6 ad zSH 0 0 8 [(0, .ref (ad 20)), (1, .int (zi ((l : Nat) : Int))), (2, .int (zi ((zsh n (μ 13) (μ 14) nc (μ 16) (μ 18) l h).1))), (3, .int (zi ((zsh n (μ 13) (μ 14) nc (μ 16) (μ 18) l h).2))), (4, .int (zi ((h : Nat) : Int)))] [] (zup (zup μ 26 x) 27 y) := by
    refine zfor ?_
    intro h hh ih x y
    have hrg := zsh_rg n (μ 13) (μ 14) nc (μ 16) (μ 18) l h
    have hdt := zdt_rg (n := n) (nc := nc) (kd := μ 13) (al := μ 14) (an := μ 16) l 21 0 (zu1 (μ 18) l h, zz0) (by omega)
    have hdt : 0 ≤ zdth n (μ 13) (μ 14) nc (μ 16) (μ 18) l h ∧ zdth n (μ 13) (μ 14) nc (μ 16) (μ 18) l h ≤ 21 := hdt
    have hvl := hv.1.1 l hl
    refine z_iload K dX2_safestHole_8 rfl ?_
    refine z_bipush K dX2_safestHole_10 (by decide +kernel) ?_
    refine z_icmpge (tgt := 74) K dX2_safestHole_12 (by decide) (by omega) ⟨by decide, by decide⟩ (fun h12 => ?_) (fun h12 => ?_)
    · refine z_iload_n K dX2_safestHole_74 rfl ?_
      exact z_ireti K T rfl dX2_safestHole_75 ⟨(by rw [show h = 12 by omega]), _, _, rfl⟩
    · refine z_iload K dX2_safestHole_15 rfl ?_
      refine z_aload_n K dX2_safestHole_17 rfl ?_
      refine z_get (k := 20) (v := .ref (ad 17)) K dX2_safestHole_18 fl_X2_28 rfl rfl rfl ?_
      refine z_iload_n K dX2_safestHole_21 rfl ?_
      refine z_callVd K hl1 hg1 (kb := 17) (As := [.int (zi ((l : Nat) : Int))]) (rest := [.int (zi ((h : Nat) : Int))]) (ct_holeOf la g0 ad (zup (zup μ 26 x) 27 y) n nc hp hv.1 l hl) (by decide) lk_X2_74 cd_X1_holeOf rfl rfl rfl rfl (Nat.le_of_ble_eq_true rfl) dX2_safestHole_22 ?_
      show zV χ 6 ad zSH 0 0 25 [(0, .ref (ad 20)), (1, .int (zi ((l : Nat) : Int))), (2, .int (zi ((zsh n (μ 13) (μ 14) nc (μ 16) (μ 18) l h).1))), (3, .int (zi ((zsh n (μ 13) (μ 14) nc (μ 16) (μ 18) l h).2))), (4, .int (zi ((h : Nat) : Int)))] [.int (zi (μ 18 l)), .int (zi ((h : Nat) : Int))] (zup (zup μ 26 x) 27 y)
      refine z_icmpeq (tgt := 41) K dX2_safestHole_25 (by decide) (by omega) (by omega) (fun h25 => ?_) (fun h25 => ?_)
      · refine z_aload_n K dX2_safestHole_41 rfl ?_
        refine z_iload_n K dX2_safestHole_42 rfl ?_
        refine z_iload K dX2_safestHole_43 rfl ?_
        refine z_callVi K hl1 hg1 (kb := 20) (As := [.int (zi ((l : Nat) : Int)), .int (zi ((h : Nat) : Int))]) (rest := []) (ct_daysToHatch la g0 ad μ n nc hp hv x y l hl ((h : Nat) : Int) ⟨by omega, by omega⟩) (by decide) lk_X2_81 cd_X2_daysToHatch rfl rfl rfl rfl (Nat.le_of_ble_eq_true rfl) dX2_safestHole_45 (fun r45 ν h45 => ?_)
        obtain ⟨hr45, x2, y2, hν⟩ := h45
        subst hr45
        subst hν
        refine z_istore (lv' := [(0, .ref (ad 20)), (1, .int (zi ((l : Nat) : Int))), (2, .int (zi ((zsh n (μ 13) (μ 14) nc (μ 16) (μ 18) l h).1))), (3, .int (zi ((zsh n (μ 13) (μ 14) nc (μ 16) (μ 18) l h).2))), (4, .int (zi ((h : Nat) : Int))), (5, .int (zi (zdth n (μ 13) (μ 14) nc (μ 16) (μ 18) l h)))]) K dX2_safestHole_48 (by decide) rfl ?_
        refine z_iload_n K dX2_safestHole_50 rfl ?_
        refine z_bipush K dX2_safestHole_51 (by decide +kernel) ?_
        refine z_icmpeq (tgt := 62) K dX2_safestHole_53 (by decide) (by omega) ⟨by decide, by decide⟩ (fun h53 => ?_) (fun h53 => ?_)
        · refine z_iload K dX2_safestHole_62 rfl ?_
          refine z_istore_n (lv' := [(0, .ref (ad 20)), (1, .int (zi ((l : Nat) : Int))), (2, .int (zi ((h : Nat) : Int))), (3, .int (zi ((zsh n (μ 13) (μ 14) nc (μ 16) (μ 18) l h).2))), (4, .int (zi ((h : Nat) : Int))), (5, .int (zi (zdth n (μ 13) (μ 14) nc (μ 16) (μ 18) l h)))]) K dX2_safestHole_64 (by decide) rfl ?_
          refine z_iload K dX2_safestHole_65 rfl ?_
          refine z_istore_n (lv' := [(0, .ref (ad 20)), (1, .int (zi ((l : Nat) : Int))), (2, .int (zi ((h : Nat) : Int))), (3, .int (zi (zdth n (μ 13) (μ 14) nc (μ 16) (μ 18) l h))), (4, .int (zi ((h : Nat) : Int))), (5, .int (zi (zdth n (μ 13) (μ 14) nc (μ 16) (μ 18) l h)))]) K dX2_safestHole_67 (by decide) rfl ?_
          refine z_iincN (lv' := [(0, .ref (ad 20)), (1, .int (zi ((l : Nat) : Int))), (2, .int (zi ((h : Nat) : Int))), (3, .int (zi (zdth n (μ 13) (μ 14) nc (μ 16) (μ 18) l h))), (4, .int (zi ((h + 1 : Nat) : Int))), (5, .int (zi (zdth n (μ 13) (μ 14) nc (μ 16) (μ 18) l h)))]) K dX2_safestHole_68 rfl (by decide) rfl ?_
          refine z_goto (tgt := 8) K dX2_safestHole_71 (by decide) ?_
          refine z_ipick [0, 1, 2, 3, 4] rfl ?_
          have e9 : zsh n (μ 13) (μ 14) nc (μ 16) (μ 18) l (h + 1) = (((h : Nat) : Int), zdth n (μ 13) (μ 14) nc (μ 16) (μ 18) l h) := by
            rw [zsh_s]
            rw [if_pos ⟨by omega, by omega⟩]
          have q9 := ih (h + 1) (by omega) (by omega) x2 y2
          rw [e9] at q9
          exact q9
        · refine z_iload K dX2_safestHole_56 rfl ?_
          refine z_iload_n K dX2_safestHole_58 rfl ?_
          refine z_icmple (tgt := 68) K dX2_safestHole_59 (by decide) (by omega) (by omega) (fun h59 => ?_) (fun h59 => ?_)
          · refine z_iincN (lv' := [(0, .ref (ad 20)), (1, .int (zi ((l : Nat) : Int))), (2, .int (zi ((zsh n (μ 13) (μ 14) nc (μ 16) (μ 18) l h).1))), (3, .int (zi ((zsh n (μ 13) (μ 14) nc (μ 16) (μ 18) l h).2))), (4, .int (zi ((h + 1 : Nat) : Int))), (5, .int (zi (zdth n (μ 13) (μ 14) nc (μ 16) (μ 18) l h)))]) K dX2_safestHole_68 rfl (by decide) rfl ?_
            refine z_goto (tgt := 8) K dX2_safestHole_71 (by decide) ?_
            refine z_ipick [0, 1, 2, 3, 4] rfl ?_
            have e9 : zsh n (μ 13) (μ 14) nc (μ 16) (μ 18) l (h + 1) = zsh n (μ 13) (μ 14) nc (μ 16) (μ 18) l h := by
              rw [zsh_s]
              rw [if_neg (by omega)]
            have q9 := ih (h + 1) (by omega) (by omega) x2 y2
            rw [e9] at q9
            exact q9
          · refine z_iload K dX2_safestHole_62 rfl ?_
            refine z_istore_n (lv' := [(0, .ref (ad 20)), (1, .int (zi ((l : Nat) : Int))), (2, .int (zi ((h : Nat) : Int))), (3, .int (zi ((zsh n (μ 13) (μ 14) nc (μ 16) (μ 18) l h).2))), (4, .int (zi ((h : Nat) : Int))), (5, .int (zi (zdth n (μ 13) (μ 14) nc (μ 16) (μ 18) l h)))]) K dX2_safestHole_64 (by decide) rfl ?_
            refine z_iload K dX2_safestHole_65 rfl ?_
            refine z_istore_n (lv' := [(0, .ref (ad 20)), (1, .int (zi ((l : Nat) : Int))), (2, .int (zi ((h : Nat) : Int))), (3, .int (zi (zdth n (μ 13) (μ 14) nc (μ 16) (μ 18) l h))), (4, .int (zi ((h : Nat) : Int))), (5, .int (zi (zdth n (μ 13) (μ 14) nc (μ 16) (μ 18) l h)))]) K dX2_safestHole_67 (by decide) rfl ?_
            refine z_iincN (lv' := [(0, .ref (ad 20)), (1, .int (zi ((l : Nat) : Int))), (2, .int (zi ((h : Nat) : Int))), (3, .int (zi (zdth n (μ 13) (μ 14) nc (μ 16) (μ 18) l h))), (4, .int (zi ((h + 1 : Nat) : Int))), (5, .int (zi (zdth n (μ 13) (μ 14) nc (μ 16) (μ 18) l h)))]) K dX2_safestHole_68 rfl (by decide) rfl ?_
            refine z_goto (tgt := 8) K dX2_safestHole_71 (by decide) ?_
            refine z_ipick [0, 1, 2, 3, 4] rfl ?_
            have e9 : zsh n (μ 13) (μ 14) nc (μ 16) (μ 18) l (h + 1) = (((h : Nat) : Int), zdth n (μ 13) (μ 14) nc (μ 16) (μ 18) l h) := by
              rw [zsh_s]
              rw [if_pos ⟨by omega, by omega⟩]
            have q9 := ih (h + 1) (by omega) (by omega) x2 y2
            rw [e9] at q9
            exact q9
      · refine z_aload_n K dX2_safestHole_28 rfl ?_
        refine z_get (k := 20) (v := .ref (ad 17)) K dX2_safestHole_29 fl_X2_28 rfl rfl rfl ?_
        refine z_iload_n K dX2_safestHole_32 rfl ?_
        refine z_iload K dX2_safestHole_33 rfl ?_
        refine z_callVd K hl1 hg1 (kb := 17) (As := [.int (zi ((l : Nat) : Int)), .int (zi ((h : Nat) : Int))]) (rest := []) (ct_canPut_n la g0 ad (zup (zup μ 26 x) 27 y) n nc hp hv.1 ((l : Nat) : Int) ((h : Nat) : Int) ⟨by omega, by omega⟩ ⟨by omega, by omega⟩) (by decide) lk_X2_77 cd_X1_canPut rfl rfl rfl rfl (Nat.le_of_ble_eq_true rfl) dX2_safestHole_35 ?_
        show zV χ 6 ad zSH 0 0 38 [(0, .ref (ad 20)), (1, .int (zi ((l : Nat) : Int))), (2, .int (zi ((zsh n (μ 13) (μ 14) nc (μ 16) (μ 18) l h).1))), (3, .int (zi ((zsh n (μ 13) (μ 14) nc (μ 16) (μ 18) l h).2))), (4, .int (zi ((h : Nat) : Int)))] [.int (zi (if (0 ≤ ((l : Nat) : Int) ∧ ((l : Nat) : Int) < (n : Int)) ∧ (0 ≤ ((h : Nat) : Int) ∧ ((h : Nat) : Int) < 12) ∧ μ 18 (12 + ((l : Nat) : Int).toNat) = 0 ∧ μ 18 ((l : Nat) : Int).toNat ≠ ((h : Nat) : Int) ∧ zpop (zin (μ 18) ((h : Nat) : Int) n) < 2 then 1 else 0))] (zup (zup μ 26 x) 27 y)
        refine z_ifeq (tgt := 68) K dX2_safestHole_38 (by decide) (by omega) (fun h38 => ?_) (fun h38 => ?_)
        · refine z_iincN (lv' := [(0, .ref (ad 20)), (1, .int (zi ((l : Nat) : Int))), (2, .int (zi ((zsh n (μ 13) (μ 14) nc (μ 16) (μ 18) l h).1))), (3, .int (zi ((zsh n (μ 13) (μ 14) nc (μ 16) (μ 18) l h).2))), (4, .int (zi ((h + 1 : Nat) : Int)))]) K dX2_safestHole_68 rfl (by decide) rfl ?_
          refine z_goto (tgt := 8) K dX2_safestHole_71 (by decide) ?_
          have e9 : zsh n (μ 13) (μ 14) nc (μ 16) (μ 18) l (h + 1) = zsh n (μ 13) (μ 14) nc (μ 16) (μ 18) l h := by
            rw [zsh_s]
            rw [if_neg (by omega)]
          have q9 := ih (h + 1) (by omega) (by omega) x y
          rw [e9] at q9
          exact q9
        · refine z_aload_n K dX2_safestHole_41 rfl ?_
          refine z_iload_n K dX2_safestHole_42 rfl ?_
          refine z_iload K dX2_safestHole_43 rfl ?_
          refine z_callVi K hl1 hg1 (kb := 20) (As := [.int (zi ((l : Nat) : Int)), .int (zi ((h : Nat) : Int))]) (rest := []) (ct_daysToHatch la g0 ad μ n nc hp hv x y l hl ((h : Nat) : Int) ⟨by omega, by omega⟩) (by decide) lk_X2_81 cd_X2_daysToHatch rfl rfl rfl rfl (Nat.le_of_ble_eq_true rfl) dX2_safestHole_45 (fun r45 ν h45 => ?_)
          obtain ⟨hr45, x2, y2, hν⟩ := h45
          subst hr45
          subst hν
          refine z_istore (lv' := [(0, .ref (ad 20)), (1, .int (zi ((l : Nat) : Int))), (2, .int (zi ((zsh n (μ 13) (μ 14) nc (μ 16) (μ 18) l h).1))), (3, .int (zi ((zsh n (μ 13) (μ 14) nc (μ 16) (μ 18) l h).2))), (4, .int (zi ((h : Nat) : Int))), (5, .int (zi (zdth n (μ 13) (μ 14) nc (μ 16) (μ 18) l h)))]) K dX2_safestHole_48 (by decide) rfl ?_
          refine z_iload_n K dX2_safestHole_50 rfl ?_
          refine z_bipush K dX2_safestHole_51 (by decide +kernel) ?_
          refine z_icmpeq (tgt := 62) K dX2_safestHole_53 (by decide) (by omega) ⟨by decide, by decide⟩ (fun h53 => ?_) (fun h53 => ?_)
          · refine z_iload K dX2_safestHole_62 rfl ?_
            refine z_istore_n (lv' := [(0, .ref (ad 20)), (1, .int (zi ((l : Nat) : Int))), (2, .int (zi ((h : Nat) : Int))), (3, .int (zi ((zsh n (μ 13) (μ 14) nc (μ 16) (μ 18) l h).2))), (4, .int (zi ((h : Nat) : Int))), (5, .int (zi (zdth n (μ 13) (μ 14) nc (μ 16) (μ 18) l h)))]) K dX2_safestHole_64 (by decide) rfl ?_
            refine z_iload K dX2_safestHole_65 rfl ?_
            refine z_istore_n (lv' := [(0, .ref (ad 20)), (1, .int (zi ((l : Nat) : Int))), (2, .int (zi ((h : Nat) : Int))), (3, .int (zi (zdth n (μ 13) (μ 14) nc (μ 16) (μ 18) l h))), (4, .int (zi ((h : Nat) : Int))), (5, .int (zi (zdth n (μ 13) (μ 14) nc (μ 16) (μ 18) l h)))]) K dX2_safestHole_67 (by decide) rfl ?_
            refine z_iincN (lv' := [(0, .ref (ad 20)), (1, .int (zi ((l : Nat) : Int))), (2, .int (zi ((h : Nat) : Int))), (3, .int (zi (zdth n (μ 13) (μ 14) nc (μ 16) (μ 18) l h))), (4, .int (zi ((h + 1 : Nat) : Int))), (5, .int (zi (zdth n (μ 13) (μ 14) nc (μ 16) (μ 18) l h)))]) K dX2_safestHole_68 rfl (by decide) rfl ?_
            refine z_goto (tgt := 8) K dX2_safestHole_71 (by decide) ?_
            refine z_ipick [0, 1, 2, 3, 4] rfl ?_
            have e9 : zsh n (μ 13) (μ 14) nc (μ 16) (μ 18) l (h + 1) = (((h : Nat) : Int), zdth n (μ 13) (μ 14) nc (μ 16) (μ 18) l h) := by
              rw [zsh_s]
              rw [if_pos ⟨by omega, by omega⟩]
            have q9 := ih (h + 1) (by omega) (by omega) x2 y2
            rw [e9] at q9
            exact q9
          · refine z_iload K dX2_safestHole_56 rfl ?_
            refine z_iload_n K dX2_safestHole_58 rfl ?_
            refine z_icmple (tgt := 68) K dX2_safestHole_59 (by decide) (by omega) (by omega) (fun h59 => ?_) (fun h59 => ?_)
            · refine z_iincN (lv' := [(0, .ref (ad 20)), (1, .int (zi ((l : Nat) : Int))), (2, .int (zi ((zsh n (μ 13) (μ 14) nc (μ 16) (μ 18) l h).1))), (3, .int (zi ((zsh n (μ 13) (μ 14) nc (μ 16) (μ 18) l h).2))), (4, .int (zi ((h + 1 : Nat) : Int))), (5, .int (zi (zdth n (μ 13) (μ 14) nc (μ 16) (μ 18) l h)))]) K dX2_safestHole_68 rfl (by decide) rfl ?_
              refine z_goto (tgt := 8) K dX2_safestHole_71 (by decide) ?_
              refine z_ipick [0, 1, 2, 3, 4] rfl ?_
              have e9 : zsh n (μ 13) (μ 14) nc (μ 16) (μ 18) l (h + 1) = zsh n (μ 13) (μ 14) nc (μ 16) (μ 18) l h := by
                rw [zsh_s]
                rw [if_neg (by omega)]
              have q9 := ih (h + 1) (by omega) (by omega) x2 y2
              rw [e9] at q9
              exact q9
            · refine z_iload K dX2_safestHole_62 rfl ?_
              refine z_istore_n (lv' := [(0, .ref (ad 20)), (1, .int (zi ((l : Nat) : Int))), (2, .int (zi ((h : Nat) : Int))), (3, .int (zi ((zsh n (μ 13) (μ 14) nc (μ 16) (μ 18) l h).2))), (4, .int (zi ((h : Nat) : Int))), (5, .int (zi (zdth n (μ 13) (μ 14) nc (μ 16) (μ 18) l h)))]) K dX2_safestHole_64 (by decide) rfl ?_
              refine z_iload K dX2_safestHole_65 rfl ?_
              refine z_istore_n (lv' := [(0, .ref (ad 20)), (1, .int (zi ((l : Nat) : Int))), (2, .int (zi ((h : Nat) : Int))), (3, .int (zi (zdth n (μ 13) (μ 14) nc (μ 16) (μ 18) l h))), (4, .int (zi ((h : Nat) : Int))), (5, .int (zi (zdth n (μ 13) (μ 14) nc (μ 16) (μ 18) l h)))]) K dX2_safestHole_67 (by decide) rfl ?_
              refine z_iincN (lv' := [(0, .ref (ad 20)), (1, .int (zi ((l : Nat) : Int))), (2, .int (zi ((h : Nat) : Int))), (3, .int (zi (zdth n (μ 13) (μ 14) nc (μ 16) (μ 18) l h))), (4, .int (zi ((h + 1 : Nat) : Int))), (5, .int (zi (zdth n (μ 13) (μ 14) nc (μ 16) (μ 18) l h)))]) K dX2_safestHole_68 rfl (by decide) rfl ?_
              refine z_goto (tgt := 8) K dX2_safestHole_71 (by decide) ?_
              refine z_ipick [0, 1, 2, 3, 4] rfl ?_
              have e9 : zsh n (μ 13) (μ 14) nc (μ 16) (μ 18) l (h + 1) = (((h : Nat) : Int), zdth n (μ 13) (μ 14) nc (μ 16) (μ 18) l h) := by
                rw [zsh_s]
                rw [if_pos ⟨by omega, by omega⟩]
              have q9 := ih (h + 1) (by omega) (by omega) x2 y2
              rw [e9] at q9
              exact q9
  exact L8 0 (by omega) x y
set_option maxHeartbeats 4000000 in
set_option maxRecDepth 100000 in
theorem ct_isQuiet (la : Launch) (g0 : zG) (ad : Nat → Nat) (μ : zMem) (n nc : Nat) (hp : zPlan μ n nc) (hv : zHV n nc (μ 18)) (x y : Nat → Int) (b : Nat) (hb : b < 64) : zCon la g0 yX2_isQuiet cX2_isQuiet 3 (some .boolean) 4 ad zSH [.ref (ad 20), .int (zi ((b : Nat) : Int))] (zup (zup μ 26 x) 27 y) (zPi (zSc μ (if zqu n (μ 13) (μ 14) nc (μ 16) (μ 18) b = true then 1 else 0))) := by
  refine zCon_of (by decide +kernel) (Nat.le_of_ble_eq_true rfl) ?_
  intro χ K T hl1 hg1
  have K : zOk χ cX2_isQuiet RX2 3 4 (some .boolean) := K
  obtain ⟨hn, hn6, hnc, hnc3, hpl, hpk⟩ := id hp
  show zV χ 3 ad zSH 0 0 0 [(0, .ref (ad 20)), (1, .int (zi ((b : Nat) : Int)))] [] (zup (zup μ 26 x) 27 y)
  refine z_aload_n K dX2_isQuiet_0 rfl ?_
  refine z_get (k := 20) (v := .ref (ad 25)) K dX2_isQuiet_1 fl_X2_37 rfl rfl rfl ?_
  refine z_aload_n K dX2_isQuiet_4 rfl ?_
  refine z_get (k := 20) (v := .ref (ad 17)) K dX2_isQuiet_5 fl_X2_28 rfl rfl rfl ?_
  refine z_callVm K hl1 hg1 (kb := 25) (As := [.ref (ad 17)]) (rest := []) (ct_beLike2 la g0 ad μ x y) (by decide) lk_X2_40 cd_X1_beLike rfl rfl rfl rfl (Nat.le_of_ble_eq_true rfl) dX2_isQuiet_8 ?_
  refine z_iconst K dX2_isQuiet_11 ?_
  refine z_istore_n (lv' := [(0, .ref (ad 20)), (1, .int (zi ((b : Nat) : Int))), (2, .int (zi (0 : Int)))]) K dX2_isQuiet_12 (by decide) rfl ?_
  have L13 : ∀ l, l ≤ n → zV χ 3 ad zSH 0 0 13 [(0, .ref (ad 20)), (1, .int (zi ((b : Nat) : Int))), (2, .int (zi ((l : Nat) : Int)))] [] (zup (zup μ 26 (zanb (μ 18) b l)) 27 zz0) := by
    refine zfor ?_
    intro l hl ih
    have hbl : zbit b l < 2 := Nat.mod_lt _ (by decide)
    refine z_iload_n K dX2_isQuiet_13 rfl ?_
    refine z_aload_n K dX2_isQuiet_14 rfl ?_
    refine z_get (k := 20) (v := .ref (ad 10)) K dX2_isQuiet_15 fl_X2_24 rfl rfl rfl ?_
    refine z_get (k := 10) (v := .int (zi (μ 10 0))) K dX2_isQuiet_18 fl_X2_94 rfl rfl rfl ?_
    refine z_icmpge (tgt := 46) K dX2_isQuiet_21 (by decide) (by omega) (by omega) (fun h21 => ?_) (fun h21 => ?_)
    · refine z_iconst K dX2_isQuiet_46 ?_
      refine z_istore_n (lv' := [(0, .ref (ad 20)), (1, .int (zi ((b : Nat) : Int))), (2, .int (zi (0 : Int)))]) K dX2_isQuiet_47 (by decide) rfl ?_
      have L48 : ∀ j, j ≤ 9 → ∀ (d c : Nat → Int), zHV n nc d → zq n (μ 13) (μ 14) nc (μ 16) (9 - j) (d, c) = zqu n (μ 13) (μ 14) nc (μ 16) (μ 18) b → zV χ 3 ad zSH 0 0 48 [(0, .ref (ad 20)), (1, .int (zi ((b : Nat) : Int))), (2, .int (zi ((j : Nat) : Int)))] [] (zup (zup μ 26 d) 27 c) := by
        refine zfor ?_
        intro j hj ih2 d c hdv hF
        refine z_iload_n K dX2_isQuiet_48 rfl ?_
        refine z_bipush K dX2_isQuiet_49 (by decide +kernel) ?_
        refine z_icmpge (tgt := 72) K dX2_isQuiet_51 (by decide) (by omega) ⟨by decide, by decide⟩ (fun h51 => ?_) (fun h51 => ?_)
        · refine z_iconst K dX2_isQuiet_72 ?_
          exact z_zreti K T rfl dX2_isQuiet_73 (Or.inr rfl) ⟨(by rw [show 9 - j = 0 by omega] at hF; rw [← hF]; rfl), _, _, rfl⟩
        · refine z_aload_n K dX2_isQuiet_54 rfl ?_
          refine z_get (k := 20) (v := .ref (ad 25)) K dX2_isQuiet_55 fl_X2_37 rfl rfl rfl ?_
          refine z_callVd K hl1 hg1 (kb := 25) (As := []) (rest := []) (ct_passDay_t la g0 ad μ n nc hp d c hdv) (by decide) lk_X2_44 cd_X1_passDay rfl rfl rfl rfl (Nat.le_of_ble_eq_true rfl) dX2_isQuiet_58 ?_
          show zV χ 3 ad zSH 0 0 61 [(0, .ref (ad 20)), (1, .int (zi ((b : Nat) : Int))), (2, .int (zi ((j : Nat) : Int)))] [.int (zi ((zdayM n (μ 13) (μ 14) nc (μ 16) (d, c) : Nat) : Int))] (zup (zup μ 26 ((zday n (μ 13) (μ 14) nc (μ 16) (d, c)).1)) 27 ((zday n (μ 13) (μ 14) nc (μ 16) (d, c)).2))
          have hm6 : zdayM n (μ 13) (μ 14) nc (μ 16) (d, c) ≤ n := (zdayA_ok hp.pk (s := (d, c)) hdv).2
          refine z_ifle (tgt := 66) K dX2_isQuiet_61 (by decide) (by omega) (fun h61 => ?_) (fun h61 => ?_)
          · refine z_iincN (lv' := [(0, .ref (ad 20)), (1, .int (zi ((b : Nat) : Int))), (2, .int (zi ((j + 1 : Nat) : Int)))]) K dX2_isQuiet_66 rfl (by decide) rfl ?_
            refine z_goto (tgt := 48) K dX2_isQuiet_69 (by decide) ?_
            exact ih2 (j + 1) (by omega) (by omega) _ _ (zday_ok hp.pk (s := (d, c)) hdv) (by
              rw [show 9 - j = (9 - (j + 1)) + 1 by omega, zq_s, if_neg (by omega)] at hF
              exact hF)
          · refine z_iconst K dX2_isQuiet_64 ?_
            exact z_zreti K T rfl dX2_isQuiet_65 (Or.inl rfl) ⟨(by rw [show 9 - j = (9 - (j + 1)) + 1 by omega, zq_s, if_pos (by omega)] at hF; rw [← hF]; rfl), _, _, rfl⟩
      rw [show l = n by omega]
      exact L48 0 (by omega) _ _ (zanb_ok hn6 hv b n (Nat.le_refl _)) rfl
    · refine z_iload_n K dX2_isQuiet_24 rfl ?_
      refine z_iload_n K dX2_isQuiet_25 rfl ?_
      refine z_ishrR (z := zi ((b : Nat) : Int) >>> (zi ((l : Nat) : Int) &&& 31)) K dX2_isQuiet_26 rfl ?_
      refine z_iconst K dX2_isQuiet_27 ?_
      refine z_iandR (z := zi ((zbit b l : Nat) : Int)) K dX2_isQuiet_28 (zb_bit b hb l (by omega)) ?_
      refine z_ifeq (tgt := 40) K dX2_isQuiet_29 (by decide) (by omega) (fun h29 => ?_) (fun h29 => ?_)
      · refine z_iincN (lv' := [(0, .ref (ad 20)), (1, .int (zi ((b : Nat) : Int))), (2, .int (zi ((l + 1 : Nat) : Int)))]) K dX2_isQuiet_40 rfl (by decide) rfl ?_
        refine z_goto (tgt := 13) K dX2_isQuiet_43 (by decide) ?_
        have e9 : zanb (μ 18) b (l + 1) = zanb (μ 18) b l := by
          rw [zanb_s]
          rw [if_pos (by omega)]
        have q9 := ih (l + 1) (by omega) (by omega)
        rw [e9] at q9
        exact q9
      · refine z_aload_n K dX2_isQuiet_32 rfl ?_
        refine z_get (k := 20) (v := .ref (ad 25)) K dX2_isQuiet_33 fl_X2_37 rfl rfl rfl ?_
        refine z_iload_n K dX2_isQuiet_36 rfl ?_
        refine z_callVm K hl1 hg1 (kb := 25) (As := [.int (zi ((l : Nat) : Int))]) (rest := []) (ct_answer2 la g0 ad μ (zanb (μ 18) b l) zz0 l (by omega)) (by decide) lk_X2_97 cd_X1_answer rfl rfl rfl rfl (Nat.le_of_ble_eq_true rfl) dX2_isQuiet_37 ?_
        refine z_iincN (lv' := [(0, .ref (ad 20)), (1, .int (zi ((b : Nat) : Int))), (2, .int (zi ((l + 1 : Nat) : Int)))]) K dX2_isQuiet_40 rfl (by decide) rfl ?_
        refine z_goto (tgt := 13) K dX2_isQuiet_43 (by decide) ?_
        have e9 : zanb (μ 18) b (l + 1) = zu1 (zanb (μ 18) b l) (12 + l) 1 := by
          rw [zanb_s]
          rw [if_neg (by omega)]
        have q9 := ih (l + 1) (by omega) (by omega)
        rw [e9] at q9
        exact q9
  exact L13 0 (by omega)
set_option maxHeartbeats 4000000 in
set_option maxRecDepth 100000 in
theorem ct_fewestForQuiet (la : Launch) (g0 : zG) (ad : Nat → Nat) (μ : zMem) (n nc : Nat) (hp : zPlan μ n nc) (hv : zHV n nc (μ 18)) (x y : Nat → Int) : zCon la g0 yX2_fewestForQuiet cX2_fewestForQuiet 4 (some .int) 5 ad zSH [.ref (ad 20)] (zup (zup μ 26 x) 27 y) (zPi (zSc μ (((zqo (zqu n (μ 13) (μ 14) nc (μ 16) (μ 18)) (zwho (μ 18) 0 n) 6 0 : Nat) : Int)))) := by
  refine zCon_of (by decide +kernel) (Nat.le_of_ble_eq_true rfl) ?_
  intro χ K T hl1 hg1
  have K : zOk χ cX2_fewestForQuiet RX2 4 5 (some .int) := K
  obtain ⟨hn, hn6, hnc, hnc3, hpl, hpk⟩ := id hp
  have hly : zwho (μ 18) 0 n < 64 := z64 (zwho_lt _ _ _) hn6
  show zV χ 4 ad zSH 0 0 0 [(0, .ref (ad 20))] [] (zup (zup μ 26 x) 27 y)
  refine z_aload_n K dX2_fewestForQuiet_0 rfl ?_
  refine z_get (k := 20) (v := .ref (ad 17)) K dX2_fewestForQuiet_1 fl_X2_28 rfl rfl rfl ?_
  refine z_iconst K dX2_fewestForQuiet_4 ?_
  refine z_callVd K hl1 hg1 (kb := 17) (As := [.int (zi (0 : Int))]) (rest := []) (ct_who_n la g0 ad (zup (zup μ 26 x) 27 y) n nc hp hv.1 0 ⟨by decide, by decide⟩) (by decide) lk_X2_48 cd_X1_who rfl rfl rfl rfl (Nat.le_of_ble_eq_true rfl) dX2_fewestForQuiet_5 ?_
  show zV χ 4 ad zSH 0 0 8 [(0, .ref (ad 20))] [.int (zi ((zwho (μ 18) 0 n : Nat) : Int))] (zup (zup μ 26 x) 27 y)
  refine z_istore_n (lv' := [(0, .ref (ad 20)), (1, .int (zi ((zwho (μ 18) 0 n : Nat) : Int)))]) K dX2_fewestForQuiet_8 (by decide) rfl ?_
  refine z_iconst K dX2_fewestForQuiet_9 ?_
  refine z_istore_n (lv' := [(0, .ref (ad 20)), (1, .int (zi ((zwho (μ 18) 0 n : Nat) : Int))), (2, .int (zi (0 : Int)))]) K dX2_fewestForQuiet_10 (by decide) rfl ?_
  have L11 : ∀ k, k ≤ 6 → ∀ (x y : Nat → Int), zqo (zqu n (μ 13) (μ 14) nc (μ 16) (μ 18)) (zwho (μ 18) 0 n) (6 - k) k = zqo (zqu n (μ 13) (μ 14) nc (μ 16) (μ 18)) (zwho (μ 18) 0 n) 6 0 → zV χ 4 ad zSH 0 0 11 [(0, .ref (ad 20)), (1, .int (zi ((zwho (μ 18) 0 n : Nat) : Int))), (2, .int (zi ((k : Nat) : Int)))] [] (zup (zup μ 26 x) 27 y) := by
    refine zfor ?_
    intro k hk ih x y hF
    refine z_iload_n K dX2_fewestForQuiet_11 rfl ?_
    refine z_bipush K dX2_fewestForQuiet_12 (by decide +kernel) ?_
    refine z_icmpge (tgt := 62) K dX2_fewestForQuiet_14 (by decide) (by omega) ⟨by decide, by decide⟩ (fun h14 => ?_) (fun h14 => ?_)
    · refine z_iload_n K dX2_fewestForQuiet_62 rfl ?_
      exact z_ireti K T rfl dX2_fewestForQuiet_63 ⟨(by rw [← hF, show 6 - k = 0 by omega]; rfl), _, _, rfl⟩
    · refine z_iconst K dX2_fewestForQuiet_17 ?_
      refine z_istore_n (lv' := [(0, .ref (ad 20)), (1, .int (zi ((zwho (μ 18) 0 n : Nat) : Int))), (2, .int (zi ((k : Nat) : Int))), (3, .int (zi (0 : Int)))]) K dX2_fewestForQuiet_18 (by decide) rfl ?_
      have L19 : ∀ b, b ≤ zwho (μ 18) 0 n + 1 → ∀ (x y : Nat → Int), zqi (zqu n (μ 13) (μ 14) nc (μ 16) (μ 18)) (zwho (μ 18) 0 n) k (zwho (μ 18) 0 n + 1 - b) b = zqi (zqu n (μ 13) (μ 14) nc (μ 16) (μ 18)) (zwho (μ 18) 0 n) k (zwho (μ 18) 0 n + 1) 0 → zV χ 4 ad zSH 0 0 19 [(0, .ref (ad 20)), (1, .int (zi ((zwho (μ 18) 0 n : Nat) : Int))), (2, .int (zi ((k : Nat) : Int))), (3, .int (zi ((b : Nat) : Int)))] [] (zup (zup μ 26 x) 27 y) := by
        refine zfor ?_
        intro b hb ih2 x y hG
        refine z_iload_n K dX2_fewestForQuiet_19 rfl ?_
        refine z_iload_n K dX2_fewestForQuiet_20 rfl ?_
        refine z_icmpgt (tgt := 56) K dX2_fewestForQuiet_21 (by decide) (by omega) (by omega) (fun h21 => ?_) (fun h21 => ?_)
        · have hnone : zqi (zqu n (μ 13) (μ 14) nc (μ 16) (μ 18)) (zwho (μ 18) 0 n) k (zwho (μ 18) 0 n + 1) 0 = none := by rw [← hG, show zwho (μ 18) 0 n + 1 - b = 0 by omega]; rfl
          refine z_iincN (lv' := [(0, .ref (ad 20)), (1, .int (zi ((zwho (μ 18) 0 n : Nat) : Int))), (2, .int (zi ((k + 1 : Nat) : Int))), (3, .int (zi ((b : Nat) : Int)))]) K dX2_fewestForQuiet_56 rfl (by decide) rfl ?_
          refine z_goto (tgt := 11) K dX2_fewestForQuiet_59 (by decide) ?_
          refine z_ipick [0, 1, 2] rfl ?_
          exact ih (k + 1) (by omega) (by omega) _ _ (by
            rw [show 6 - k = (6 - (k + 1)) + 1 by omega, zqo_s, hnone] at hF
            exact hF)
        · have hbb := zpop_le b
          have hb3 : b &&& (63 ^^^ zwho (μ 18) 0 n) ≤ b := Nat.and_le_left
          refine z_iload_n K dX2_fewestForQuiet_24 rfl ?_
          refine z_iload_n K dX2_fewestForQuiet_25 rfl ?_
          refine z_iconst K dX2_fewestForQuiet_26 ?_
          refine z_ixorR (z := zi ((zwho (μ 18) 0 n : Nat) : Int) ^^^ zi (-1)) K dX2_fewestForQuiet_27 rfl ?_
          refine z_iandR (z := zi ((b &&& (63 ^^^ zwho (μ 18) 0 n) : Nat) : Int)) K dX2_fewestForQuiet_28 (zb_not b (by omega) _ hly) ?_
          refine z_ifne (tgt := 50) K dX2_fewestForQuiet_29 (by decide) (by omega) (fun h29 => ?_) (fun h29 => ?_)
          · refine z_iincN (lv' := [(0, .ref (ad 20)), (1, .int (zi ((zwho (μ 18) 0 n : Nat) : Int))), (2, .int (zi ((k : Nat) : Int))), (3, .int (zi ((b + 1 : Nat) : Int)))]) K dX2_fewestForQuiet_50 rfl (by decide) rfl ?_
            refine z_goto (tgt := 19) K dX2_fewestForQuiet_53 (by decide) ?_
            exact ih2 (b + 1) (by omega) (by omega) _ _ (by
              rw [show zwho (μ 18) 0 n + 1 - b = (zwho (μ 18) 0 n + 1 - (b + 1)) + 1 by omega, zqi_s, if_neg (by first | omega | exact fun q9 => absurd h45 (by rw [if_pos q9.2.2]; decide))] at hG
              exact hG)
          · refine z_iload_n K dX2_fewestForQuiet_32 rfl ?_
            refine z_callSd K hl1 hg1 (As := [.int (zi ((b : Nat) : Int))]) (rest := []) (ct_bitCount la g0 ad (zup (zup μ 26 x) 27 y) b (by omega)) (by decide) lk_X2_85 cd_J6_bitCount_0f7a4 rfl rfl (Nat.le_of_ble_eq_true rfl) dX2_fewestForQuiet_33 ?_
            show zV χ 4 ad zSH 0 0 36 [(0, .ref (ad 20)), (1, .int (zi ((zwho (μ 18) 0 n : Nat) : Int))), (2, .int (zi ((k : Nat) : Int))), (3, .int (zi ((b : Nat) : Int)))] [.int (zi ((zpop b : Nat) : Int))] (zup (zup μ 26 x) 27 y)
            refine z_iload_n K dX2_fewestForQuiet_36 rfl ?_
            refine z_icmpne (tgt := 50) K dX2_fewestForQuiet_37 (by decide) (by omega) (by omega) (fun h37 => ?_) (fun h37 => ?_)
            · refine z_iincN (lv' := [(0, .ref (ad 20)), (1, .int (zi ((zwho (μ 18) 0 n : Nat) : Int))), (2, .int (zi ((k : Nat) : Int))), (3, .int (zi ((b + 1 : Nat) : Int)))]) K dX2_fewestForQuiet_50 rfl (by decide) rfl ?_
              refine z_goto (tgt := 19) K dX2_fewestForQuiet_53 (by decide) ?_
              exact ih2 (b + 1) (by omega) (by omega) _ _ (by
                rw [show zwho (μ 18) 0 n + 1 - b = (zwho (μ 18) 0 n + 1 - (b + 1)) + 1 by omega, zqi_s, if_neg (by first | omega | exact fun q9 => absurd h45 (by rw [if_pos q9.2.2]; decide))] at hG
                exact hG)
            · refine z_aload_n K dX2_fewestForQuiet_40 rfl ?_
              refine z_iload_n K dX2_fewestForQuiet_41 rfl ?_
              refine z_callVi K hl1 hg1 (kb := 20) (As := [.int (zi ((b : Nat) : Int))]) (rest := []) (ct_isQuiet la g0 ad μ n nc hp hv x y b (by omega)) (by decide) lk_X2_90 cd_X2_isQuiet rfl rfl rfl rfl (Nat.le_of_ble_eq_true rfl) dX2_fewestForQuiet_42 (fun r42 ν h42 => ?_)
              obtain ⟨hr42, x2, y2, hν⟩ := h42
              subst hr42
              subst hν
              refine z_ifeq (tgt := 50) K dX2_fewestForQuiet_45 (by decide) (by omega) (fun h45 => ?_) (fun h45 => ?_)
              · refine z_iincN (lv' := [(0, .ref (ad 20)), (1, .int (zi ((zwho (μ 18) 0 n : Nat) : Int))), (2, .int (zi ((k : Nat) : Int))), (3, .int (zi ((b + 1 : Nat) : Int)))]) K dX2_fewestForQuiet_50 rfl (by decide) rfl ?_
                refine z_goto (tgt := 19) K dX2_fewestForQuiet_53 (by decide) ?_
                exact ih2 (b + 1) (by omega) (by omega) _ _ (by
                  rw [show zwho (μ 18) 0 n + 1 - b = (zwho (μ 18) 0 n + 1 - (b + 1)) + 1 by omega, zqi_s, if_neg (by first | omega | exact fun q9 => absurd h45 (by rw [if_pos q9.2.2]; decide))] at hG
                  exact hG)
              · refine z_iload_n K dX2_fewestForQuiet_48 rfl ?_
                exact z_ireti K T rfl dX2_fewestForQuiet_49 ⟨(by
                    rw [show zwho (μ 18) 0 n + 1 - b = (zwho (μ 18) 0 n + 1 - (b + 1)) + 1 by omega, zqi_s, if_pos ⟨by omega, by omega, Decidable.byContradiction (fun q9 => h45 (if_neg q9))⟩] at hG
                    rw [show 6 - k = (6 - (k + 1)) + 1 by omega, zqo_s, ← hG] at hF
                    rw [← hF]), _, _, rfl⟩
      exact L19 0 (by omega) x y rfl
  exact L11 0 (by omega) x y rfl
