set_option maxHeartbeats 4000000 in
set_option maxRecDepth 100000 in
theorem cq_judge (la : Launch) (g0 : zG) (ad : Nat → Nat) (μ : zMem) (n nc : Nat) (kd al wt an c : Nat → Int) (hm : zMP μ n nc kd al wt an) (hw : zHV n nc c) (hg : zAg n nc 7 (μ 46) c) (x y : Int) (hx : zR x) (hy : zR8 y) : zCon la g0 yX9_judge cX9_judge 5 (some .int) 7 ad zSH [.ref (ad 39), .int (zi x), .long (zl y)] μ (zPi (zQm μ (zA_judge n kd al nc an c x y))) := by
  refine zCon_of (by decide +kernel) (Nat.le_of_ble_eq_true rfl) ?_
  intro χ K T hl1 hg1
  have K : zOk χ cX9_judge RX9 5 7 (some .int) := K
  obtain ⟨hn, hnc, hpl, hpa, hpk⟩ := id hm
  have hn6 := hpk.1
  have hnc3 := hpk.2.1
  refine z_mem (ν := zup (zup (zup μ 39 (μ 39)) 47 (μ 47)) 53 (μ 53)) (zup_id3 μ 39 47 53 (by decide) (by decide) (by decide)) ?_
  show zV χ 5 ad zSH 0 0 0 [(0, .ref (ad 39)), (1, .int (zi x)), (2, .long (zl y))] [] (zup (zup (zup μ 39 (μ 39)) 47 (μ 47)) 53 (μ 53))
  refine z_aload_n K dX9_judge_0 rfl ?_
  refine z_iconst K dX9_judge_1 ?_
  refine z_puti (k := 39) K dX9_judge_2 fp_X9_59 rfl rfl (z_mem (ν := zup (zup (zup μ 39 (zu1 (μ 39) 0 (0 : Int))) 47 (μ 47)) 53 (μ 53)) (zup_sw3 _ (by decide) (by decide) _ _ _ _) ?_)
  refine z_iload_n K dX9_judge_5 rfl ?_
  refine z_i2l K dX9_judge_6 (by omega) ?_
  refine z_lconst (z := 1) K dX9_judge_7 rfl ?_
  refine z_ldc2 (z := 4) K dX9_judge_8 kc_X9_217 rfl ?_
  refine z_callSd K hl1 hg1 (As := [.long (zl x), .long (zl (1 : Int)), .long (zl (4 : Int))]) (rest := []) (cm_in la g0 ad (zup (zup (zup μ 39 (zu1 (μ 39) 0 (0 : Int))) 47 (μ 47)) 53 (μ 53)) x (1 : Int) (4 : Int) ⟨by omega, by omega⟩ ⟨by decide, by decide⟩ ⟨by decide, by decide⟩) (by decide) lk_X9_66 cd_X9_in rfl rfl (Nat.le_of_ble_eq_true rfl) dX9_judge_11 ?_
  show zV χ 5 ad zSH 0 0 14 [(0, .ref (ad 39)), (1, .int (zi x)), (2, .long (zl y))] [.int (zi (if (1 : Int) ≤ x ∧ x ≤ (4 : Int) then 1 else 0))] (zup (zup (zup μ 39 (zu1 (μ 39) 0 (0 : Int))) 47 (μ 47)) 53 (μ 53))
  refine z_ifeq (tgt := 34) K dX9_judge_14 (by decide) (by omega) (fun h14 => ?_) (fun h14 => ?_)
  · refine z_bipush K dX9_judge_34 (by decide +kernel) ?_
    exact z_ireti K T rfl dX9_judge_36 ⟨by
        unfold zA_judge; rw [if_neg (by omega)], (zFr_c (zFr_c (zFr_h (zFr_0 μ) (by repeat (first | exact zFh_0 _ | refine zFh_u ?_ (by decide) _))) (by decide) _) (by decide) _)⟩
  · obtain ⟨m, rfl⟩ : ∃ m : Nat, x = (m : Int) := ⟨x.toNat, by omega⟩
    have hpw := zpw_le m (by omega)
    refine z_lload_n K dX9_judge_17 rfl ?_
    refine z_lconst (z := 0) K dX9_judge_18 rfl ?_
    refine z_ldc2 (z := 10000) K dX9_judge_19 kc_X9_219 rfl ?_
    refine z_iload_n K dX9_judge_22 rfl ?_
    refine z_callSl K hl1 hg1 (As := [.long (zl (10000 : Int)), .int (zi ((m : Nat) : Int))]) (rest := [.long (zl (0 : Int)), .long (zl y)]) (cm_longPower la g0 ad (zup (zup (zup μ 39 (zu1 (μ 39) 0 (0 : Int))) 47 (μ 47)) 53 (μ 53)) 10000 m (by omega)) (by decide) lk_X9_221 cd_X9_longPower rfl rfl (Nat.le_of_ble_eq_true rfl) dX9_judge_23 (fun r ν h23 => ?_)
    obtain ⟨hr, hν⟩ := h23
    subst hν hr
    refine z_lconst (z := 1) K dX9_judge_26 rfl ?_
    refine z_lsub K dX9_judge_27 ?_
    refine z_callSd K hl1 hg1 (As := [.long (zl y), .long (zl (0 : Int)), .long (zl ((zpw 10000 m) - (1 : Int)))]) (rest := []) (cm_in la g0 ad (zup (zup (zup μ 39 (zu1 (μ 39) 0 (0 : Int))) 47 (μ 47)) 53 (μ 53)) y (0 : Int) ((zpw 10000 m) - (1 : Int)) ⟨by omega, by omega⟩ ⟨by decide, by decide⟩ ⟨by omega, by omega⟩) (by decide) lk_X9_66 cd_X9_in rfl rfl (Nat.le_of_ble_eq_true rfl) dX9_judge_28 ?_
    show zV χ 5 ad zSH 0 0 31 [(0, .ref (ad 39)), (1, .int (zi ((m : Nat) : Int))), (2, .long (zl y))] [.int (zi (if (0 : Int) ≤ y ∧ y ≤ (zpw 10000 m) - (1 : Int) then 1 else 0))] (zup (zup (zup μ 39 (zu1 (μ 39) 0 (0 : Int))) 47 (μ 47)) 53 (μ 53))
    refine z_ifne (tgt := 37) K dX9_judge_31 (by decide) (by omega) (fun h31 => ?_) (fun h31 => ?_)
    · obtain ⟨w, rfl⟩ : ∃ w : Nat, y = (w : Int) := ⟨y.toNat, by omega⟩
      have hfd := zfd_dg w m (by omega) (by omega)
      have hX : zA_judge n kd al nc an c ((m : Nat) : Int) ((w : Nat) : Int) = zju n kd al nc an (zfd m (zz0, w)).1 m 0 (c, zz0) := by
        unfold zA_judge
        rw [if_pos ⟨⟨by omega, by omega⟩, by omega⟩, Int.toNat_natCast, Int.toNat_natCast, if_pos (hfd.1.2 (by omega))]
      refine z_aload_n K dX9_judge_37 rfl ?_
      refine z_callVm K hl1 hg1 (kb := 39) (As := []) (rest := []) (cm_begin la g0 ad μ (zu1 (μ 39) 0 (0 : Int)) (μ 47) (μ 53)) (by decide) lk_X9_191 cd_X9_begin rfl rfl rfl rfl (Nat.le_of_ble_eq_true rfl) dX9_judge_38 ?_
      refine z_iconst K dX9_judge_41 ?_
      refine z_istore (lv' := [(0, .ref (ad 39)), (1, .int (zi ((m : Nat) : Int))), (2, .long (zl ((w : Nat) : Int))), (4, .int (zi (0 : Int)))]) K dX9_judge_42 (by decide) rfl ?_
      have L44 : ∀ i, i ≤ m → ∀ (d b q : Nat → Int), zHV n nc d → zAg n nc 7 q d → zju n kd al nc an (zfd m (zz0, w)).1 (m - i) i (d, b) = zju n kd al nc an (zfd m (zz0, w)).1 m 0 (c, zz0) → zV χ 5 ad zSH 0 0 44 [(0, .ref (ad 39)), (1, .int (zi ((m : Nat) : Int))), (2, .long (zl ((w : Nat) : Int))), (4, .int (zi ((i : Nat) : Int)))] [] (zup (zup (zup μ 39 (zu1 (zu1 (μ 39) 0 (0 : Int)) 24 (7 : Int))) 47 q) 53 b) := by
        refine zfor ?_
        intro i hi ih d b q hv hag hJ
        refine z_iload K dX9_judge_44 rfl ?_
        refine z_iload_n K dX9_judge_46 rfl ?_
        refine z_icmpge (tgt := 85) K dX9_judge_47 (by decide) (by omega) (by omega) (fun h47 => ?_) (fun h47 => ?_)
        · refine z_bipush K dX9_judge_85 (by decide +kernel) ?_
          exact z_ireti K T rfl dX9_judge_87 ⟨by
              rw [hX, ← hJ, show m - i = 0 by omega]; rfl, (zFr_c (zFr_c (zFr_h (zFr_0 μ) (by repeat (first | exact zFh_0 _ | refine zFh_u ?_ (by decide) _))) (by decide) _) (by decide) _)⟩
        · have hpw2 := zpw_le (m - 1 - i) (by omega)
          obtain ⟨D, hD⟩ : ∃ D : Nat, (w : Int) / zpw 10000 (m - 1 - i) % 10000 = (D : Int) := ⟨((w : Int) / zpw 10000 (m - 1 - i) % 10000).toNat, (Int.toNat_of_nonneg (Int.emod_nonneg _ (by decide))).symm⟩
          have hD9 : D ≤ 9999 := by
            have h9 := Int.emod_lt_of_pos ((w : Int) / zpw 10000 (m - 1 - i)) (show (0 : Int) < 10000 by decide)
            omega
          have hfD : ((zfd m (zz0, w)).1 i).toNat = D := by
            rw [hfd.2 i (by omega), hD, Int.toNat_natCast]
          have hdn : 0 ≤ (w : Int) / zpw 10000 (m - 1 - i) := Int.ediv_nonneg (by omega) (by omega)
          have hdm : (w : Int) / zpw 10000 (m - 1 - i) ≤ w := Int.ediv_le_self _ (by omega)
          have hdo := zdo_ok hpk D (s := (d, b)) hv
          refine z_aload_n K dX9_judge_50 rfl ?_
          refine z_lload_n K dX9_judge_51 rfl ?_
          refine z_ldc2 (z := 10000) K dX9_judge_52 kc_X9_219 rfl ?_
          refine z_iload_n K dX9_judge_55 rfl ?_
          refine z_iconst K dX9_judge_56 ?_
          refine z_isub K dX9_judge_57 ?_
          refine z_iload K dX9_judge_58 rfl ?_
          refine z_isub K dX9_judge_60 ?_
          rw [show ((((m : Nat) : Int) - (1 : Int)) - ((i : Nat) : Int)) = ((m - 1 - i : Nat) : Int) from (by omega)]
          refine z_callSl K hl1 hg1 (As := [.long (zl (10000 : Int)), .int (zi ((m - 1 - i : Nat) : Int))]) (rest := [.long (zl ((w : Nat) : Int)), .ref (ad 39)]) (cm_longPower la g0 ad (zup (zup (zup μ 39 (zu1 (zu1 (μ 39) 0 (0 : Int)) 24 (7 : Int))) 47 q) 53 b) 10000 (m - 1 - i) (by omega)) (by decide) lk_X9_221 cd_X9_longPower rfl rfl (Nat.le_of_ble_eq_true rfl) dX9_judge_61 (fun r ν h61 => ?_)
          obtain ⟨hr, hν⟩ := h61
          subst hν hr
          refine z_ldiv K dX9_judge_64 (by omega) (by omega) ?_
          refine z_ldc2 (z := 10000) K dX9_judge_65 kc_X9_219 rfl ?_
          refine z_lrem K dX9_judge_68 (by omega) (by omega) ?_
          refine z_l2i K dX9_judge_69 ?_
          rw [show ((((w : Nat) : Int) / (zpw 10000 (m - 1 - i))) % (10000 : Int)) = ((D : Nat) : Int) from hD]
          refine z_callVi K hl1 hg1 (kb := 39) (As := [.int (zi ((D : Nat) : Int))]) (rest := []) (cm_does la g0 ad (zup μ 39 (zu1 (zu1 (μ 39) 0 (0 : Int)) 24 (7 : Int))) n nc kd al wt an q d b hm hv hag rfl D hD9) (by decide) lk_X9_225 cd_X9_does rfl rfl rfl rfl (Nat.le_of_ble_eq_true rfl) dX9_judge_70 (fun r ν h70 => ?_)
          obtain ⟨hr, q2, hν, hag2⟩ := h70
          subst hν hr
          refine z_ifne (tgt := 79) K dX9_judge_73 (by decide) (by omega) (fun h73 => ?_) (fun h73 => ?_)
          · refine z_iincN (lv' := [(0, .ref (ad 39)), (1, .int (zi ((m : Nat) : Int))), (2, .long (zl ((w : Nat) : Int))), (4, .int (zi ((i + 1 : Nat) : Int)))]) K dX9_judge_79 rfl (by decide) rfl ?_
            refine z_goto (tgt := 44) K dX9_judge_82 (by decide) ?_
            exact ih (i + 1) (by omega) (by omega) (zdo n kd al nc an D (d, b)).1.1 (zdo n kd al nc an D (d, b)).1.2 q2 hdo.1 hag2 (by
              rw [show m - i = (m - (i + 1)) + 1 by omega, zju_s, hfD, if_neg (by omega)] at hJ
              exact hJ)
          · refine z_iload K dX9_judge_76 rfl ?_
            exact z_ireti K T rfl dX9_judge_78 ⟨by
                rw [hX, ← hJ, show m - i = (m - (i + 1)) + 1 by omega, zju_s, hfD, if_pos (by omega)], (zFr_c (zFr_c (zFr_h (zFr_0 μ) (by repeat (first | exact zFh_0 _ | refine zFh_u ?_ (by decide) _))) (by decide) _) (by decide) _)⟩
      exact L44 0 (by omega) c (μ 53) (μ 46) hw hg (zju_fst n kd al nc an _ _ _ _ _ rfl)
    · refine z_bipush K dX9_judge_34 (by decide +kernel) ?_
      exact z_ireti K T rfl dX9_judge_36 ⟨by
          by_cases h0 : 0 ≤ y
          · obtain ⟨w, rfl⟩ : ∃ w : Nat, y = (w : Int) := ⟨y.toNat, by omega⟩
            have hfd := zfd_dg w m (by omega) (by omega)
            unfold zA_judge
            rw [if_pos ⟨⟨by omega, by omega⟩, by omega⟩, Int.toNat_natCast, Int.toNat_natCast, if_neg (fun q => by have := hfd.1.1 q; omega)]
          · unfold zA_judge; rw [if_neg (by omega)], (zFr_c (zFr_c (zFr_h (zFr_0 μ) (by repeat (first | exact zFh_0 _ | refine zFh_u ?_ (by decide) _))) (by decide) _) (by decide) _)⟩
