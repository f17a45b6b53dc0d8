theorem zhap_do (n : Nat) (kd al : Nat → Int) (nc : Nat) (an : Nat → Int) (s : zS) (w D : Nat) (h : (w < 12 ∧ D = 1000 + w) ∨ (12 ≤ w ∧ w < 15 ∧ D = 2988 + w) ∨ (w = 15 ∧ D = 2001) ∨ (15 < w ∧ D = 0)) : (zdo n kd al nc an D s).1 = zhap n kd al nc an w s := by
  unfold zdo zhap
  rcases h with ⟨h, e⟩ | ⟨h1, h2, e⟩ | ⟨h, e⟩ | ⟨h, e⟩
  · rw [if_neg (by omega), if_pos (by omega), if_pos h, show D / 100 % 10 = 0 by omega, show D % 100 = w by omega]; rfl
  · rw [if_neg (by omega), if_neg (by omega), if_neg (by omega), if_pos (by omega), if_pos (by omega), if_neg (by omega), if_pos h2, show D / 100 % 10 = 0 by omega, show ((D % 10 : Nat) : Int) = (w : Int) - 12 by omega]; rfl
  · rw [if_neg (by omega), if_neg (by omega), if_pos (by omega), if_pos ⟨by omega, by omega, by omega⟩, if_neg (by omega), if_neg (by omega), if_pos h, show D % 10 = 1 by omega]; rfl
  · rw [if_pos e, if_neg (by omega), if_neg (by omega), if_neg (by omega)]
theorem zhap_fst (n : Nat) (kd al : Nat → Int) (nc : Nat) (an : Nat → Int) (w : Nat) (s t : zS) (h : s.1 = t.1) : (zhap n kd al nc an w s).1 = (zhap n kd al nc an w t).1 := by
  unfold zhap
  split
  · rw [h]
  · split
    · rw [h]
    · split
      · rw [h]
      · exact zday_fst' n kd al nc an s t h
set_option maxHeartbeats 4000000 in
set_option maxRecDepth 100000 in
theorem cm_years (la : Launch) (g0 : zG) (ad : Nat → Nat) (μ : zMem) (n nc : Nat) (kd al wt an c : Nat → Int) (hm : zMP μ n nc kd al wt an) (hw : zHV n nc c) (hg : zAg n nc 7 (μ 46) c) (x : Int) (hx : zR x) : zCon la g0 yX9_years cX9_years 5 (some .int) 7 ad zSH [.ref (ad 39), .int (zi x)] μ (zPi (fun r ν => r = zA_years n kd al nc an c (μ 39 23) x ∧ ν 39 23 = (if 1 ≤ x ∧ x ≤ 30 then (zyr n kd al nc an (c, zz0) (μ 39 23) x.toNat).2.1 else μ 39 23) ∧ (∀ q, q ≠ 39 → ¬ zMs q → ν q = μ q) ∧ ∀ j, zMf j → j ≠ 23 → ν 39 j = μ 39 j)) := by
  refine zCon_of (by decide +kernel) (Nat.le_of_ble_eq_true rfl) ?_
  intro χ K T hl1 hg1
  have K : zOk χ cX9_years RX9 5 7 (some .int) := K
  obtain ⟨hn, hnc, hpl, hpa, hpk⟩ := id hm
  have hn6 := hpk.1
  have hnc3 := hpk.2.1
  refine z_mem (ν := zup (zup (zup μ 39 (μ 39)) 47 (μ 47)) 53 (μ 53)) (zup_id3 μ 39 47 53 (by decide) (by decide) (by decide)) ?_
  show zV χ 5 ad zSH 0 0 0 [(0, .ref (ad 39)), (1, .int (zi x))] [] (zup (zup (zup μ 39 (μ 39)) 47 (μ 47)) 53 (μ 53))
  refine z_aload_n K dX9_years_0 rfl ?_
  refine z_iconst K dX9_years_1 ?_
  refine z_puti (k := 39) K dX9_years_2 fp_X9_59 rfl rfl (z_mem (ν := zup (zup (zup μ 39 (zu1 (μ 39) 0 (0 : Int))) 47 (μ 47)) 53 (μ 53)) (zup_sw3 _ (by decide) (by decide) _ _ _ _) ?_)
  refine z_iload_n K dX9_years_5 rfl ?_
  refine z_i2l K dX9_years_6 (by omega) ?_
  refine z_lconst (z := 1) K dX9_years_7 rfl ?_
  refine z_ldc2 (z := 30) K dX9_years_8 kc_X9_262 rfl ?_
  refine z_callSd K hl1 hg1 (As := [.long (zl x), .long (zl (1 : Int)), .long (zl (30 : Int))]) (rest := []) (cm_in la g0 ad (zup (zup (zup μ 39 (zu1 (μ 39) 0 (0 : Int))) 47 (μ 47)) 53 (μ 53)) x (1 : Int) (30 : Int) ⟨by omega, by omega⟩ ⟨by decide, by decide⟩ ⟨by decide, by decide⟩) (by decide) lk_X9_66 cd_X9_in rfl rfl (Nat.le_of_ble_eq_true rfl) dX9_years_11 ?_
  show zV χ 5 ad zSH 0 0 14 [(0, .ref (ad 39)), (1, .int (zi x))] [.int (zi (if (1 : Int) ≤ x ∧ x ≤ (30 : Int) then 1 else 0))] (zup (zup (zup μ 39 (zu1 (μ 39) 0 (0 : Int))) 47 (μ 47)) 53 (μ 53))
  refine z_ifne (tgt := 20) K dX9_years_14 (by decide) (by omega) (fun h14 => ?_) (fun h14 => ?_)
  · obtain ⟨m, rfl⟩ : ∃ m : Nat, x = (m : Int) := ⟨x.toNat, by omega⟩
    refine z_aload_n K dX9_years_20 rfl ?_
    refine z_callVm K hl1 hg1 (kb := 39) (As := []) (rest := []) (cm_begin la g0 ad μ (zu1 (μ 39) 0 (0 : Int)) (μ 47) (μ 53)) (by decide) lk_X9_191 cd_X9_begin rfl rfl rfl rfl (Nat.le_of_ble_eq_true rfl) dX9_years_21 ?_
    refine z_iconst K dX9_years_24 ?_
    refine z_istore_n (lv' := [(0, .ref (ad 39)), (1, .int (zi ((m : Nat) : Int))), (2, .int (zi (0 : Int)))]) K dX9_years_25 (by decide) rfl ?_
    refine z_iconst K dX9_years_26 ?_
    refine z_istore_n (lv' := [(0, .ref (ad 39)), (1, .int (zi ((m : Nat) : Int))), (2, .int (zi (0 : Int))), (3, .int (zi (0 : Int)))]) K dX9_years_27 (by decide) rfl ?_
    have L28 : ∀ i, i ≤ m → ∀ (d b q g : Nat → Int) (z : Int) (t : Nat), (zyr n kd al nc an (c, zz0) (μ 39 23) i).1.1 = d → (zyr n kd al nc an (c, zz0) (μ 39 23) i).2.1 = z → (zyr n kd al nc an (c, zz0) (μ 39 23) i).2.2 = t → t ≤ 6 * i → zAg n nc 7 q d → (∀ j, j ≠ 23 → g j = (zu1 (zu1 (μ 39) 0 (0 : Int)) 24 (7 : Int)) j) → g 23 = z → zV χ 5 ad zSH 0 0 28 [(0, .ref (ad 39)), (1, .int (zi ((m : Nat) : Int))), (2, .int (zi ((t : Nat) : Int))), (3, .int (zi ((i : Nat) : Int)))] [] (zup (zup (zup μ 39 g) 47 q) 53 b) := by
      refine zfor ?_
      intro i hi ih d b q g z t hF1 hF2 hF3 ht hag hgk hgz
      have hv := zyr_ok hpk (s := (c, zz0)) hw (μ 39 23) i
      rw [hF1] at hv
      refine z_iload_n K dX9_years_28 rfl ?_
      refine z_iload_n K dX9_years_29 rfl ?_
      refine z_icmpge (tgt := 135) K dX9_years_30 (by decide) (by omega) (by omega) (fun h30 => ?_) (fun h30 => ?_)
      · refine z_iload_n K dX9_years_135 rfl ?_
        exact z_ireti K T rfl dX9_years_136 (by
            have e : i = m := by omega
            rw [e] at hF2 hF3
            refine ⟨by unfold zA_years; rw [if_pos ⟨by omega, by omega⟩, Int.toNat_natCast, hF3], by rw [if_pos ⟨by omega, by omega⟩, Int.toNat_natCast, hF2]; exact hgz, fun q h1 h2 => ?_, fun j hj hj2 => ?_⟩
            · unfold zup; rw [if_neg (fun e => h2 (by omega)), if_neg (fun e => h2 (by omega)), if_neg h1]
            · show g j = μ 39 j
              rw [hgk j hj2, zu1_ne _ _ (fun e => by unfold zMf at hj; omega), zu1_ne _ _ (fun e => by unfold zMf at hj; omega)])
      · have hm9 : zMP (zup μ 39 (zu1 g 23 (zrnd z))) n nc kd al wt an := ⟨by show zu1 g 23 (zrnd z) 4 = _; rw [zu1_ne _ _ (by decide), hgk 4 (by decide)]; exact hn, by show zu1 g 23 (zrnd z) 7 = _; rw [zu1_ne _ _ (by decide), hgk 7 (by decide)]; exact hnc, hpl, hpa, hpk⟩
        have hS9 : (zup μ 39 (zu1 g 23 (zrnd z))) 39 24 = 7 := by show zu1 g 23 (zrnd z) 24 = _; rw [zu1_ne _ _ (by decide), hgk 24 (by decide)]; rfl
        refine z_aload_n K dX9_years_33 rfl ?_
        refine z_aload_n K dX9_years_34 rfl ?_
        refine z_get (k := 39) (v := .long (zl (g 23))) K dX9_years_35 fl_X9_258 rfl rfl rfl ?_
        rw [hgz]
        refine z_ldc2 (z := 6364136223846793005) K dX9_years_38 kc_X9_264 rfl ?_
        refine z_lmul K dX9_years_41 ?_
        refine z_ldc2 (z := 1442695040888963407) K dX9_years_42 kc_X9_266 rfl ?_
        refine z_ladd K dX9_years_45 ?_
        show zV χ 5 ad zSH 0 0 46 [(0, .ref (ad 39)), (1, .int (zi ((m : Nat) : Int))), (2, .int (zi ((t : Nat) : Int))), (3, .int (zi ((i : Nat) : Int)))] [.long (zl (zrnd z)), .ref (ad 39)] (zup (zup (zup μ 39 g) 47 q) 53 b)
        refine z_putl (k := 39) K dX9_years_46 fp_X9_258 rfl rfl (z_mem (ν := zup (zup (zup μ 39 (zu1 g 23 (zrnd z))) 47 q) 53 b) (zup_sw3 _ (by decide) (by decide) _ _ _ _) ?_)
        refine z_aload_n K dX9_years_49 rfl ?_
        refine z_get (k := 39) (v := .long (zl ((zu1 g 23 (zrnd z)) 23))) K dX9_years_50 fl_X9_258 rfl rfl rfl ?_
        rw [show zu1 g 23 (zrnd z) 23 = zrnd z from zu1_eq _ _ _]
        refine z_bipush K dX9_years_53 (by decide +kernel) ?_
        refine z_lushrR (z := zl (zrnd z % 18446744073709551616 / 8589934592)) K dX9_years_55 (zl_ushr _) ?_
        refine z_ldc2 (z := 24) K dX9_years_56 kc_X9_268 rfl ?_
        refine z_lrem K dX9_years_59 (by omega) (by omega) ?_
        refine z_l2i K dX9_years_60 ?_
        rw [show zrnd z % 18446744073709551616 / 8589934592 % (24 : Int) = ((zpick (zrnd z) : Nat) : Int) by unfold zpick; omega]
        obtain ⟨w, hwz⟩ : ∃ w, zpick (zrnd z) = w := ⟨_, rfl⟩
        have hw24 : w < 24 := by rw [← hwz]; exact zpick_lt _
        rw [hwz]
        have hhv := zhap_ok hpk w (s := (d, b)) hv
        refine z_istore (lv' := [(0, .ref (ad 39)), (1, .int (zi ((m : Nat) : Int))), (2, .int (zi ((t : Nat) : Int))), (3, .int (zi ((i : Nat) : Int))), (4, .int (zi ((w : Nat) : Int)))]) K dX9_years_61 (by decide) rfl ?_
        refine z_aload_n K dX9_years_63 rfl ?_
        refine z_iload K dX9_years_64 rfl ?_
        refine z_bipush K dX9_years_66 (by decide +kernel) ?_
        refine z_icmpge (tgt := 80) K dX9_years_68 (by decide) (by omega) ⟨by decide, by decide⟩ (fun h68 => ?_) (fun h68 => ?_)
        · refine z_iload K dX9_years_80 rfl ?_
          refine z_bipush K dX9_years_82 (by decide +kernel) ?_
          refine z_icmpge (tgt := 96) K dX9_years_84 (by decide) (by omega) ⟨by decide, by decide⟩ (fun h84 => ?_) (fun h84 => ?_)
          · refine z_iload K dX9_years_96 rfl ?_
            refine z_bipush K dX9_years_98 (by decide +kernel) ?_
            refine z_icmpge (tgt := 109) K dX9_years_100 (by decide) (by omega) ⟨by decide, by decide⟩ (fun h100 => ?_) (fun h100 => ?_)
            · refine z_iconst K dX9_years_109 ?_
              refine z_callVi K hl1 hg1 (kb := 39) (As := [.int (zi (0 : Int))]) (rest := []) (cm_does la g0 ad (zup μ 39 (zu1 g 23 (zrnd z))) n nc kd al wt an q d b hm9 hv hag hS9 0 (by omega)) (by decide) lk_X9_225 cd_X9_does rfl rfl rfl rfl (Nat.le_of_ble_eq_true rfl) dX9_years_110 (fun r ν h110 => ?_)
              obtain ⟨hr, q2, hν, hag2⟩ := h110
              subst hν hr
              have hdh := zhap_do n kd al nc an (d, b) w 0 (by omega)
              rw [hdh] at hag2 ⊢
              refine z_pop K dX9_years_113 rfl ?_
              refine z_iload_n K dX9_years_114 rfl ?_
              refine z_aload_n K dX9_years_115 rfl ?_
              refine z_aload_n K dX9_years_116 rfl ?_
              refine z_get (k := 39) (v := .ref (ad 47)) K dX9_years_117 fl_X9_31 rfl rfl rfl ?_
              refine z_iconst K dX9_years_120 ?_
              refine z_callVd K hl1 hg1 (kb := 39) (As := [.ref (ad 47), .int (zi (2 : Int))]) (rest := [.int (zi ((t : Nat) : Int))]) (cm_thatAre_r la g0 ad (zup (zup (zup μ 39 (zu1 g 23 (zrnd z))) 47 q2) 53 ((zhap n kd al nc an w (d, b)).2)) n nc 7 kd al wt an (zhap n kd al nc an w (d, b)).1 hm9 hhv.1 hag2 2 ⟨by decide, by decide⟩) (by decide) lk_X9_122 cd_X9_thatAre rfl rfl rfl rfl (Nat.le_of_ble_eq_true rfl) dX9_years_121 ?_
              show zV χ 5 ad zSH 0 0 124 [(0, .ref (ad 39)), (1, .int (zi ((m : Nat) : Int))), (2, .int (zi ((t : Nat) : Int))), (3, .int (zi ((i : Nat) : Int))), (4, .int (zi ((w : Nat) : Int)))] [.int (zi ((zwho (zhap n kd al nc an w (d, b)).1 2 n : Nat) : Int)), .int (zi ((t : Nat) : Int))] (zup (zup (zup μ 39 (zu1 g 23 (zrnd z))) 47 q2) 53 ((zhap n kd al nc an w (d, b)).2))
              refine z_callSd K hl1 hg1 (As := [.int (zi ((zwho (zhap n kd al nc an w (d, b)).1 2 n : Nat) : Int))]) (rest := [.int (zi ((t : Nat) : Int))]) (cm_many la g0 ad (zup (zup (zup μ 39 (zu1 g 23 (zrnd z))) 47 q2) 53 ((zhap n kd al nc an w (d, b)).2)) (zwho (zhap n kd al nc an w (d, b)).1 2 n) (z64 (zwho_lt _ _ _) hn6)) (by decide) lk_X9_128 cd_X9_many rfl rfl (Nat.le_of_ble_eq_true rfl) dX9_years_124 ?_
              show zV χ 5 ad zSH 0 0 127 [(0, .ref (ad 39)), (1, .int (zi ((m : Nat) : Int))), (2, .int (zi ((t : Nat) : Int))), (3, .int (zi ((i : Nat) : Int))), (4, .int (zi ((w : Nat) : Int)))] [.int (zi ((zpop (zwho (zhap n kd al nc an w (d, b)).1 2 n) : Nat) : Int)), .int (zi ((t : Nat) : Int))] (zup (zup (zup μ 39 (zu1 g 23 (zrnd z))) 47 q2) 53 ((zhap n kd al nc an w (d, b)).2))
              refine z_iadd K dX9_years_127 ?_
              rw [show (((t : Nat) : Int) + ((zpop (zwho (zhap n kd al nc an w (d, b)).1 2 n) : Nat) : Int)) = ((t + zpop (zwho (zhap n kd al nc an w (d, b)).1 2 n) : Nat) : Int) from (by omega)]
              refine z_istore_n (lv' := [(0, .ref (ad 39)), (1, .int (zi ((m : Nat) : Int))), (2, .int (zi ((t + zpop (zwho (zhap n kd al nc an w (d, b)).1 2 n) : Nat) : Int))), (3, .int (zi ((i : Nat) : Int))), (4, .int (zi ((w : Nat) : Int)))]) K dX9_years_128 (by decide) rfl ?_
              refine z_iincN (lv' := [(0, .ref (ad 39)), (1, .int (zi ((m : Nat) : Int))), (2, .int (zi ((t + zpop (zwho (zhap n kd al nc an w (d, b)).1 2 n) : Nat) : Int))), (3, .int (zi ((i + 1 : Nat) : Int))), (4, .int (zi ((w : Nat) : Int)))]) K dX9_years_129 rfl (by decide) rfl ?_
              refine z_goto (tgt := 28) K dX9_years_132 (by decide) ?_
              refine z_ipick [0, 1, 2, 3] rfl ?_
              exact ih (i + 1) (by omega) (by omega) (zhap n kd al nc an w (d, b)).1 _ q2 (zu1 g 23 (zrnd z)) (zrnd z) (t + zpop (zwho (zhap n kd al nc an w (d, b)).1 2 n)) (by
                rw [zyr_s]; dsimp only; rw [hF2, hwz]; exact zhap_fst n kd al nc an w _ _ hF1) (by
                rw [zyr_s]; dsimp only; rw [hF2]) (by
                rw [zyr_s]; dsimp only; rw [hF2, hwz, hF3, zhap_fst n kd al nc an w (zyr n kd al nc an (c, zz0) (μ 39 23) i).1 (d, b) hF1]) (by
                have := zpop_le (zwho (zhap n kd al nc an w (d, b)).1 2 n); omega) hag2 (fun j hj => by rw [zu1_ne _ _ hj]; exact hgk j hj) (zu1_eq _ _ _)
            · refine z_sipush K dX9_years_103 (by decide +kernel) ?_
              refine z_goto (tgt := 110) K dX9_years_106 (by decide) ?_
              refine z_callVi K hl1 hg1 (kb := 39) (As := [.int (zi (2001 : Int))]) (rest := []) (cm_does la g0 ad (zup μ 39 (zu1 g 23 (zrnd z))) n nc kd al wt an q d b hm9 hv hag hS9 2001 (by omega)) (by decide) lk_X9_225 cd_X9_does rfl rfl rfl rfl (Nat.le_of_ble_eq_true rfl) dX9_years_110 (fun r ν h110 => ?_)
              obtain ⟨hr, q2, hν, hag2⟩ := h110
              subst hν hr
              have hdh := zhap_do n kd al nc an (d, b) w 2001 (by omega)
              rw [hdh] at hag2 ⊢
              refine z_pop K dX9_years_113 rfl ?_
              refine z_iload_n K dX9_years_114 rfl ?_
              refine z_aload_n K dX9_years_115 rfl ?_
              refine z_aload_n K dX9_years_116 rfl ?_
              refine z_get (k := 39) (v := .ref (ad 47)) K dX9_years_117 fl_X9_31 rfl rfl rfl ?_
              refine z_iconst K dX9_years_120 ?_
              refine z_callVd K hl1 hg1 (kb := 39) (As := [.ref (ad 47), .int (zi (2 : Int))]) (rest := [.int (zi ((t : Nat) : Int))]) (cm_thatAre_r la g0 ad (zup (zup (zup μ 39 (zu1 g 23 (zrnd z))) 47 q2) 53 ((zhap n kd al nc an w (d, b)).2)) n nc 7 kd al wt an (zhap n kd al nc an w (d, b)).1 hm9 hhv.1 hag2 2 ⟨by decide, by decide⟩) (by decide) lk_X9_122 cd_X9_thatAre rfl rfl rfl rfl (Nat.le_of_ble_eq_true rfl) dX9_years_121 ?_
              show zV χ 5 ad zSH 0 0 124 [(0, .ref (ad 39)), (1, .int (zi ((m : Nat) : Int))), (2, .int (zi ((t : Nat) : Int))), (3, .int (zi ((i : Nat) : Int))), (4, .int (zi ((w : Nat) : Int)))] [.int (zi ((zwho (zhap n kd al nc an w (d, b)).1 2 n : Nat) : Int)), .int (zi ((t : Nat) : Int))] (zup (zup (zup μ 39 (zu1 g 23 (zrnd z))) 47 q2) 53 ((zhap n kd al nc an w (d, b)).2))
              refine z_callSd K hl1 hg1 (As := [.int (zi ((zwho (zhap n kd al nc an w (d, b)).1 2 n : Nat) : Int))]) (rest := [.int (zi ((t : Nat) : Int))]) (cm_many la g0 ad (zup (zup (zup μ 39 (zu1 g 23 (zrnd z))) 47 q2) 53 ((zhap n kd al nc an w (d, b)).2)) (zwho (zhap n kd al nc an w (d, b)).1 2 n) (z64 (zwho_lt _ _ _) hn6)) (by decide) lk_X9_128 cd_X9_many rfl rfl (Nat.le_of_ble_eq_true rfl) dX9_years_124 ?_
              show zV χ 5 ad zSH 0 0 127 [(0, .ref (ad 39)), (1, .int (zi ((m : Nat) : Int))), (2, .int (zi ((t : Nat) : Int))), (3, .int (zi ((i : Nat) : Int))), (4, .int (zi ((w : Nat) : Int)))] [.int (zi ((zpop (zwho (zhap n kd al nc an w (d, b)).1 2 n) : Nat) : Int)), .int (zi ((t : Nat) : Int))] (zup (zup (zup μ 39 (zu1 g 23 (zrnd z))) 47 q2) 53 ((zhap n kd al nc an w (d, b)).2))
              refine z_iadd K dX9_years_127 ?_
              rw [show (((t : Nat) : Int) + ((zpop (zwho (zhap n kd al nc an w (d, b)).1 2 n) : Nat) : Int)) = ((t + zpop (zwho (zhap n kd al nc an w (d, b)).1 2 n) : Nat) : Int) from (by omega)]
              refine z_istore_n (lv' := [(0, .ref (ad 39)), (1, .int (zi ((m : Nat) : Int))), (2, .int (zi ((t + zpop (zwho (zhap n kd al nc an w (d, b)).1 2 n) : Nat) : Int))), (3, .int (zi ((i : Nat) : Int))), (4, .int (zi ((w : Nat) : Int)))]) K dX9_years_128 (by decide) rfl ?_
              refine z_iincN (lv' := [(0, .ref (ad 39)), (1, .int (zi ((m : Nat) : Int))), (2, .int (zi ((t + zpop (zwho (zhap n kd al nc an w (d, b)).1 2 n) : Nat) : Int))), (3, .int (zi ((i + 1 : Nat) : Int))), (4, .int (zi ((w : Nat) : Int)))]) K dX9_years_129 rfl (by decide) rfl ?_
              refine z_goto (tgt := 28) K dX9_years_132 (by decide) ?_
              refine z_ipick [0, 1, 2, 3] rfl ?_
              exact ih (i + 1) (by omega) (by omega) (zhap n kd al nc an w (d, b)).1 _ q2 (zu1 g 23 (zrnd z)) (zrnd z) (t + zpop (zwho (zhap n kd al nc an w (d, b)).1 2 n)) (by
                rw [zyr_s]; dsimp only; rw [hF2, hwz]; exact zhap_fst n kd al nc an w _ _ hF1) (by
                rw [zyr_s]; dsimp only; rw [hF2]) (by
                rw [zyr_s]; dsimp only; rw [hF2, hwz, hF3, zhap_fst n kd al nc an w (zyr n kd al nc an (c, zz0) (μ 39 23) i).1 (d, b) hF1]) (by
                have := zpop_le (zwho (zhap n kd al nc an w (d, b)).1 2 n); omega) hag2 (fun j hj => by rw [zu1_ne _ _ hj]; exact hgk j hj) (zu1_eq _ _ _)
          · refine z_sipush K dX9_years_87 (by decide +kernel) ?_
            refine z_iload K dX9_years_90 rfl ?_
            refine z_iadd K dX9_years_92 ?_
            refine z_goto (tgt := 110) K dX9_years_93 (by decide) ?_
            refine z_callVi K hl1 hg1 (kb := 39) (As := [.int (zi ((2988 : Int) + ((w : Nat) : Int)))]) (rest := []) (cm_does la g0 ad (zup μ 39 (zu1 g 23 (zrnd z))) n nc kd al wt an q d b hm9 hv hag hS9 (2988 + w) (by omega)) (by decide) lk_X9_225 cd_X9_does rfl rfl rfl rfl (Nat.le_of_ble_eq_true rfl) dX9_years_110 (fun r ν h110 => ?_)
            obtain ⟨hr, q2, hν, hag2⟩ := h110
            subst hν hr
            have hdh := zhap_do n kd al nc an (d, b) w (2988 + w) (by omega)
            rw [hdh] at hag2 ⊢
            refine z_pop K dX9_years_113 rfl ?_
            refine z_iload_n K dX9_years_114 rfl ?_
            refine z_aload_n K dX9_years_115 rfl ?_
            refine z_aload_n K dX9_years_116 rfl ?_
            refine z_get (k := 39) (v := .ref (ad 47)) K dX9_years_117 fl_X9_31 rfl rfl rfl ?_
            refine z_iconst K dX9_years_120 ?_
            refine z_callVd K hl1 hg1 (kb := 39) (As := [.ref (ad 47), .int (zi (2 : Int))]) (rest := [.int (zi ((t : Nat) : Int))]) (cm_thatAre_r la g0 ad (zup (zup (zup μ 39 (zu1 g 23 (zrnd z))) 47 q2) 53 ((zhap n kd al nc an w (d, b)).2)) n nc 7 kd al wt an (zhap n kd al nc an w (d, b)).1 hm9 hhv.1 hag2 2 ⟨by decide, by decide⟩) (by decide) lk_X9_122 cd_X9_thatAre rfl rfl rfl rfl (Nat.le_of_ble_eq_true rfl) dX9_years_121 ?_
            show zV χ 5 ad zSH 0 0 124 [(0, .ref (ad 39)), (1, .int (zi ((m : Nat) : Int))), (2, .int (zi ((t : Nat) : Int))), (3, .int (zi ((i : Nat) : Int))), (4, .int (zi ((w : Nat) : Int)))] [.int (zi ((zwho (zhap n kd al nc an w (d, b)).1 2 n : Nat) : Int)), .int (zi ((t : Nat) : Int))] (zup (zup (zup μ 39 (zu1 g 23 (zrnd z))) 47 q2) 53 ((zhap n kd al nc an w (d, b)).2))
            refine z_callSd K hl1 hg1 (As := [.int (zi ((zwho (zhap n kd al nc an w (d, b)).1 2 n : Nat) : Int))]) (rest := [.int (zi ((t : Nat) : Int))]) (cm_many la g0 ad (zup (zup (zup μ 39 (zu1 g 23 (zrnd z))) 47 q2) 53 ((zhap n kd al nc an w (d, b)).2)) (zwho (zhap n kd al nc an w (d, b)).1 2 n) (z64 (zwho_lt _ _ _) hn6)) (by decide) lk_X9_128 cd_X9_many rfl rfl (Nat.le_of_ble_eq_true rfl) dX9_years_124 ?_
            show zV χ 5 ad zSH 0 0 127 [(0, .ref (ad 39)), (1, .int (zi ((m : Nat) : Int))), (2, .int (zi ((t : Nat) : Int))), (3, .int (zi ((i : Nat) : Int))), (4, .int (zi ((w : Nat) : Int)))] [.int (zi ((zpop (zwho (zhap n kd al nc an w (d, b)).1 2 n) : Nat) : Int)), .int (zi ((t : Nat) : Int))] (zup (zup (zup μ 39 (zu1 g 23 (zrnd z))) 47 q2) 53 ((zhap n kd al nc an w (d, b)).2))
            refine z_iadd K dX9_years_127 ?_
            rw [show (((t : Nat) : Int) + ((zpop (zwho (zhap n kd al nc an w (d, b)).1 2 n) : Nat) : Int)) = ((t + zpop (zwho (zhap n kd al nc an w (d, b)).1 2 n) : Nat) : Int) from (by omega)]
            refine z_istore_n (lv' := [(0, .ref (ad 39)), (1, .int (zi ((m : Nat) : Int))), (2, .int (zi ((t + zpop (zwho (zhap n kd al nc an w (d, b)).1 2 n) : Nat) : Int))), (3, .int (zi ((i : Nat) : Int))), (4, .int (zi ((w : Nat) : Int)))]) K dX9_years_128 (by decide) rfl ?_
            refine z_iincN (lv' := [(0, .ref (ad 39)), (1, .int (zi ((m : Nat) : Int))), (2, .int (zi ((t + zpop (zwho (zhap n kd al nc an w (d, b)).1 2 n) : Nat) : Int))), (3, .int (zi ((i + 1 : Nat) : Int))), (4, .int (zi ((w : Nat) : Int)))]) K dX9_years_129 rfl (by decide) rfl ?_
            refine z_goto (tgt := 28) K dX9_years_132 (by decide) ?_
            refine z_ipick [0, 1, 2, 3] rfl ?_
            exact ih (i + 1) (by omega) (by omega) (zhap n kd al nc an w (d, b)).1 _ q2 (zu1 g 23 (zrnd z)) (zrnd z) (t + zpop (zwho (zhap n kd al nc an w (d, b)).1 2 n)) (by
              rw [zyr_s]; dsimp only; rw [hF2, hwz]; exact zhap_fst n kd al nc an w _ _ hF1) (by
              rw [zyr_s]; dsimp only; rw [hF2]) (by
              rw [zyr_s]; dsimp only; rw [hF2, hwz, hF3, zhap_fst n kd al nc an w (zyr n kd al nc an (c, zz0) (μ 39 23) i).1 (d, b) hF1]) (by
              have := zpop_le (zwho (zhap n kd al nc an w (d, b)).1 2 n); omega) hag2 (fun j hj => by rw [zu1_ne _ _ hj]; exact hgk j hj) (zu1_eq _ _ _)
        · refine z_sipush K dX9_years_71 (by decide +kernel) ?_
          refine z_iload K dX9_years_74 rfl ?_
          refine z_iadd K dX9_years_76 ?_
          refine z_goto (tgt := 110) K dX9_years_77 (by decide) ?_
          refine z_callVi K hl1 hg1 (kb := 39) (As := [.int (zi ((1000 : Int) + ((w : Nat) : Int)))]) (rest := []) (cm_does la g0 ad (zup μ 39 (zu1 g 23 (zrnd z))) n nc kd al wt an q d b hm9 hv hag hS9 (1000 + w) (by omega)) (by decide) lk_X9_225 cd_X9_does rfl rfl rfl rfl (Nat.le_of_ble_eq_true rfl) dX9_years_110 (fun r ν h110 => ?_)
          obtain ⟨hr, q2, hν, hag2⟩ := h110
          subst hν hr
          have hdh := zhap_do n kd al nc an (d, b) w (1000 + w) (by omega)
          rw [hdh] at hag2 ⊢
          refine z_pop K dX9_years_113 rfl ?_
          refine z_iload_n K dX9_years_114 rfl ?_
          refine z_aload_n K dX9_years_115 rfl ?_
          refine z_aload_n K dX9_years_116 rfl ?_
          refine z_get (k := 39) (v := .ref (ad 47)) K dX9_years_117 fl_X9_31 rfl rfl rfl ?_
          refine z_iconst K dX9_years_120 ?_
          refine z_callVd K hl1 hg1 (kb := 39) (As := [.ref (ad 47), .int (zi (2 : Int))]) (rest := [.int (zi ((t : Nat) : Int))]) (cm_thatAre_r la g0 ad (zup (zup (zup μ 39 (zu1 g 23 (zrnd z))) 47 q2) 53 ((zhap n kd al nc an w (d, b)).2)) n nc 7 kd al wt an (zhap n kd al nc an w (d, b)).1 hm9 hhv.1 hag2 2 ⟨by decide, by decide⟩) (by decide) lk_X9_122 cd_X9_thatAre rfl rfl rfl rfl (Nat.le_of_ble_eq_true rfl) dX9_years_121 ?_
          show zV χ 5 ad zSH 0 0 124 [(0, .ref (ad 39)), (1, .int (zi ((m : Nat) : Int))), (2, .int (zi ((t : Nat) : Int))), (3, .int (zi ((i : Nat) : Int))), (4, .int (zi ((w : Nat) : Int)))] [.int (zi ((zwho (zhap n kd al nc an w (d, b)).1 2 n : Nat) : Int)), .int (zi ((t : Nat) : Int))] (zup (zup (zup μ 39 (zu1 g 23 (zrnd z))) 47 q2) 53 ((zhap n kd al nc an w (d, b)).2))
          refine z_callSd K hl1 hg1 (As := [.int (zi ((zwho (zhap n kd al nc an w (d, b)).1 2 n : Nat) : Int))]) (rest := [.int (zi ((t : Nat) : Int))]) (cm_many la g0 ad (zup (zup (zup μ 39 (zu1 g 23 (zrnd z))) 47 q2) 53 ((zhap n kd al nc an w (d, b)).2)) (zwho (zhap n kd al nc an w (d, b)).1 2 n) (z64 (zwho_lt _ _ _) hn6)) (by decide) lk_X9_128 cd_X9_many rfl rfl (Nat.le_of_ble_eq_true rfl) dX9_years_124 ?_
          show zV χ 5 ad zSH 0 0 127 [(0, .ref (ad 39)), (1, .int (zi ((m : Nat) : Int))), (2, .int (zi ((t : Nat) : Int))), (3, .int (zi ((i : Nat) : Int))), (4, .int (zi ((w : Nat) : Int)))] [.int (zi ((zpop (zwho (zhap n kd al nc an w (d, b)).1 2 n) : Nat) : Int)), .int (zi ((t : Nat) : Int))] (zup (zup (zup μ 39 (zu1 g 23 (zrnd z))) 47 q2) 53 ((zhap n kd al nc an w (d, b)).2))
          refine z_iadd K dX9_years_127 ?_
          rw [show (((t : Nat) : Int) + ((zpop (zwho (zhap n kd al nc an w (d, b)).1 2 n) : Nat) : Int)) = ((t + zpop (zwho (zhap n kd al nc an w (d, b)).1 2 n) : Nat) : Int) from (by omega)]
          refine z_istore_n (lv' := [(0, .ref (ad 39)), (1, .int (zi ((m : Nat) : Int))), (2, .int (zi ((t + zpop (zwho (zhap n kd al nc an w (d, b)).1 2 n) : Nat) : Int))), (3, .int (zi ((i : Nat) : Int))), (4, .int (zi ((w : Nat) : Int)))]) K dX9_years_128 (by decide) rfl ?_
          refine z_iincN (lv' := [(0, .ref (ad 39)), (1, .int (zi ((m : Nat) : Int))), (2, .int (zi ((t + zpop (zwho (zhap n kd al nc an w (d, b)).1 2 n) : Nat) : Int))), (3, .int (zi ((i + 1 : Nat) : Int))), (4, .int (zi ((w : Nat) : Int)))]) K dX9_years_129 rfl (by decide) rfl ?_
          refine z_goto (tgt := 28) K dX9_years_132 (by decide) ?_
          refine z_ipick [0, 1, 2, 3] rfl ?_
          exact ih (i + 1) (by omega) (by omega) (zhap n kd al nc an w (d, b)).1 _ q2 (zu1 g 23 (zrnd z)) (zrnd z) (t + zpop (zwho (zhap n kd al nc an w (d, b)).1 2 n)) (by
            rw [zyr_s]; dsimp only; rw [hF2, hwz]; exact zhap_fst n kd al nc an w _ _ hF1) (by
            rw [zyr_s]; dsimp only; rw [hF2]) (by
            rw [zyr_s]; dsimp only; rw [hF2, hwz, hF3, zhap_fst n kd al nc an w (zyr n kd al nc an (c, zz0) (μ 39 23) i).1 (d, b) hF1]) (by
            have := zpop_le (zwho (zhap n kd al nc an w (d, b)).1 2 n); omega) hag2 (fun j hj => by rw [zu1_ne _ _ hj]; exact hgk j hj) (zu1_eq _ _ _)
    exact L28 0 (by omega) c (μ 53) (μ 46) _ (μ 39 23) 0 rfl rfl rfl (by omega) hg (fun j hj => rfl) rfl
  · refine z_bipush K dX9_years_17 (by decide +kernel) ?_
    exact z_ireti K T rfl dX9_years_19 ⟨by unfold zA_years; rw [if_neg (by omega)], by rw [if_neg (by omega)]; rfl, (zFr_c (zFr_c (zFr_h (zFr_0 μ) (zFh_u (zFh_0 _) (by decide) _)) (by decide) _) (by decide) _).1, fun j hj _ => (zFr_c (zFr_c (zFr_h (zFr_0 μ) (zFh_u (zFh_0 _) (by decide) _)) (by decide) _) (by decide) _).2 j hj⟩
