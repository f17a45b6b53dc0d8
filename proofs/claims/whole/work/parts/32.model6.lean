set_option maxHeartbeats 4000000 in
set_option maxRecDepth 100000 in
theorem cm_begin (la : Launch) (g0 : zG) (ad : Nat → Nat) (μ : zMem) (h t a : Nat → Int) : zCon la g0 yX9_begin cX9_begin 2 none 0 ad zSH [.ref (ad 39)] (zup (zup (zup μ 39 h) 47 t) 53 a) (zPm (zup (zup (zup μ 39 (zu1 h 24 7)) 47 (μ 46)) 53 a)) := by
  refine zCon_of (by decide +kernel) (Nat.le_of_ble_eq_true rfl) ?_
  intro χ K T hl1 hg1
  have K : zOk χ cX9_begin RX9 2 0 none := K
  show zV χ 2 ad zSH 0 0 0 [(0, .ref (ad 39))] [] (zup (zup (zup μ 39 h) 47 t) 53 a)
  refine z_aload_n K dX9_begin_0 rfl ?_
  refine z_bipush K dX9_begin_1 (by decide +kernel) ?_
  refine z_puti (k := 39) K dX9_begin_3 fp_X9_141 rfl rfl (z_mem (ν := zup (zup (zup μ 39 (zu1 h 24 (7 : Int))) 47 t) 53 a) (zup_sw3 _ (by decide) (by decide) _ _ _ _) ?_)
  refine z_iconst K dX9_begin_6 ?_
  refine z_istore_n (lv' := [(0, .ref (ad 39)), (1, .int (zi (0 : Int)))]) K dX9_begin_7 (by decide) rfl ?_
  have L8 : ∀ i, i ≤ 23 → ∀ (u : Nat → Int), (∀ j, j < i → u j = μ 46 j) → zV χ 2 ad zSH 0 0 8 [(0, .ref (ad 39)), (1, .int (zi ((i : Nat) : Int)))] [] (zup (zup (zup μ 39 (zu1 h 24 (7 : Int))) 47 u) 53 a) := by
    refine zfor ?_
    intro i hi ih u hu
    refine z_iload_n K dX9_begin_8 rfl ?_
    refine z_bipush K dX9_begin_9 (by decide +kernel) ?_
    refine z_icmpge (tgt := 32) K dX9_begin_11 (by decide) (by omega) ⟨by decide, by decide⟩ (fun h11 => ?_) (fun h11 => ?_)
    · refine z_eqv (k := 47) (n := 23) (b := false) (ν := zup (zup (zup μ 39 (zu1 h 24 (7 : Int))) 47 (μ 46)) 53 a) rfl (fun q hq => ?_) (fun j hj => ?_) ?_
      · unfold zup; simp [hq]
      · exact hu j (by omega)
      exact z_vretd K T rfl dX9_begin_32 rfl
    · refine z_aload_n K dX9_begin_14 rfl ?_
      refine z_get (k := 39) (v := .ref (ad 47)) K dX9_begin_15 fl_X9_31 rfl rfl rfl ?_
      refine z_iload_n K dX9_begin_18 rfl ?_
      refine z_aload_n K dX9_begin_19 rfl ?_
      refine z_get (k := 39) (v := .ref (ad 46)) K dX9_begin_20 fl_X9_28 rfl rfl rfl ?_
      refine z_iload_n K dX9_begin_23 rfl ?_
      refine z_iald (k := 46) (v := μ 46 i) K dX9_begin_24 i rfl (by decide) (by omega) (by omega) rfl ?_
      refine z_iast (k := 47) K dX9_begin_25 i rfl (by decide) (by omega) (by omega) (z_mem (ν := zup (zup (zup μ 39 (zu1 h 24 (7 : Int))) 47 (zu1 u i (μ 46 i))) 53 a) (zup_sw _ (by decide) _ _ _) ?_)
      refine z_iincN (lv' := [(0, .ref (ad 39)), (1, .int (zi ((i + 1 : Nat) : Int)))]) K dX9_begin_26 rfl (by decide) rfl ?_
      refine z_goto (tgt := 8) K dX9_begin_29 (by decide) ?_
      exact ih (i + 1) (by omega) (by omega) _ (fun j hj => by
        simp only [zu1]
        split
        · rename_i e; rw [e]
        · exact hu j (by omega))
  exact L8 0 (by omega) t (fun j hj => absurd hj (by omega))
set_option maxHeartbeats 4000000 in
set_option maxRecDepth 100000 in
theorem cm_goDays (la : Launch) (g0 : zG) (ad : Nat → Nat) (μ : zMem) (n nc S : Nat) (kd al wt an p c a : Nat → Int) (hm : zMP μ n nc kd al wt an) (hw : zHV n nc c) (hg : zAg n nc S p c) (hS : μ 39 24 = (S : Int)) (hS6 : S < 64) (m : Nat) (hm9 : m ≤ 100) : zCon la g0 yX9_goDays cX9_goDays 3 none 6 ad zSH [.ref (ad 39), .int (zi ((m : Nat) : Int))] (zup (zup μ 47 p) 53 a) (zPv (zGo μ 47 n nc S (zdays n kd al nc an m (c, a)))) := by
  refine zCon_of (by decide +kernel) (Nat.le_of_ble_eq_true rfl) ?_
  intro χ K T hl1 hg1
  have K : zOk χ cX9_goDays RX9 3 6 none := K
  obtain ⟨hn, hnc, hpl, hpa, hpk⟩ := id hm
  have hn6 := hpk.1
  have hnc3 := hpk.2.1
  show zV χ 3 ad zSH 0 0 0 [(0, .ref (ad 39)), (1, .int (zi ((m : Nat) : Int)))] [] (zup (zup μ 47 p) 53 a)
  refine z_iconst K dX9_goDays_0 ?_
  refine z_istore_n (lv' := [(0, .ref (ad 39)), (1, .int (zi ((m : Nat) : Int))), (2, .int (zi (0 : Int)))]) K dX9_goDays_1 (by decide) rfl ?_
  have L2 : ∀ i, i ≤ m → ∀ (d b q : Nat → Int), zdays n kd al nc an i (c, a) = (d, b) → zAg n nc S q d → zV χ 3 ad zSH 0 0 2 [(0, .ref (ad 39)), (1, .int (zi ((m : Nat) : Int))), (2, .int (zi ((i : Nat) : Int)))] [] (zup (zup μ 47 q) 53 b) := by
    refine zfor ?_
    intro i hi ih d b q hF hag
    have hwv := zdays_ok hpk (s := (c, a)) hw i
    rw [hF] at hwv
    dsimp only at hwv
    refine z_iload_n K dX9_goDays_2 rfl ?_
    refine z_iload_n K dX9_goDays_3 rfl ?_
    refine z_icmpge (tgt := 22) K dX9_goDays_4 (by decide) (by omega) (by omega) (fun h4 => ?_) (fun h4 => ?_)
    · exact z_vreti K T rfl dX9_goDays_22 (by
          have e : i = m := by omega
          rw [e] at hF
          exact ⟨q, by rw [hF], by rw [hF]; exact hag⟩)
    · refine z_aload_n K dX9_goDays_7 rfl ?_
      refine z_aload_n K dX9_goDays_8 rfl ?_
      refine z_get (k := 39) (v := .ref (ad 47)) K dX9_goDays_9 fl_X9_31 rfl rfl rfl ?_
      refine z_callVi K hl1 hg1 (kb := 39) (As := [.ref (ad 47)]) (rest := []) (cm_goDay_r la g0 ad μ n nc S kd al wt an q d b hm hwv hag hS hS6) (by decide) lk_X9_155 cd_X9_goDay rfl rfl rfl rfl (Nat.le_of_ble_eq_true rfl) dX9_goDays_12 (fun r ν h12 => ?_)
      obtain ⟨hr, q2, hν, hag2⟩ := h12
      subst hν hr
      refine z_pop K dX9_goDays_15 rfl ?_
      refine z_iincN (lv' := [(0, .ref (ad 39)), (1, .int (zi ((m : Nat) : Int))), (2, .int (zi ((i + 1 : Nat) : Int)))]) K dX9_goDays_16 rfl (by decide) rfl ?_
      refine z_goto (tgt := 2) K dX9_goDays_19 (by decide) ?_
      exact ih (i + 1) (by omega) (by omega) _ _ q2 (by show zday n kd al nc an (zdays n kd al nc an i (c, a)) = _; rw [hF]) hag2
  exact L2 0 (by omega) c a p rfl hg
set_option maxHeartbeats 4000000 in
set_option maxRecDepth 100000 in
theorem cq_ahead (la : Launch) (g0 : zG) (ad : Nat → Nat) (μ : zMem) (n nc : Nat) (kd al wt an c : Nat → Int) (hm : zMP μ n nc kd al wt an) (hw : zHV n nc c) (hg : zAg n nc 7 (μ 46) c) (x w : Int) (hx : zR x) (hwr : zR w) : zCon la g0 yX9_ahead cX9_ahead 3 (some .int) 7 ad zSH [.ref (ad 39), .int (zi x), .int (zi w)] μ (zPi (zQm μ (zA_ahead n kd al nc an c x w))) := by
  refine zCon_of (by decide +kernel) (Nat.le_of_ble_eq_true rfl) ?_
  intro χ K T hl1 hg1
  have K : zOk χ cX9_ahead RX9 3 7 (some .int) := K
  obtain ⟨hn, hnc, hpl, hpa, hpk⟩ := id hm
  have hn6 := hpk.1
  have hnc3 := hpk.2.1
  refine z_mem (ν := zup (zup (zup μ 39 (μ 39)) 47 (μ 47)) 53 (μ 53)) (zup_id3 μ 39 47 53 (by decide) (by decide) (by decide)) ?_
  show zV χ 3 ad zSH 0 0 0 [(0, .ref (ad 39)), (1, .int (zi x)), (2, .int (zi w))] [] (zup (zup (zup μ 39 (μ 39)) 47 (μ 47)) 53 (μ 53))
  refine z_aload_n K dX9_ahead_0 rfl ?_
  refine z_iconst K dX9_ahead_1 ?_
  refine z_puti (k := 39) K dX9_ahead_2 fp_X9_59 rfl rfl (z_mem (ν := zup (zup (zup μ 39 (zu1 (μ 39) 0 (0 : Int))) 47 (μ 47)) 53 (μ 53)) (zup_sw3 _ (by decide) (by decide) _ _ _ _) ?_)
  refine z_iload_n K dX9_ahead_5 rfl ?_
  refine z_i2l K dX9_ahead_6 (by omega) ?_
  refine z_lconst (z := 0) K dX9_ahead_7 rfl ?_
  refine z_ldc2 (z := 20) K dX9_ahead_8 kc_X9_187 rfl ?_
  refine z_callSd K hl1 hg1 (As := [.long (zl x), .long (zl (0 : Int)), .long (zl (20 : Int))]) (rest := []) (cm_in la g0 ad (zup (zup (zup μ 39 (zu1 (μ 39) 0 (0 : Int))) 47 (μ 47)) 53 (μ 53)) x (0 : Int) (20 : Int) ⟨by omega, by omega⟩ ⟨by decide, by decide⟩ ⟨by decide, by decide⟩) (by decide) lk_X9_66 cd_X9_in rfl rfl (Nat.le_of_ble_eq_true rfl) dX9_ahead_11 ?_
  show zV χ 3 ad zSH 0 0 14 [(0, .ref (ad 39)), (1, .int (zi x)), (2, .int (zi w))] [.int (zi (if (0 : Int) ≤ x ∧ x ≤ (20 : Int) then 1 else 0))] (zup (zup (zup μ 39 (zu1 (μ 39) 0 (0 : Int))) 47 (μ 47)) 53 (μ 53))
  refine z_ifeq (tgt := 29) K dX9_ahead_14 (by decide) (by omega) (fun h14 => ?_) (fun h14 => ?_)
  · refine z_bipush K dX9_ahead_29 (by decide +kernel) ?_
    exact z_ireti K T rfl dX9_ahead_31 ⟨by unfold zA_ahead; rw [if_neg (by omega)], (zFr_c (zFr_c (zFr_h (zFr_0 μ) (by repeat (first | exact zFh_0 _ | refine zFh_u ?_ (by decide) _))) (by decide) _) (by decide) _)⟩
  · refine z_iload_n K dX9_ahead_17 rfl ?_
    refine z_i2l K dX9_ahead_18 (by omega) ?_
    refine z_lconst (z := 0) K dX9_ahead_19 rfl ?_
    refine z_ldc2 (z := 3) K dX9_ahead_20 kc_X9_189 rfl ?_
    refine z_callSd K hl1 hg1 (As := [.long (zl w), .long (zl (0 : Int)), .long (zl (3 : Int))]) (rest := []) (cm_in la g0 ad (zup (zup (zup μ 39 (zu1 (μ 39) 0 (0 : Int))) 47 (μ 47)) 53 (μ 53)) w (0 : Int) (3 : Int) ⟨by omega, by omega⟩ ⟨by decide, by decide⟩ ⟨by decide, by decide⟩) (by decide) lk_X9_66 cd_X9_in rfl rfl (Nat.le_of_ble_eq_true rfl) dX9_ahead_23 ?_
    show zV χ 3 ad zSH 0 0 26 [(0, .ref (ad 39)), (1, .int (zi x)), (2, .int (zi w))] [.int (zi (if (0 : Int) ≤ w ∧ w ≤ (3 : Int) then 1 else 0))] (zup (zup (zup μ 39 (zu1 (μ 39) 0 (0 : Int))) 47 (μ 47)) 53 (μ 53))
    refine z_ifne (tgt := 32) K dX9_ahead_26 (by decide) (by omega) (fun h26 => ?_) (fun h26 => ?_)
    · obtain ⟨m, rfl⟩ : ∃ m : Nat, x = (m : Int) := ⟨x.toNat, by omega⟩
      refine z_aload_n K dX9_ahead_32 rfl ?_
      refine z_callVm K hl1 hg1 (kb := 39) (As := []) (rest := []) (cm_begin la g0 ad μ (zu1 (μ 39) 0 (0 : Int)) (μ 47) (μ 53)) (by decide) lk_X9_191 cd_X9_begin rfl rfl rfl rfl (Nat.le_of_ble_eq_true rfl) dX9_ahead_33 ?_
      refine z_aload_n K dX9_ahead_36 rfl ?_
      refine z_iload_n K dX9_ahead_37 rfl ?_
      refine z_callVv K hl1 hg1 (kb := 39) (As := [.int (zi ((m : Nat) : Int))]) (rest := []) (cm_goDays la g0 ad (zup μ 39 (zu1 (zu1 (μ 39) 0 (0 : Int)) 24 (7 : Int))) n nc 7 kd al wt an (μ 46) c (μ 53) hm hw hg rfl (by decide) m (by omega)) (by decide) lk_X9_194 cd_X9_goDays rfl rfl rfl rfl (Nat.le_of_ble_eq_true rfl) dX9_ahead_38 (fun ν h38 => ?_)
      obtain ⟨q2, hν, hag2⟩ := h38
      subst hν
      have hdo := zdays_ok hpk (s := (c, μ 53)) hw m
      refine z_aload_n K dX9_ahead_41 rfl ?_
      refine z_aload_n K dX9_ahead_42 rfl ?_
      refine z_get (k := 39) (v := .ref (ad 47)) K dX9_ahead_43 fl_X9_31 rfl rfl rfl ?_
      refine z_iload_n K dX9_ahead_46 rfl ?_
      refine z_callVd K hl1 hg1 (kb := 39) (As := [.ref (ad 47), .int (zi w)]) (rest := []) (cm_thatAre_r la g0 ad (zup (zup (zup μ 39 (zu1 (zu1 (μ 39) 0 (0 : Int)) 24 (7 : Int))) 47 q2) 53 ((zdays n kd al nc an m (c, μ 53)).2)) n nc 7 kd al wt an (zdays n kd al nc an m (c, μ 53)).1 hm hdo.1 hag2 w hwr) (by decide) lk_X9_122 cd_X9_thatAre rfl rfl rfl rfl (Nat.le_of_ble_eq_true rfl) dX9_ahead_47 ?_
      show zV χ 3 ad zSH 0 0 50 [(0, .ref (ad 39)), (1, .int (zi ((m : Nat) : Int))), (2, .int (zi w))] [.int (zi ((zwho (zdays n kd al nc an m (c, μ 53)).1 w n : Nat) : Int))] (zup (zup (zup μ 39 (zu1 (zu1 (μ 39) 0 (0 : Int)) 24 (7 : Int))) 47 q2) 53 ((zdays n kd al nc an m (c, μ 53)).2))
      exact z_ireti K T rfl dX9_ahead_50 ⟨by unfold zA_ahead; rw [if_pos ⟨by omega, by omega, by omega⟩, Int.toNat_natCast, zdays_fst n kd al nc an (c, μ 53) (c, zz0) rfl], (zFr_c (zFr_c (zFr_h (zFr_0 μ) (by repeat (first | exact zFh_0 _ | refine zFh_u ?_ (by decide) _))) (by decide) _) (by decide) _)⟩
    · refine z_bipush K dX9_ahead_29 (by decide +kernel) ?_
      exact z_ireti K T rfl dX9_ahead_31 ⟨by unfold zA_ahead; rw [if_neg (by omega)], (zFr_c (zFr_c (zFr_h (zFr_0 μ) (by repeat (first | exact zFh_0 _ | refine zFh_u ?_ (by decide) _))) (by decide) _) (by decide) _)⟩
set_option maxHeartbeats 4000000 in
set_option maxRecDepth 100000 in
theorem cm_hatchesThen (la : Launch) (g0 : zG) (ad : Nat → Nat) (μ : zMem) (n nc S : Nat) (kd al wt an p c a : Nat → Int) (hm : zMP μ n nc kd al wt an) (hw : zHV n nc c) (hg : zAg n nc S p c) (hS : μ 39 24 = (S : Int)) (hS6 : S < 64) (l : Nat) (hl : l < n) : zCon la g0 yX9_hatchesThen cX9_hatchesThen 3 (some .int) 6 ad zSH [.ref (ad 39), .int (zi ((l : Nat) : Int))] (zup (zup μ 47 p) 53 a) (zPi (fun r ν => r = (if 20 < zdt n kd al nc an l 21 0 (c, a) then -9 else zdt n kd al nc an l 21 0 (c, a)) ∧ ∃ q b, ν = zup (zup μ 47 q) 53 b)) := by
  refine zCon_of (by decide +kernel) (Nat.le_of_ble_eq_true rfl) ?_
  intro χ K T hl1 hg1
  have K : zOk χ cX9_hatchesThen RX9 3 6 (some .int) := K
  obtain ⟨hn, hnc, hpl, hpa, hpk⟩ := id hm
  have hn6 := hpk.1
  have hnc3 := hpk.2.1
  have h6 : 2 ^ n ≤ 2 ^ 6 := Nat.pow_le_pow_right (by decide) hn6
  show zV χ 3 ad zSH 0 0 0 [(0, .ref (ad 39)), (1, .int (zi ((l : Nat) : Int)))] [] (zup (zup μ 47 p) 53 a)
  refine z_iconst K dX9_hatchesThen_0 ?_
  refine z_istore_n (lv' := [(0, .ref (ad 39)), (1, .int (zi ((l : Nat) : Int))), (2, .int (zi (0 : Int)))]) K dX9_hatchesThen_1 (by decide) rfl ?_
  have L2 : ∀ i, i ≤ 21 → ∀ (d b q : Nat → Int), zHV n nc d → zAg n nc S q d → (zdt n kd al nc an l (21 - i) i (d, b) = zdt n kd al nc an l 21 0 (c, a) ∨ (d (12 + l) = 1 ∧ zdt n kd al nc an l 21 0 (c, a) = 21)) → zV χ 3 ad zSH 0 0 2 [(0, .ref (ad 39)), (1, .int (zi ((l : Nat) : Int))), (2, .int (zi ((i : Nat) : Int)))] [] (zup (zup μ 47 q) 53 b) := by
    refine zfor ?_
    intro i hi ih d b q hwv hag hZ
    have hb2 : zwho d 2 n ||| zwho d 3 n < 64 := Nat.or_lt_two_pow (n := 6) (Nat.lt_of_lt_of_le (zwho_lt d 2 n) h6) (Nat.lt_of_lt_of_le (zwho_lt d 3 n) h6)
    have hbl := zbit_lost d hn6 hl
    have hvl := hwv.1.1 l hl
    refine z_iload_n K dX9_hatchesThen_2 rfl ?_
    refine z_bipush K dX9_hatchesThen_3 (by decide +kernel) ?_
    refine z_icmpgt (tgt := 40) K dX9_hatchesThen_5 (by decide) (by omega) ⟨by decide, by decide⟩ (fun h5 => ?_) (fun h5 => ?_)
    · refine z_bipush K dX9_hatchesThen_40 (by decide +kernel) ?_
      exact z_ireti K T rfl dX9_hatchesThen_42 (by
          have hZ9 : zdt n kd al nc an l 21 0 (c, a) = 21 := by
            rcases hZ with hZ | hZ
            · rw [show 21 - i = 0 by omega] at hZ; exact hZ.symm
            · exact hZ.2
          exact ⟨by rw [hZ9]; rfl, q, b, rfl⟩)
    · refine z_aload_n K dX9_hatchesThen_8 rfl ?_
      refine z_aload_n K dX9_hatchesThen_9 rfl ?_
      refine z_get (k := 39) (v := .ref (ad 47)) K dX9_hatchesThen_10 fl_X9_31 rfl rfl rfl ?_
      refine z_callVd K hl1 hg1 (kb := 39) (As := [.ref (ad 47)]) (rest := []) (cm_lost_r la g0 ad (zup (zup μ 47 q) 53 b) n nc S kd al wt an d hm hwv.1 hag) (by decide) lk_X9_198 cd_X9_lost rfl rfl rfl rfl (Nat.le_of_ble_eq_true rfl) dX9_hatchesThen_13 ?_
      show zV χ 3 ad zSH 0 0 16 [(0, .ref (ad 39)), (1, .int (zi ((l : Nat) : Int))), (2, .int (zi ((i : Nat) : Int)))] [.int (zi ((zwho d 2 n ||| zwho d 3 n : Nat) : Int))] (zup (zup μ 47 q) 53 b)
      refine z_iload_n K dX9_hatchesThen_16 rfl ?_
      refine z_callSd K hl1 hg1 (As := [.int (zi ((zwho d 2 n ||| zwho d 3 n : Nat) : Int)), .int (zi ((l : Nat) : Int))]) (rest := []) (cm_has la g0 ad (zup (zup μ 47 q) 53 b) (zwho d 2 n ||| zwho d 3 n) l hb2 (by omega)) (by decide) lk_X9_144 cd_X9_has rfl rfl (Nat.le_of_ble_eq_true rfl) dX9_hatchesThen_17 ?_
      show zV χ 3 ad zSH 0 0 20 [(0, .ref (ad 39)), (1, .int (zi ((l : Nat) : Int))), (2, .int (zi ((i : Nat) : Int)))] [.int (zi ((zbit (zwho d 2 n ||| zwho d 3 n) l : Nat) : Int))] (zup (zup μ 47 q) 53 b)
      have hbt := zbit_lt (zwho d 2 n ||| zwho d 3 n) l
      refine z_ifeq (tgt := 25) K dX9_hatchesThen_20 (by decide) (by omega) (fun h20 => ?_) (fun h20 => ?_)
      · refine z_aload_n K dX9_hatchesThen_25 rfl ?_
        refine z_aload_n K dX9_hatchesThen_26 rfl ?_
        refine z_get (k := 39) (v := .ref (ad 47)) K dX9_hatchesThen_27 fl_X9_31 rfl rfl rfl ?_
        refine z_callVi K hl1 hg1 (kb := 39) (As := [.ref (ad 47)]) (rest := []) (cm_goDay_r la g0 ad μ n nc S kd al wt an q d b hm hwv hag hS hS6) (by decide) lk_X9_155 cd_X9_goDay rfl rfl rfl rfl (Nat.le_of_ble_eq_true rfl) dX9_hatchesThen_30 (fun r ν h30 => ?_)
        obtain ⟨hr, q2, hν, hag2⟩ := h30
        subst hν hr
        refine z_pop K dX9_hatchesThen_33 rfl ?_
        refine z_iincN (lv' := [(0, .ref (ad 39)), (1, .int (zi ((l : Nat) : Int))), (2, .int (zi ((i + 1 : Nat) : Int)))]) K dX9_hatchesThen_34 rfl (by decide) rfl ?_
        refine z_goto (tgt := 2) K dX9_hatchesThen_37 (by decide) ?_
        exact ih (i + 1) (by omega) (by omega) _ _ q2 (zday_ok hpk (s := (d, b)) hwv) hag2 (by
          by_cases h1 : d (12 + l) = 1
          · refine Or.inr ⟨zday_one hpk (s := (d, b)) hwv hl h1, ?_⟩
            rcases hZ with hZ | hZ
            · rw [← hZ, show 21 - i = (20 - i) + 1 by omega, zdt_s, if_neg (by show ¬ d (12 + l) = 0; omega), if_pos h1]
            · exact hZ.2
          · have h0 : d (12 + l) = 0 := by
              rw [show zbit (zwho d 2 n ||| zwho d 3 n) l = 0 by omega] at hbl
              by_cases h23 : d (12 + l) = 2 ∨ d (12 + l) = 3
              · rw [if_pos h23] at hbl; omega
              · omega
            rcases hZ with hZ | hZ
            · refine Or.inl ?_
              rw [← hZ, show 21 - i = (21 - (i + 1)) + 1 by omega, zdt_s, if_pos h0]
            · exact absurd hZ.1 h1)
      · refine z_iload_n K dX9_hatchesThen_23 rfl ?_
        exact z_ireti K T rfl dX9_hatchesThen_24 (by
            have h23 : d (12 + l) = 2 ∨ d (12 + l) = 3 := by
              by_cases h : d (12 + l) = 2 ∨ d (12 + l) = 3
              · exact h
              · rw [if_neg h] at hbl; omega
            rcases hZ with hZ | hZ
            · rw [show 21 - i = (20 - i) + 1 by omega, zdt_s, if_neg (by show ¬ d (12 + l) = 0; omega), if_neg (by show ¬ d (12 + l) = 1; omega)] at hZ
              exact ⟨by rw [← hZ, if_neg (by omega)], q, b, rfl⟩
            · omega)
  exact L2 0 (by omega) c a p hw hg (Or.inl rfl)
theorem zu1_id (c : Nat → Int) (l : Nat) : zu1 c l (c l) = c := by
  funext j; unfold zu1; split
  · rename_i h; rw [h]
  · rfl
theorem zdth_self (n : Nat) (kd al : Nat → Int) (nc : Nat) (an c a : Nat → Int) (l : Nat) : zdth n kd al nc an c l (c l) = zdt n kd al nc an l 21 0 (c, a) := by
  unfold zdth
  rw [zu1_id]
  exact zdt_fst n kd al nc an l 21 0 _ _ rfl
set_option maxHeartbeats 4000000 in
set_option maxRecDepth 100000 in
theorem cq_hatches (la : Launch) (g0 : zG) (ad : Nat → Nat) (μ : zMem) (n nc : Nat) (kd al wt an c : Nat → Int) (hm : zMP μ n nc kd al wt an) (hw : zHV n nc c) (hg : zAg n nc 7 (μ 46) c) (x : Int) (hx : zR x) : zCon la g0 yX9_hatches cX9_hatches 2 (some .int) 7 ad zSH [.ref (ad 39), .int (zi x)] μ (zPi (zQm μ (zA_hatches n kd al nc an c x))) := by
  refine zCon_of (by decide +kernel) (Nat.le_of_ble_eq_true rfl) ?_
  intro χ K T hl1 hg1
  have K : zOk χ cX9_hatches RX9 2 7 (some .int) := K
  obtain ⟨hn, hnc, hpl, hpa, hpk⟩ := id hm
  have hn6 := hpk.1
  have hnc3 := hpk.2.1
  refine z_mem (ν := zup (zup (zup μ 39 (μ 39)) 47 (μ 47)) 53 (μ 53)) (zup_id3 μ 39 47 53 (by decide) (by decide) (by decide)) ?_
  show zV χ 2 ad zSH 0 0 0 [(0, .ref (ad 39)), (1, .int (zi x))] [] (zup (zup (zup μ 39 (μ 39)) 47 (μ 47)) 53 (μ 53))
  refine z_aload_n K dX9_hatches_0 rfl ?_
  refine z_iconst K dX9_hatches_1 ?_
  refine z_puti (k := 39) K dX9_hatches_2 fp_X9_59 rfl rfl (z_mem (ν := zup (zup (zup μ 39 (zu1 (μ 39) 0 (0 : Int))) 47 (μ 47)) 53 (μ 53)) (zup_sw3 _ (by decide) (by decide) _ _ _ _) ?_)
  refine z_aload_n K dX9_hatches_5 rfl ?_
  refine z_iload_n K dX9_hatches_6 rfl ?_
  refine z_callVd K hl1 hg1 (kb := 39) (As := [.int (zi x)]) (rest := []) (cm_noLetter la g0 ad (zup (zup (zup μ 39 (zu1 (μ 39) 0 (0 : Int))) 47 (μ 47)) 53 (μ 53)) n hn (by omega) x (by omega)) (by decide) lk_X9_164 cd_X9_noLetter rfl rfl rfl rfl (Nat.le_of_ble_eq_true rfl) dX9_hatches_7 ?_
  show zV χ 2 ad zSH 0 0 10 [(0, .ref (ad 39)), (1, .int (zi x))] [.int (zi (if 0 ≤ x ∧ x < (n : Int) then 0 else 1))] (zup (zup (zup μ 39 (zu1 (μ 39) 0 (0 : Int))) 47 (μ 47)) 53 (μ 53))
  refine z_ifeq (tgt := 15) K dX9_hatches_10 (by decide) (by omega) (fun h10 => ?_) (fun h10 => ?_)
  · obtain ⟨l, rfl⟩ : ∃ l : Nat, x = (l : Int) := ⟨x.toNat, by omega⟩
    refine z_aload_n K dX9_hatches_15 rfl ?_
    refine z_callVm K hl1 hg1 (kb := 39) (As := []) (rest := []) (cm_begin la g0 ad μ (zu1 (μ 39) 0 (0 : Int)) (μ 47) (μ 53)) (by decide) lk_X9_191 cd_X9_begin rfl rfl rfl rfl (Nat.le_of_ble_eq_true rfl) dX9_hatches_16 ?_
    refine z_aload_n K dX9_hatches_19 rfl ?_
    refine z_iload_n K dX9_hatches_20 rfl ?_
    refine z_callVi K hl1 hg1 (kb := 39) (As := [.int (zi ((l : Nat) : Int))]) (rest := []) (cm_hatchesThen la g0 ad (zup μ 39 (zu1 (zu1 (μ 39) 0 (0 : Int)) 24 (7 : Int))) n nc 7 kd al wt an (μ 46) c (μ 53) hm hw hg rfl (by decide) l (by omega)) (by decide) lk_X9_201 cd_X9_hatchesThen rfl rfl rfl rfl (Nat.le_of_ble_eq_true rfl) dX9_hatches_21 (fun r ν h21 => ?_)
    obtain ⟨hr, q2, b2, hν⟩ := h21
    subst hν hr
    exact z_ireti K T rfl dX9_hatches_24 ⟨by unfold zA_hatches; rw [if_pos (show 0 ≤ ((l : Nat) : Int) ∧ ((l : Nat) : Int) < (n : Int) from ⟨by omega, by omega⟩), Int.toNat_natCast, zdth_self n kd al nc an c (μ 53) l], (zFr_c (zFr_c (zFr_h (zFr_0 μ) (by repeat (first | exact zFh_0 _ | refine zFh_u ?_ (by decide) _))) (by decide) _) (by decide) _)⟩
  · refine z_iconst K dX9_hatches_13 ?_
    exact z_ireti K T rfl dX9_hatches_14 ⟨by unfold zA_hatches; rw [if_neg (by omega)], (zFr_c (zFr_c (zFr_h (zFr_0 μ) (by repeat (first | exact zFh_0 _ | refine zFh_u ?_ (by decide) _))) (by decide) _) (by decide) _)⟩
