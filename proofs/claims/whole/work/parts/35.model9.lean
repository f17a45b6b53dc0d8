set_option maxHeartbeats 4000000 in
set_option maxRecDepth 100000 in
theorem cm_day (la : Launch) (g0 : zG) (ad : Nat → Nat) (μ : zMem) (n nc : Nat) (kd al wt an c : Nat → Int) (hm : zMP μ n nc kd al wt an) (hw : zHV n nc c) (hg : zAg n nc 7 (μ 46) c) (k : Nat) (hk : μ 39 17 = (k : Int)) (hk14 : k ≤ 14) : zCon la g0 yX9_day cX9_day 1 (some .int) 6 ad zSH [.ref (ad 39)] μ (zPi (fun r ν => r = ((zdayM n kd al nc an (c, μ 53) : Nat) : Int) ∧ ∃ ν1, zNt μ (zu1 (zu1 (μ 39) 0 (0 : Int)) 24 (7 : Int)) (μ 48) k ν1 ∧ zGo ν1 46 n nc 7 (zday n kd al nc an (c, μ 53)) ν)) := by
  refine zCon_of (by decide +kernel) (Nat.le_of_ble_eq_true rfl) ?_
  intro χ K T hl1 hg1
  have K : zOk χ cX9_day RX9 1 6 (some .int) := K
  obtain ⟨hn, hnc, hpl, hpa, hpk⟩ := id hm
  have hn6 := hpk.1
  have hnc3 := hpk.2.1
  refine z_mem (ν := zup (zup μ 39 (μ 39)) 48 (μ 48)) (zup_id2 μ 39 48 (by decide)) ?_
  show zV χ 1 ad zSH 0 0 0 [(0, .ref (ad 39))] [] (zup (zup μ 39 (μ 39)) 48 (μ 48))
  refine z_aload_n K dX9_day_0 rfl ?_
  refine z_iconst K dX9_day_1 ?_
  refine z_puti (k := 39) K dX9_day_2 fp_X9_59 rfl rfl (z_mem (ν := zup (zup μ 39 (zu1 (μ 39) 0 (0 : Int))) 48 (μ 48)) (zup_sw _ (by decide) _ _ _) ?_)
  refine z_aload_n K dX9_day_5 rfl ?_
  refine z_bipush K dX9_day_6 (by decide +kernel) ?_
  refine z_puti (k := 39) K dX9_day_8 fp_X9_141 rfl rfl (z_mem (ν := zup (zup μ 39 (zu1 (zu1 (μ 39) 0 (0 : Int)) 24 (7 : Int))) 48 (μ 48)) (zup_sw _ (by decide) _ _ _) ?_)
  refine z_aload_n K dX9_day_11 rfl ?_
  refine z_callVv K hl1 hg1 (kb := 39) (As := []) (rest := []) (cm_note la g0 ad μ (zu1 (zu1 (μ 39) 0 (0 : Int)) 24 (7 : Int)) (μ 48) k hk hk14) (by decide) lk_X9_173 cd_X9_note rfl rfl rfl rfl (Nat.le_of_ble_eq_true rfl) dX9_day_12 (fun ν h12 => ?_)
  obtain ⟨g, u, hν, hnt⟩ := h12
  subst hν
  have hgk : ∀ j, j ≠ 17 → g j = (zu1 (zu1 (μ 39) 0 (0 : Int)) 24 (7 : Int)) j := hnt.2.1
  have hm9 : zMP (zup (zup μ 39 g) 48 u) n nc kd al wt an := ⟨(hgk 4 (by decide)).trans hn, (hgk 7 (by decide)).trans hnc, hpl, hpa, hpk⟩
  refine z_mem (ν := zup (zup (zup (zup μ 39 g) 48 u) 46 (μ 46)) 53 (μ 53)) (zup_id2 _ 46 53 (by decide)) ?_
  refine z_aload_n K dX9_day_15 rfl ?_
  refine z_aload_n K dX9_day_16 rfl ?_
  refine z_get (k := 39) (v := .ref (ad 46)) K dX9_day_17 fl_X9_28 rfl rfl rfl ?_
  refine z_callVi K hl1 hg1 (kb := 39) (As := [.ref (ad 46)]) (rest := []) (cm_goDay_g la g0 ad (zup (zup μ 39 g) 48 u) n nc 7 kd al wt an (μ 46) c (μ 53) hm9 hw hg (hgk 24 (by decide)) (by decide)) (by decide) lk_X9_155 cd_X9_goDay rfl rfl rfl rfl (Nat.le_of_ble_eq_true rfl) dX9_day_20 (fun r ν2 h20 => ?_)
  obtain ⟨hr, hgo⟩ := h20
  exact z_ireti K T rfl dX9_day_23 ⟨hr, _, ⟨g, u, rfl, hnt⟩, hgo⟩
set_option maxHeartbeats 4000000 in
set_option maxRecDepth 100000 in
theorem cm_goFeed_g (la : Launch) (g0 : zG) (ad : Nat → Nat) (μ : zMem) (x : Int) (hx : 0 ≤ x ∧ x ≤ 99) (hg : 0 ≤ μ 46 21 ∧ μ 46 21 ≤ 99) : zCon la g0 yX9_goFeed cX9_goFeed 2 none 0 ad zSH [.ref (ad 46), .int (zi x)] μ (zPm (zup μ 46 (zu1 (μ 46) 21 (min 99 (μ 46 21 + x))))) := by
  refine zCon_of (by decide +kernel) (Nat.le_of_ble_eq_true rfl) ?_
  intro χ K T hl1 hg1
  have K : zOk χ cX9_goFeed RX9 2 0 none := K
  show zV χ 2 ad zSH 0 0 0 [(0, .ref (ad 46)), (1, .int (zi x))] [] μ
  refine z_aload_n K dX9_goFeed_0 rfl ?_
  refine z_bipush K dX9_goFeed_1 (by decide +kernel) ?_
  refine z_aload_n K dX9_goFeed_3 rfl ?_
  refine z_bipush K dX9_goFeed_4 (by decide +kernel) ?_
  refine z_iald (k := 46) (v := μ 46 21) K dX9_goFeed_6 21 rfl (by decide) (by omega) (by omega) rfl ?_
  refine z_iload_n K dX9_goFeed_7 rfl ?_
  refine z_iadd K dX9_goFeed_8 ?_
  refine z_bipush K dX9_goFeed_9 (by decide +kernel) ?_
  refine z_icmple (tgt := 19) K dX9_goFeed_11 (by decide) (by omega) ⟨by decide, by decide⟩ (fun h11 => ?_) (fun h11 => ?_)
  · refine z_aload_n K dX9_goFeed_19 rfl ?_
    refine z_bipush K dX9_goFeed_20 (by decide +kernel) ?_
    refine z_iald (k := 46) (v := μ 46 21) K dX9_goFeed_22 21 rfl (by decide) (by omega) (by omega) rfl ?_
    refine z_iload_n K dX9_goFeed_23 rfl ?_
    refine z_iadd K dX9_goFeed_24 ?_
    refine z_iast (k := 46) K dX9_goFeed_25 21 rfl (by decide) (by omega) (by omega) ?_
    exact z_vretd K T rfl dX9_goFeed_26 (by congr 2; omega)
  · refine z_bipush K dX9_goFeed_14 (by decide +kernel) ?_
    refine z_goto (tgt := 25) K dX9_goFeed_16 (by decide) ?_
    refine z_iast (k := 46) K dX9_goFeed_25 21 rfl (by decide) (by omega) (by omega) ?_
    exact z_vretd K T rfl dX9_goFeed_26 (by congr 2; omega)
set_option maxHeartbeats 4000000 in
set_option maxRecDepth 100000 in
theorem cm_goFeed_r (la : Launch) (g0 : zG) (ad : Nat → Nat) (μ : zMem) (x : Int) (hx : 0 ≤ x ∧ x ≤ 99) (hg : 0 ≤ μ 47 21 ∧ μ 47 21 ≤ 99) : zCon la g0 yX9_goFeed cX9_goFeed 2 none 0 ad zSH [.ref (ad 47), .int (zi x)] μ (zPm (zup μ 47 (zu1 (μ 47) 21 (min 99 (μ 47 21 + x))))) := by
  refine zCon_of (by decide +kernel) (Nat.le_of_ble_eq_true rfl) ?_
  intro χ K T hl1 hg1
  have K : zOk χ cX9_goFeed RX9 2 0 none := K
  show zV χ 2 ad zSH 0 0 0 [(0, .ref (ad 47)), (1, .int (zi x))] [] μ
  refine z_aload_n K dX9_goFeed_0 rfl ?_
  refine z_bipush K dX9_goFeed_1 (by decide +kernel) ?_
  refine z_aload_n K dX9_goFeed_3 rfl ?_
  refine z_bipush K dX9_goFeed_4 (by decide +kernel) ?_
  refine z_iald (k := 47) (v := μ 47 21) K dX9_goFeed_6 21 rfl (by decide) (by omega) (by omega) rfl ?_
  refine z_iload_n K dX9_goFeed_7 rfl ?_
  refine z_iadd K dX9_goFeed_8 ?_
  refine z_bipush K dX9_goFeed_9 (by decide +kernel) ?_
  refine z_icmple (tgt := 19) K dX9_goFeed_11 (by decide) (by omega) ⟨by decide, by decide⟩ (fun h11 => ?_) (fun h11 => ?_)
  · refine z_aload_n K dX9_goFeed_19 rfl ?_
    refine z_bipush K dX9_goFeed_20 (by decide +kernel) ?_
    refine z_iald (k := 47) (v := μ 47 21) K dX9_goFeed_22 21 rfl (by decide) (by omega) (by omega) rfl ?_
    refine z_iload_n K dX9_goFeed_23 rfl ?_
    refine z_iadd K dX9_goFeed_24 ?_
    refine z_iast (k := 47) K dX9_goFeed_25 21 rfl (by decide) (by omega) (by omega) ?_
    exact z_vretd K T rfl dX9_goFeed_26 (by congr 2; omega)
  · refine z_bipush K dX9_goFeed_14 (by decide +kernel) ?_
    refine z_goto (tgt := 25) K dX9_goFeed_16 (by decide) ?_
    refine z_iast (k := 47) K dX9_goFeed_25 21 rfl (by decide) (by omega) (by omega) ?_
    exact z_vretd K T rfl dX9_goFeed_26 (by congr 2; omega)
set_option maxHeartbeats 4000000 in
set_option maxRecDepth 100000 in
theorem cm_put (la : Launch) (g0 : zG) (ad : Nat → Nat) (μ : zMem) (n nc : Nat) (kd al wt an c : Nat → Int) (hm : zMP μ n nc kd al wt an) (hw : zHV n nc c) (hg : zAg n nc 7 (μ 46) c) (k : Nat) (hk : μ 39 17 = (k : Int)) (hk14 : k ≤ 14) (x y : Int) (hx : zR x) (hy : zR y) : zCon la g0 yX9_put cX9_put 4 (some .int) 4 ad zSH [.ref (ad 39), .int (zi x), .int (zi y)] μ (zPi (fun r ν => (¬ ((0 ≤ x ∧ x < (n : Int)) ∧ (0 ≤ y ∧ y < 12)) ∧ r = -1 ∧ ν = zup (zup μ 39 (zu1 (μ 39) 0 (0 : Int))) 48 (μ 48)) ∨ (((0 ≤ x ∧ x < (n : Int)) ∧ (0 ≤ y ∧ y < 12)) ∧ ¬ (c (12 + x.toNat) = 0 ∧ c x.toNat ≠ y ∧ zpop (zin c y n) < 2) ∧ r = -3 ∧ ν = zup (zup μ 39 (zu1 (μ 39) 0 (0 : Int))) 48 (μ 48)) ∨ (((0 ≤ x ∧ x < (n : Int)) ∧ (0 ≤ y ∧ y < 12)) ∧ (c (12 + x.toNat) = 0 ∧ c x.toNat ≠ y ∧ zpop (zin c y n) < 2) ∧ r = c x.toNat ∧ ∃ ν1, zNt μ (zu1 (μ 39) 0 (0 : Int)) (μ 48) k ν1 ∧ ν = zup ν1 46 (zu1 (μ 46) x.toNat y)))) := by
  refine zCon_of (by decide +kernel) (Nat.le_of_ble_eq_true rfl) ?_
  intro χ K T hl1 hg1
  have K : zOk χ cX9_put RX9 4 4 (some .int) := K
  obtain ⟨hn, hnc, hpl, hpa, hpk⟩ := id hm
  have hn6 := hpk.1
  have hnc3 := hpk.2.1
  refine z_mem (ν := zup (zup μ 39 (μ 39)) 48 (μ 48)) (zup_id2 μ 39 48 (by decide)) ?_
  show zV χ 4 ad zSH 0 0 0 [(0, .ref (ad 39)), (1, .int (zi x)), (2, .int (zi y))] [] (zup (zup μ 39 (μ 39)) 48 (μ 48))
  refine z_aload_n K dX9_put_0 rfl ?_
  refine z_iconst K dX9_put_1 ?_
  refine z_puti (k := 39) K dX9_put_2 fp_X9_59 rfl rfl (z_mem (ν := zup (zup μ 39 (zu1 (μ 39) 0 (0 : Int))) 48 (μ 48)) (zup_sw _ (by decide) _ _ _) ?_)
  refine z_aload_n K dX9_put_5 rfl ?_
  refine z_iload_n K dX9_put_6 rfl ?_
  refine z_callVd K hl1 hg1 (kb := 39) (As := [.int (zi x)]) (rest := []) (cm_noLetter la g0 ad (zup (zup μ 39 (zu1 (μ 39) 0 (0 : Int))) 48 (μ 48)) n hn (by omega) x (by omega)) (by decide) lk_X9_164 cd_X9_noLetter rfl rfl rfl rfl (Nat.le_of_ble_eq_true rfl) dX9_put_7 ?_
  show zV χ 4 ad zSH 0 0 10 [(0, .ref (ad 39)), (1, .int (zi x)), (2, .int (zi y))] [.int (zi (if 0 ≤ x ∧ x < (n : Int) then 0 else 1))] (zup (zup μ 39 (zu1 (μ 39) 0 (0 : Int))) 48 (μ 48))
  refine z_ifne (tgt := 25) K dX9_put_10 (by decide) (by omega) (fun h10 => ?_) (fun h10 => ?_)
  · refine z_iconst K dX9_put_25 ?_
    exact z_ireti K T rfl dX9_put_26 (Or.inl ⟨by omega, rfl, rfl⟩)
  · refine z_iload_n K dX9_put_13 rfl ?_
    refine z_i2l K dX9_put_14 (by omega) ?_
    refine z_lconst (z := 0) K dX9_put_15 rfl ?_
    refine z_ldc2 (z := 11) K dX9_put_16 kc_X9_171 rfl ?_
    refine z_callSd K hl1 hg1 (As := [.long (zl y), .long (zl (0 : Int)), .long (zl (11 : Int))]) (rest := []) (cm_in la g0 ad (zup (zup μ 39 (zu1 (μ 39) 0 (0 : Int))) 48 (μ 48)) y (0 : Int) (11 : Int) ⟨by omega, by omega⟩ ⟨by decide, by decide⟩ ⟨by decide, by decide⟩) (by decide) lk_X9_66 cd_X9_in rfl rfl (Nat.le_of_ble_eq_true rfl) dX9_put_19 ?_
    show zV χ 4 ad zSH 0 0 22 [(0, .ref (ad 39)), (1, .int (zi x)), (2, .int (zi y))] [.int (zi (if (0 : Int) ≤ y ∧ y ≤ (11 : Int) then 1 else 0))] (zup (zup μ 39 (zu1 (μ 39) 0 (0 : Int))) 48 (μ 48))
    refine z_ifne (tgt := 27) K dX9_put_22 (by decide) (by omega) (fun h22 => ?_) (fun h22 => ?_)
    · obtain ⟨l, rfl⟩ : ∃ l : Nat, x = (l : Int) := ⟨x.toNat, by omega⟩
      have ag := hg.1 l (by omega)
      have hvl := hw.1.1 l (by omega)
      have hpl1 := hpl l (by omega)
      refine z_aload_n K dX9_put_27 rfl ?_
      refine z_aload_n K dX9_put_28 rfl ?_
      refine z_get (k := 39) (v := .ref (ad 46)) K dX9_put_29 fl_X9_28 rfl rfl rfl ?_
      refine z_iload_n K dX9_put_32 rfl ?_
      refine z_iload_n K dX9_put_33 rfl ?_
      refine z_callVd K hl1 hg1 (kb := 39) (As := [.ref (ad 46), .int (zi ((l : Nat) : Int)), .int (zi y)]) (rest := []) (cm_canPut_g la g0 ad (zup (zup μ 39 (zu1 (μ 39) 0 (0 : Int))) 48 (μ 48)) n nc 7 kd al wt an c hm hw.1 hg l (by omega) y hy) (by decide) lk_X9_176 cd_X9_canPut rfl rfl rfl rfl (Nat.le_of_ble_eq_true rfl) dX9_put_34 ?_
      show zV χ 4 ad zSH 0 0 37 [(0, .ref (ad 39)), (1, .int (zi ((l : Nat) : Int))), (2, .int (zi y))] [.int (zi (if c (12 + l) = 0 ∧ c l ≠ y ∧ zpop (zin c y n) < 2 then 1 else 0))] (zup (zup μ 39 (zu1 (μ 39) 0 (0 : Int))) 48 (μ 48))
      refine z_ifne (tgt := 43) K dX9_put_37 (by decide) (by omega) (fun h37 => ?_) (fun h37 => ?_)
      · refine z_aload_n K dX9_put_43 rfl ?_
        refine z_callVv K hl1 hg1 (kb := 39) (As := []) (rest := []) (cm_note la g0 ad μ (zu1 (μ 39) 0 (0 : Int)) (μ 48) k hk hk14) (by decide) lk_X9_173 cd_X9_note rfl rfl rfl rfl (Nat.le_of_ble_eq_true rfl) dX9_put_44 (fun ν h44 => ?_)
        obtain ⟨g, u, hν, hnt⟩ := h44
        subst hν
        refine z_aload_n K dX9_put_47 rfl ?_
        refine z_get (k := 39) (v := .ref (ad 46)) K dX9_put_48 fl_X9_28 rfl rfl rfl ?_
        refine z_iload_n K dX9_put_51 rfl ?_
        refine z_iald (k := 46) (v := c l) K dX9_put_52 l rfl (by decide) (by omega) (by omega) ag.1 ?_
        refine z_istore_n (lv' := [(0, .ref (ad 39)), (1, .int (zi ((l : Nat) : Int))), (2, .int (zi y)), (3, .int (zi (c l)))]) K dX9_put_53 (by decide) rfl ?_
        refine z_aload_n K dX9_put_54 rfl ?_
        refine z_get (k := 39) (v := .ref (ad 46)) K dX9_put_55 fl_X9_28 rfl rfl rfl ?_
        refine z_iload_n K dX9_put_58 rfl ?_
        refine z_iload_n K dX9_put_59 rfl ?_
        refine z_iast (k := 46) K dX9_put_60 l rfl (by decide) (by omega) (by omega) (z_mem (ν := zup (zup (zup μ 39 g) 48 u) 46 (zu1 (μ 46) l y)) rfl ?_)
        refine z_iload_n K dX9_put_61 rfl ?_
        exact z_ireti K T rfl dX9_put_62 (Or.inr (Or.inr ⟨⟨⟨by omega, by omega⟩, by omega, by omega⟩, by simp only [Int.toNat_natCast]; omega, by rw [Int.toNat_natCast], _, ⟨g, u, rfl, hnt⟩, by rw [Int.toNat_natCast]⟩))
      · refine z_bipush K dX9_put_40 (by decide +kernel) ?_
        exact z_ireti K T rfl dX9_put_42 (Or.inr (Or.inl ⟨⟨⟨by omega, by omega⟩, by omega, by omega⟩, by simp only [Int.toNat_natCast]; omega, rfl, rfl⟩))
    · refine z_iconst K dX9_put_25 ?_
      exact z_ireti K T rfl dX9_put_26 (Or.inl ⟨by omega, rfl, rfl⟩)
set_option maxHeartbeats 4000000 in
set_option maxRecDepth 100000 in
theorem cm_send (la : Launch) (g0 : zG) (ad : Nat → Nat) (μ : zMem) (n nc : Nat) (kd al wt an c : Nat → Int) (hm : zMP μ n nc kd al wt an) (hw : zHV n nc c) (hg : zAg n nc 7 (μ 46) c) (k : Nat) (hk : μ 39 17 = (k : Int)) (hk14 : k ≤ 14) (x y : Int) (hx : zR x) (hy : zR y) : zCon la g0 yX9_send cX9_send 4 (some .int) 4 ad zSH [.ref (ad 39), .int (zi x), .int (zi y)] μ (zPi (fun r ν => (¬ ((0 ≤ x ∧ x < (nc : Int)) ∧ (0 ≤ y ∧ y < 3)) ∧ r = -1 ∧ ν = zup (zup μ 39 (zu1 (μ 39) 0 (0 : Int))) 48 (μ 48)) ∨ (((0 ≤ x ∧ x < (nc : Int)) ∧ (0 ≤ y ∧ y < 3)) ∧ c (18 + x.toNat) = y ∧ r = -3 ∧ ν = zup (zup μ 39 (zu1 (μ 39) 0 (0 : Int))) 48 (μ 48)) ∨ (((0 ≤ x ∧ x < (nc : Int)) ∧ (0 ≤ y ∧ y < 3)) ∧ c (18 + x.toNat) ≠ y ∧ r = c (18 + x.toNat) ∧ ∃ ν1, zNt μ (zu1 (μ 39) 0 (0 : Int)) (μ 48) k ν1 ∧ ν = zup ν1 46 (zu1 (μ 46) (18 + x.toNat) y)))) := by
  refine zCon_of (by decide +kernel) (Nat.le_of_ble_eq_true rfl) ?_
  intro χ K T hl1 hg1
  have K : zOk χ cX9_send RX9 4 4 (some .int) := K
  obtain ⟨hn, hnc, hpl, hpa, hpk⟩ := id hm
  have hn6 := hpk.1
  have hnc3 := hpk.2.1
  refine z_mem (ν := zup (zup μ 39 (μ 39)) 48 (μ 48)) (zup_id2 μ 39 48 (by decide)) ?_
  show zV χ 4 ad zSH 0 0 0 [(0, .ref (ad 39)), (1, .int (zi x)), (2, .int (zi y))] [] (zup (zup μ 39 (μ 39)) 48 (μ 48))
  refine z_aload_n K dX9_send_0 rfl ?_
  refine z_iconst K dX9_send_1 ?_
  refine z_puti (k := 39) K dX9_send_2 fp_X9_59 rfl rfl (z_mem (ν := zup (zup μ 39 (zu1 (μ 39) 0 (0 : Int))) 48 (μ 48)) (zup_sw _ (by decide) _ _ _) ?_)
  refine z_aload_n K dX9_send_5 rfl ?_
  refine z_iload_n K dX9_send_6 rfl ?_
  refine z_callVd K hl1 hg1 (kb := 39) (As := [.int (zi x)]) (rest := []) (cm_noClerk la g0 ad (zup (zup μ 39 (zu1 (μ 39) 0 (0 : Int))) 48 (μ 48)) nc hnc (by omega) x (by omega)) (by decide) lk_X9_168 cd_X9_noClerk rfl rfl rfl rfl (Nat.le_of_ble_eq_true rfl) dX9_send_7 ?_
  show zV χ 4 ad zSH 0 0 10 [(0, .ref (ad 39)), (1, .int (zi x)), (2, .int (zi y))] [.int (zi (if 0 ≤ x ∧ x < (nc : Int) then 0 else 1))] (zup (zup μ 39 (zu1 (μ 39) 0 (0 : Int))) 48 (μ 48))
  refine z_ifne (tgt := 25) K dX9_send_10 (by decide) (by omega) (fun h10 => ?_) (fun h10 => ?_)
  · refine z_iconst K dX9_send_25 ?_
    exact z_ireti K T rfl dX9_send_26 (Or.inl ⟨by omega, rfl, rfl⟩)
  · refine z_iload_n K dX9_send_13 rfl ?_
    refine z_i2l K dX9_send_14 (by omega) ?_
    refine z_lconst (z := 0) K dX9_send_15 rfl ?_
    refine z_ldc2 (z := 2) K dX9_send_16 kc_X9_185 rfl ?_
    refine z_callSd K hl1 hg1 (As := [.long (zl y), .long (zl (0 : Int)), .long (zl (2 : Int))]) (rest := []) (cm_in la g0 ad (zup (zup μ 39 (zu1 (μ 39) 0 (0 : Int))) 48 (μ 48)) y (0 : Int) (2 : Int) ⟨by omega, by omega⟩ ⟨by decide, by decide⟩ ⟨by decide, by decide⟩) (by decide) lk_X9_66 cd_X9_in rfl rfl (Nat.le_of_ble_eq_true rfl) dX9_send_19 ?_
    show zV χ 4 ad zSH 0 0 22 [(0, .ref (ad 39)), (1, .int (zi x)), (2, .int (zi y))] [.int (zi (if (0 : Int) ≤ y ∧ y ≤ (2 : Int) then 1 else 0))] (zup (zup μ 39 (zu1 (μ 39) 0 (0 : Int))) 48 (μ 48))
    refine z_ifne (tgt := 27) K dX9_send_22 (by decide) (by omega) (fun h22 => ?_) (fun h22 => ?_)
    · obtain ⟨l, rfl⟩ : ∃ l : Nat, x = (l : Int) := ⟨x.toNat, by omega⟩
      have hro := (hg.2.1 l (by omega)).1 (zb7 l (by omega))
      have hvr := hw.1.2.1 l (by omega)
      refine z_aload_n K dX9_send_27 rfl ?_
      refine z_get (k := 39) (v := .ref (ad 46)) K dX9_send_28 fl_X9_28 rfl rfl rfl ?_
      refine z_bipush K dX9_send_31 (by decide +kernel) ?_
      refine z_iload_n K dX9_send_33 rfl ?_
      refine z_iadd K dX9_send_34 ?_
      refine z_iald (k := 46) (v := c (18 + l)) K dX9_send_35 (18 + l) rfl (by decide) (by omega) (by omega) hro ?_
      refine z_istore_n (lv' := [(0, .ref (ad 39)), (1, .int (zi ((l : Nat) : Int))), (2, .int (zi y)), (3, .int (zi (c (18 + l))))]) K dX9_send_36 (by decide) rfl ?_
      refine z_iload_n K dX9_send_37 rfl ?_
      refine z_iload_n K dX9_send_38 rfl ?_
      refine z_icmpne (tgt := 45) K dX9_send_39 (by decide) (by omega) (by omega) (fun h39 => ?_) (fun h39 => ?_)
      · refine z_aload_n K dX9_send_45 rfl ?_
        refine z_callVv K hl1 hg1 (kb := 39) (As := []) (rest := []) (cm_note la g0 ad μ (zu1 (μ 39) 0 (0 : Int)) (μ 48) k hk hk14) (by decide) lk_X9_173 cd_X9_note rfl rfl rfl rfl (Nat.le_of_ble_eq_true rfl) dX9_send_46 (fun ν h46 => ?_)
        obtain ⟨g, u, hν, hnt⟩ := h46
        subst hν
        refine z_aload_n K dX9_send_49 rfl ?_
        refine z_get (k := 39) (v := .ref (ad 46)) K dX9_send_50 fl_X9_28 rfl rfl rfl ?_
        refine z_bipush K dX9_send_53 (by decide +kernel) ?_
        refine z_iload_n K dX9_send_55 rfl ?_
        refine z_iadd K dX9_send_56 ?_
        refine z_iload_n K dX9_send_57 rfl ?_
        refine z_iast (k := 46) K dX9_send_58 (18 + l) rfl (by decide) (by omega) (by omega) (z_mem (ν := zup (zup (zup μ 39 g) 48 u) 46 (zu1 (μ 46) (18 + l) y)) rfl ?_)
        refine z_iload_n K dX9_send_59 rfl ?_
        exact z_ireti K T rfl dX9_send_60 (Or.inr (Or.inr ⟨⟨⟨by omega, by omega⟩, by omega, by omega⟩, by rw [Int.toNat_natCast]; omega, by rw [Int.toNat_natCast], _, ⟨g, u, rfl, hnt⟩, by rw [Int.toNat_natCast]⟩))
      · refine z_bipush K dX9_send_42 (by decide +kernel) ?_
        exact z_ireti K T rfl dX9_send_44 (Or.inr (Or.inl ⟨⟨⟨by omega, by omega⟩, by omega, by omega⟩, by rw [Int.toNat_natCast]; omega, rfl, rfl⟩))
    · refine z_iconst K dX9_send_25 ?_
      exact z_ireti K T rfl dX9_send_26 (Or.inl ⟨by omega, rfl, rfl⟩)
set_option maxHeartbeats 4000000 in
set_option maxRecDepth 100000 in
theorem cm_feed (la : Launch) (g0 : zG) (ad : Nat → Nat) (μ : zMem) (n nc : Nat) (kd al wt an c : Nat → Int) (hm : zMP μ n nc kd al wt an) (hw : zHV n nc c) (hg : zAg n nc 7 (μ 46) c) (k : Nat) (hk : μ 39 17 = (k : Int)) (hk14 : k ≤ 14) (x : Int) (hx : zR x) : zCon la g0 yX9_feed cX9_feed 2 (some .int) 4 ad zSH [.ref (ad 39), .int (zi x)] μ (zPi (fun r ν => (¬ (1 ≤ x ∧ x ≤ 9) ∧ r = -2 ∧ ν = zup (zup μ 39 (zu1 (μ 39) 0 (0 : Int))) 48 (μ 48)) ∨ ((1 ≤ x ∧ x ≤ 9) ∧ r = min 99 (c 21 + x) ∧ ∃ ν1, zNt μ (zu1 (μ 39) 0 (0 : Int)) (μ 48) k ν1 ∧ ν = zup ν1 46 (zu1 (μ 46) 21 (min 99 (c 21 + x)))))) := by
  refine zCon_of (by decide +kernel) (Nat.le_of_ble_eq_true rfl) ?_
  intro χ K T hl1 hg1
  have K : zOk χ cX9_feed RX9 2 4 (some .int) := K
  obtain ⟨hn, hnc, hpl, hpa, hpk⟩ := id hm
  have hn6 := hpk.1
  have hnc3 := hpk.2.1
  refine z_mem (ν := zup (zup μ 39 (μ 39)) 48 (μ 48)) (zup_id2 μ 39 48 (by decide)) ?_
  have hgr := hg.2.2.1
  have hg21 := hw.1.2.2
  show zV χ 2 ad zSH 0 0 0 [(0, .ref (ad 39)), (1, .int (zi x))] [] (zup (zup μ 39 (μ 39)) 48 (μ 48))
  refine z_aload_n K dX9_feed_0 rfl ?_
  refine z_iconst K dX9_feed_1 ?_
  refine z_puti (k := 39) K dX9_feed_2 fp_X9_59 rfl rfl (z_mem (ν := zup (zup μ 39 (zu1 (μ 39) 0 (0 : Int))) 48 (μ 48)) (zup_sw _ (by decide) _ _ _) ?_)
  refine z_iload_n K dX9_feed_5 rfl ?_
  refine z_i2l K dX9_feed_6 (by omega) ?_
  refine z_lconst (z := 1) K dX9_feed_7 rfl ?_
  refine z_ldc2 (z := 9) K dX9_feed_8 kc_X9_180 rfl ?_
  refine z_callSd K hl1 hg1 (As := [.long (zl x), .long (zl (1 : Int)), .long (zl (9 : Int))]) (rest := []) (cm_in la g0 ad (zup (zup μ 39 (zu1 (μ 39) 0 (0 : Int))) 48 (μ 48)) x (1 : Int) (9 : Int) ⟨by omega, by omega⟩ ⟨by decide, by decide⟩ ⟨by decide, by decide⟩) (by decide) lk_X9_66 cd_X9_in rfl rfl (Nat.le_of_ble_eq_true rfl) dX9_feed_11 ?_
  show zV χ 2 ad zSH 0 0 14 [(0, .ref (ad 39)), (1, .int (zi x))] [.int (zi (if (1 : Int) ≤ x ∧ x ≤ (9 : Int) then 1 else 0))] (zup (zup μ 39 (zu1 (μ 39) 0 (0 : Int))) 48 (μ 48))
  refine z_ifne (tgt := 20) K dX9_feed_14 (by decide) (by omega) (fun h14 => ?_) (fun h14 => ?_)
  · refine z_aload_n K dX9_feed_20 rfl ?_
    refine z_callVv K hl1 hg1 (kb := 39) (As := []) (rest := []) (cm_note la g0 ad μ (zu1 (μ 39) 0 (0 : Int)) (μ 48) k hk hk14) (by decide) lk_X9_173 cd_X9_note rfl rfl rfl rfl (Nat.le_of_ble_eq_true rfl) dX9_feed_21 (fun ν h21 => ?_)
    obtain ⟨g, u, hν, hnt⟩ := h21
    subst hν
    refine z_aload_n K dX9_feed_24 rfl ?_
    refine z_get (k := 39) (v := .ref (ad 46)) K dX9_feed_25 fl_X9_28 rfl rfl rfl ?_
    refine z_iload_n K dX9_feed_28 rfl ?_
    refine z_callSm K hl1 hg1 (As := [.ref (ad 46), .int (zi x)]) (rest := []) (cm_goFeed_g la g0 ad (zup (zup μ 39 g) 48 u) x (by omega) (by show 0 ≤ μ 46 21 ∧ μ 46 21 ≤ 99; rw [hgr]; omega)) (by decide) lk_X9_182 cd_X9_goFeed rfl rfl (Nat.le_of_ble_eq_true rfl) dX9_feed_29 ?_
    refine z_aload_n K dX9_feed_32 rfl ?_
    refine z_get (k := 39) (v := .ref (ad 46)) K dX9_feed_33 fl_X9_28 rfl rfl rfl ?_
    refine z_bipush K dX9_feed_36 (by decide +kernel) ?_
    refine z_iald (k := 46) (v := min 99 (c 21 + x)) K dX9_feed_38 21 rfl (by decide) (by omega) (by omega) (by show zu1 (μ 46) 21 (min 99 (μ 46 21 + x)) 21 = _; rw [zu1_eq, hgr]) ?_
    exact z_ireti K T rfl dX9_feed_39 (Or.inr ⟨by omega, rfl, _, ⟨g, u, rfl, hnt⟩, by rw [← hgr]; rfl⟩)
  · refine z_bipush K dX9_feed_17 (by decide +kernel) ?_
    exact z_ireti K T rfl dX9_feed_19 (Or.inl ⟨by omega, rfl, rfl⟩)
set_option maxHeartbeats 4000000 in
set_option maxRecDepth 100000 in
theorem cm_undo (la : Launch) (g0 : zG) (ad : Nat → Nat) (μ : zMem)  (k : Nat) (hk : μ 39 17 = (k : Int)) (hk14 : k ≤ 14) : zCon la g0 yX9_undo cX9_undo 2 (some .int) 0 ad zSH [.ref (ad 39)] μ (zPi (fun r ν => (k = 0 ∧ r = -3 ∧ ν = zup (zup μ 39 (zu1 (μ 39) 0 (0 : Int))) 46 (μ 46)) ∨ (0 < k ∧ r = (k : Int) - 1 ∧ ∃ p, ν = zup (zup μ 39 (zu1 (zu1 (μ 39) 0 (0 : Int)) 17 ((k : Int) - 1))) 46 p ∧ ∀ j, j < 23 → p j = μ 48 (23 * (k - 1) + j)))) := by
  refine zCon_of (by decide +kernel) (Nat.le_of_ble_eq_true rfl) ?_
  intro χ K T hl1 hg1
  have K : zOk χ cX9_undo RX9 2 0 (some .int) := K
  refine z_mem (ν := zup (zup μ 39 (μ 39)) 46 (μ 46)) (zup_id2 μ 39 46 (by decide)) ?_
  show zV χ 2 ad zSH 0 0 0 [(0, .ref (ad 39))] [] (zup (zup μ 39 (μ 39)) 46 (μ 46))
  refine z_aload_n K dX9_undo_0 rfl ?_
  refine z_iconst K dX9_undo_1 ?_
  refine z_puti (k := 39) K dX9_undo_2 fp_X9_59 rfl rfl (z_mem (ν := zup (zup μ 39 (zu1 (μ 39) 0 (0 : Int))) 46 (μ 46)) (zup_sw _ (by decide) _ _ _) ?_)
  refine z_aload_n K dX9_undo_5 rfl ?_
  refine z_get (k := 39) (v := .int (zi ((zu1 (μ 39) 0 (0 : Int)) 17))) K dX9_undo_6 fl_X9_112 rfl rfl rfl ?_
  rw [show ((zu1 (μ 39) 0 (0 : Int)) 17) = ((k : Nat) : Int) from hk]
  refine z_ifne (tgt := 15) K dX9_undo_9 (by decide) (by omega) (fun h9 => ?_) (fun h9 => ?_)
  · refine z_aload_n K dX9_undo_15 rfl ?_
    refine z_dup K dX9_undo_16 rfl ?_
    refine z_get (k := 39) (v := .int (zi ((zu1 (μ 39) 0 (0 : Int)) 17))) K dX9_undo_17 fl_X9_112 rfl rfl rfl ?_
    rw [show ((zu1 (μ 39) 0 (0 : Int)) 17) = ((k : Nat) : Int) from hk]
    refine z_iconst K dX9_undo_20 ?_
    refine z_isub K dX9_undo_21 ?_
    rw [show (((k : Nat) : Int) - (1 : Int)) = ((k : Nat) : Int) - 1 from rfl]
    refine z_puti (k := 39) K dX9_undo_22 fp_X9_112 rfl rfl (z_mem (ν := zup (zup μ 39 (zu1 (zu1 (μ 39) 0 (0 : Int)) 17 (((k : Nat) : Int) - 1))) 46 (μ 46)) (zup_sw _ (by decide) _ _ _) ?_)
    refine z_iconst K dX9_undo_25 ?_
    refine z_istore_n (lv' := [(0, .ref (ad 39)), (1, .int (zi (0 : Int)))]) K dX9_undo_26 (by decide) rfl ?_
    have L27 : ∀ i, i ≤ 23 → ∀ (p : Nat → Int), (∀ j, j < i → p j = μ 48 (23 * (k - 1) + j)) → zV χ 2 ad zSH 0 0 27 [(0, .ref (ad 39)), (1, .int (zi ((i : Nat) : Int)))] [] (zup (zup μ 39 (zu1 (zu1 (μ 39) 0 (0 : Int)) 17 ((k : Int) - 1))) 46 p) := by
      refine zfor ?_
      intro i hi ih p hp
      refine z_iload_n K dX9_undo_27 rfl ?_
      refine z_bipush K dX9_undo_28 (by decide +kernel) ?_
      refine z_icmpge (tgt := 59) K dX9_undo_30 (by decide) (by omega) ⟨by decide, by decide⟩ (fun h30 => ?_) (fun h30 => ?_)
      · refine z_aload_n K dX9_undo_59 rfl ?_
        refine z_get (k := 39) (v := .int (zi ((zu1 (zu1 (μ 39) 0 (0 : Int)) 17 ((k : Int) - 1)) 17))) K dX9_undo_60 fl_X9_112 rfl rfl rfl ?_
        rw [show ((zu1 (zu1 (μ 39) 0 (0 : Int)) 17 ((k : Int) - 1)) 17) = ((k : Nat) : Int) - 1 from rfl]
        exact z_ireti K T rfl dX9_undo_63 (Or.inr ⟨by omega, rfl, p, rfl, fun j hj => hp j (by omega)⟩)
      · refine z_aload_n K dX9_undo_33 rfl ?_
        refine z_get (k := 39) (v := .ref (ad 46)) K dX9_undo_34 fl_X9_28 rfl rfl rfl ?_
        refine z_iload_n K dX9_undo_37 rfl ?_
        refine z_aload_n K dX9_undo_38 rfl ?_
        refine z_get (k := 39) (v := .ref (ad 48)) K dX9_undo_39 fl_X9_34 rfl rfl rfl ?_
        refine z_bipush K dX9_undo_42 (by decide +kernel) ?_
        refine z_aload_n K dX9_undo_44 rfl ?_
        refine z_get (k := 39) (v := .int (zi ((zu1 (zu1 (μ 39) 0 (0 : Int)) 17 ((k : Int) - 1)) 17))) K dX9_undo_45 fl_X9_112 rfl rfl rfl ?_
        rw [show ((zu1 (zu1 (μ 39) 0 (0 : Int)) 17 ((k : Int) - 1)) 17) = ((k : Nat) : Int) - 1 from rfl]
        refine z_imul K dX9_undo_48 ?_
        refine z_iload_n K dX9_undo_49 rfl ?_
        refine z_iadd K dX9_undo_50 ?_
        refine z_iald (k := 48) (v := μ 48 (23 * (k - 1) + i)) K dX9_undo_51 (23 * (k - 1) + i) rfl (by decide) (by omega) (by omega) rfl ?_
        refine z_iast (k := 46) K dX9_undo_52 i rfl (by decide) (by omega) (by omega) (z_mem (ν := zup (zup μ 39 (zu1 (zu1 (μ 39) 0 (0 : Int)) 17 ((k : Int) - 1))) 46 (zu1 p i (μ 48 (23 * (k - 1) + i)))) (zup_same _ _ _ _) ?_)
        refine z_iincN (lv' := [(0, .ref (ad 39)), (1, .int (zi ((i + 1 : Nat) : Int)))]) K dX9_undo_53 rfl (by decide) rfl ?_
        refine z_goto (tgt := 27) K dX9_undo_56 (by decide) ?_
        exact ih (i + 1) (by omega) (by omega) _ (fun j hj => by
          by_cases e : j = i
          · rw [e]; exact zu1_eq _ _ _
          · rw [zu1_ne _ _ e]; exact hp j (by omega))
    exact L27 0 (by omega) (μ 46) (fun j hj => absurd hj (by omega))
  · refine z_bipush K dX9_undo_12 (by decide +kernel) ?_
    exact z_ireti K T rfl dX9_undo_14 (Or.inl ⟨by omega, rfl, rfl⟩)
