set_option maxHeartbeats 4000000 in
set_option maxRecDepth 100000 in
theorem cm_canPut_g (la : Launch) (g0 : zG) (ad : Nat → Nat) (μ : zMem) (n nc S : Nat) (kd al wt an c : Nat → Int) (hm : zMP μ n nc kd al wt an) (hw : zHW n nc c) (hg : zAg n nc S (μ 46) c) (l : Nat) (hl : l < n) (h : Int) (hh : zR h) : zCon la g0 yX9_canPut cX9_canPut 4 (some .boolean) 2 ad zSH [.ref (ad 39), .ref (ad 46), .int (zi ((l : Nat) : Int)), .int (zi h)] μ (zPd μ (if c (12 + l) = 0 ∧ c l ≠ (h : Int) ∧ zpop (zin c (h : Int) n) < 2 then 1 else 0)) := by
  refine zCon_of (by decide +kernel) (Nat.le_of_ble_eq_true rfl) ?_
  intro χ K T hl1 hg1
  have K : zOk χ cX9_canPut RX9 4 2 (some .boolean) := K
  obtain ⟨hn, hnc, hpl, hpa, hpk⟩ := id hm
  have hn6 := hpk.1
  have hnc3 := hpk.2.1
  have ag := hg.1 l hl
  have hvl := hw.1 l hl
  have hzl : zin c h n < 64 := Nat.lt_of_lt_of_le (zin_lt c h n) (Nat.pow_le_pow_right (by decide) hn6)
  have hpo := zpop_le (zin c h n)
  show zV χ 4 ad zSH 0 0 0 [(0, .ref (ad 39)), (1, .ref (ad 46)), (2, .int (zi ((l : Nat) : Int))), (3, .int (zi h))] [] μ
  refine z_aload_n K dX9_canPut_0 rfl ?_
  refine z_bipush K dX9_canPut_1 (by decide +kernel) ?_
  refine z_iload_n K dX9_canPut_3 rfl ?_
  refine z_iadd K dX9_canPut_4 ?_
  refine z_iald (k := 46) (v := c (12 + l)) K dX9_canPut_5 (6 + l) rfl (by decide) (by omega) (by omega) ag.2.1 ?_
  refine z_ifne (tgt := 33) K dX9_canPut_6 (by decide) (by omega) (fun h6 => ?_) (fun h6 => ?_)
  · refine z_iconst K dX9_canPut_33 ?_
    exact z_zretd K T rfl dX9_canPut_34 (Or.inl rfl) (by rw [if_neg (by omega)]) rfl
  · refine z_aload_n K dX9_canPut_9 rfl ?_
    refine z_iload_n K dX9_canPut_10 rfl ?_
    refine z_iald (k := 46) (v := c l) K dX9_canPut_11 l rfl (by decide) (by omega) (by omega) ag.1 ?_
    refine z_iload_n K dX9_canPut_12 rfl ?_
    refine z_icmpeq (tgt := 33) K dX9_canPut_13 (by decide) (by omega) (by omega) (fun h13 => ?_) (fun h13 => ?_)
    · refine z_iconst K dX9_canPut_33 ?_
      exact z_zretd K T rfl dX9_canPut_34 (Or.inl rfl) (by rw [if_neg (by omega)]) rfl
    · refine z_aload_n K dX9_canPut_16 rfl ?_
      refine z_aload_n K dX9_canPut_17 rfl ?_
      refine z_iload_n K dX9_canPut_18 rfl ?_
      refine z_callVd K hl1 hg1 (kb := 39) (As := [.ref (ad 46), .int (zi h)]) (rest := []) (cm_inHole_g la g0 ad μ n nc S kd al wt an c hm hw hg h hh) (by decide) lk_X9_125 cd_X9_inHole rfl rfl rfl rfl (Nat.le_of_ble_eq_true rfl) dX9_canPut_19 ?_
      refine z_callSd K hl1 hg1 (As := [.int (zi ((zin c h n : Nat) : Int))]) (rest := []) (cm_many la g0 ad μ (zin c h n) hzl) (by decide) lk_X9_128 cd_X9_many rfl rfl (Nat.le_of_ble_eq_true rfl) dX9_canPut_22 ?_
      refine z_iconst K dX9_canPut_25 ?_
      refine z_icmpge (tgt := 33) K dX9_canPut_26 (by decide) (by omega) ⟨by decide, by decide⟩ (fun h26 => ?_) (fun h26 => ?_)
      · refine z_iconst K dX9_canPut_33 ?_
        exact z_zretd K T rfl dX9_canPut_34 (Or.inl rfl) (by rw [if_neg (by omega)]) rfl
      · refine z_iconst K dX9_canPut_29 ?_
        refine z_goto (tgt := 34) K dX9_canPut_30 (by decide) ?_
        exact z_zretd K T rfl dX9_canPut_34 (Or.inr rfl) (by rw [if_pos ⟨by omega, by omega, by omega⟩]) rfl
set_option maxHeartbeats 4000000 in
set_option maxRecDepth 100000 in
theorem cm_canPut_r (la : Launch) (g0 : zG) (ad : Nat → Nat) (μ : zMem) (n nc S : Nat) (kd al wt an c : Nat → Int) (hm : zMP μ n nc kd al wt an) (hw : zHW n nc c) (hg : zAg n nc S (μ 47) c) (l : Nat) (hl : l < n) (h : Int) (hh : zR h) : zCon la g0 yX9_canPut cX9_canPut 4 (some .boolean) 2 ad zSH [.ref (ad 39), .ref (ad 47), .int (zi ((l : Nat) : Int)), .int (zi h)] μ (zPd μ (if c (12 + l) = 0 ∧ c l ≠ (h : Int) ∧ zpop (zin c (h : Int) n) < 2 then 1 else 0)) := by
  refine zCon_of (by decide +kernel) (Nat.le_of_ble_eq_true rfl) ?_
  intro χ K T hl1 hg1
  have K : zOk χ cX9_canPut RX9 4 2 (some .boolean) := K
  obtain ⟨hn, hnc, hpl, hpa, hpk⟩ := id hm
  have hn6 := hpk.1
  have hnc3 := hpk.2.1
  have ag := hg.1 l hl
  have hvl := hw.1 l hl
  have hzl : zin c h n < 64 := Nat.lt_of_lt_of_le (zin_lt c h n) (Nat.pow_le_pow_right (by decide) hn6)
  have hpo := zpop_le (zin c h n)
  show zV χ 4 ad zSH 0 0 0 [(0, .ref (ad 39)), (1, .ref (ad 47)), (2, .int (zi ((l : Nat) : Int))), (3, .int (zi h))] [] μ
  refine z_aload_n K dX9_canPut_0 rfl ?_
  refine z_bipush K dX9_canPut_1 (by decide +kernel) ?_
  refine z_iload_n K dX9_canPut_3 rfl ?_
  refine z_iadd K dX9_canPut_4 ?_
  refine z_iald (k := 47) (v := c (12 + l)) K dX9_canPut_5 (6 + l) rfl (by decide) (by omega) (by omega) ag.2.1 ?_
  refine z_ifne (tgt := 33) K dX9_canPut_6 (by decide) (by omega) (fun h6 => ?_) (fun h6 => ?_)
  · refine z_iconst K dX9_canPut_33 ?_
    exact z_zretd K T rfl dX9_canPut_34 (Or.inl rfl) (by rw [if_neg (by omega)]) rfl
  · refine z_aload_n K dX9_canPut_9 rfl ?_
    refine z_iload_n K dX9_canPut_10 rfl ?_
    refine z_iald (k := 47) (v := c l) K dX9_canPut_11 l rfl (by decide) (by omega) (by omega) ag.1 ?_
    refine z_iload_n K dX9_canPut_12 rfl ?_
    refine z_icmpeq (tgt := 33) K dX9_canPut_13 (by decide) (by omega) (by omega) (fun h13 => ?_) (fun h13 => ?_)
    · refine z_iconst K dX9_canPut_33 ?_
      exact z_zretd K T rfl dX9_canPut_34 (Or.inl rfl) (by rw [if_neg (by omega)]) rfl
    · refine z_aload_n K dX9_canPut_16 rfl ?_
      refine z_aload_n K dX9_canPut_17 rfl ?_
      refine z_iload_n K dX9_canPut_18 rfl ?_
      refine z_callVd K hl1 hg1 (kb := 39) (As := [.ref (ad 47), .int (zi h)]) (rest := []) (cm_inHole_r la g0 ad μ n nc S kd al wt an c hm hw hg h hh) (by decide) lk_X9_125 cd_X9_inHole rfl rfl rfl rfl (Nat.le_of_ble_eq_true rfl) dX9_canPut_19 ?_
      refine z_callSd K hl1 hg1 (As := [.int (zi ((zin c h n : Nat) : Int))]) (rest := []) (cm_many la g0 ad μ (zin c h n) hzl) (by decide) lk_X9_128 cd_X9_many rfl rfl (Nat.le_of_ble_eq_true rfl) dX9_canPut_22 ?_
      refine z_iconst K dX9_canPut_25 ?_
      refine z_icmpge (tgt := 33) K dX9_canPut_26 (by decide) (by omega) ⟨by decide, by decide⟩ (fun h26 => ?_) (fun h26 => ?_)
      · refine z_iconst K dX9_canPut_33 ?_
        exact z_zretd K T rfl dX9_canPut_34 (Or.inl rfl) (by rw [if_neg (by omega)]) rfl
      · refine z_iconst K dX9_canPut_29 ?_
        refine z_goto (tgt := 34) K dX9_canPut_30 (by decide) ?_
        exact z_zretd K T rfl dX9_canPut_34 (Or.inr rfl) (by rw [if_pos ⟨by omega, by omega, by omega⟩]) rfl
theorem zdt_ge (n : Nat) (kd al : Nat → Int) (nc : Nat) (an : Nat → Int) (l : Nat) : ∀ (r d : Nat) (s : zS), r + d = 21 → (d : Int) ≤ zdt n kd al nc an l r d s := by
  intro r
  induction r with
  | zero => intro d s h; show (d : Int) ≤ 21; omega
  | succ r ih =>
    intro d s h
    rw [zdt_s]
    split
    · have := ih (d + 1) (zday n kd al nc an s) (by omega); omega
    · split <;> omega
theorem zdth_rg (n : Nat) (kd al : Nat → Int) (nc : Nat) (an c : Nat → Int) (l : Nat) (hl : l < 6) (h : Int) (h0 : c (12 + l) = 0) : 1 ≤ zdth n kd al nc an c l h ∧ zdth n kd al nc an c l h ≤ 21 := by
  refine ⟨?_, (zdt_rg l 21 0 _ (by omega)).2⟩
  unfold zdth
  rw [zdt_s, if_pos (by show zu1 c l h (12 + l) = 0; rw [zu1_ne _ _ (by omega)]; exact h0)]
  exact zdt_ge n kd al nc an l 20 1 _ (by omega)
theorem zsh_0 (n : Nat) (kd al : Nat → Int) (nc : Nat) (an c : Nat → Int) (l : Nat) : ∀ h, (zsh n kd al nc an c l h).1 = -9 → (zsh n kd al nc an c l h).2 = 0 := by
  intro h
  induction h with
  | zero => intro _; rfl
  | succ h ih =>
    rw [zsh_s]
    split
    · intro h9; dsimp only at h9; omega
    · exact ih
set_option maxHeartbeats 4000000 in
set_option maxRecDepth 100000 in
theorem cq_saved (la : Launch) (g0 : zG) (ad : Nat → Nat) (μ : zMem) (n nc : Nat) (kd al wt an c : Nat → Int) (hm : zMP μ n nc kd al wt an) (hw : zHV n nc c) (hg : zAg n nc 7 (μ 46) c) (x : Int) (hx : zR x) : zCon la g0 yX9_saved cX9_saved 6 (some .int) 7 ad zSH [.ref (ad 39), .int (zi x)] μ (zPi (zQm μ (zA_saved n kd al nc an c x))) := by
  refine zCon_of (by decide +kernel) (Nat.le_of_ble_eq_true rfl) ?_
  intro χ K T hl1 hg1
  have K : zOk χ cX9_saved RX9 6 7 (some .int) := K
  obtain ⟨hn, hnc, hpl, hpa, hpk⟩ := id hm
  have hn6 := hpk.1
  have hnc3 := hpk.2.1
  refine z_mem (ν := zup (zup (zup μ 39 (μ 39)) 47 (μ 47)) 53 (μ 53)) (zup_id3 μ 39 47 53 (by decide) (by decide) (by decide)) ?_
  show zV χ 6 ad zSH 0 0 0 [(0, .ref (ad 39)), (1, .int (zi x))] [] (zup (zup (zup μ 39 (μ 39)) 47 (μ 47)) 53 (μ 53))
  refine z_aload_n K dX9_saved_0 rfl ?_
  refine z_iconst K dX9_saved_1 ?_
  refine z_puti (k := 39) K dX9_saved_2 fp_X9_59 rfl rfl (z_mem (ν := zup (zup (zup μ 39 (zu1 (μ 39) 0 (0 : Int))) 47 (μ 47)) 53 (μ 53)) (zup_sw3 _ (by decide) (by decide) _ _ _ _) ?_)
  refine z_aload_n K dX9_saved_5 rfl ?_
  refine z_iload_n K dX9_saved_6 rfl ?_
  refine z_callVd K hl1 hg1 (kb := 39) (As := [.int (zi x)]) (rest := []) (cm_noLetter la g0 ad (zup (zup (zup μ 39 (zu1 (μ 39) 0 (0 : Int))) 47 (μ 47)) 53 (μ 53)) n hn (by omega) x (by omega)) (by decide) lk_X9_164 cd_X9_noLetter rfl rfl rfl rfl (Nat.le_of_ble_eq_true rfl) dX9_saved_7 ?_
  show zV χ 6 ad zSH 0 0 10 [(0, .ref (ad 39)), (1, .int (zi x))] [.int (zi (if 0 ≤ x ∧ x < (n : Int) then 0 else 1))] (zup (zup (zup μ 39 (zu1 (μ 39) 0 (0 : Int))) 47 (μ 47)) 53 (μ 53))
  refine z_ifeq (tgt := 15) K dX9_saved_10 (by decide) (by omega) (fun h10 => ?_) (fun h10 => ?_)
  · obtain ⟨l, rfl⟩ : ∃ l : Nat, x = (l : Int) := ⟨x.toNat, by omega⟩
    have ag := hg.1 l (by omega)
    have hvl := hw.1.1 l (by omega)
    have hpl1 := hpl l (by omega)
    refine z_aload_n K dX9_saved_15 rfl ?_
    refine z_get (k := 39) (v := .ref (ad 46)) K dX9_saved_16 fl_X9_28 rfl rfl rfl ?_
    refine z_bipush K dX9_saved_19 (by decide +kernel) ?_
    refine z_iload_n K dX9_saved_21 rfl ?_
    refine z_iadd K dX9_saved_22 ?_
    refine z_iald (k := 46) (v := c (12 + l)) K dX9_saved_23 (6 + l) rfl (by decide) (by omega) (by omega) ag.2.1 ?_
    refine z_ifeq (tgt := 30) K dX9_saved_24 (by decide) (by omega) (fun h24 => ?_) (fun h24 => ?_)
    · refine z_bipush K dX9_saved_30 (by decide +kernel) ?_
      refine z_istore_n (lv' := [(0, .ref (ad 39)), (1, .int (zi ((l : Nat) : Int))), (2, .int (zi (-9 : Int)))]) K dX9_saved_32 (by decide) rfl ?_
      refine z_iconst K dX9_saved_33 ?_
      refine z_istore_n (lv' := [(0, .ref (ad 39)), (1, .int (zi ((l : Nat) : Int))), (2, .int (zi (-9 : Int))), (3, .int (zi (0 : Int)))]) K dX9_saved_34 (by decide) rfl ?_
      refine z_iconst K dX9_saved_35 ?_
      refine z_istore (lv' := [(0, .ref (ad 39)), (1, .int (zi ((l : Nat) : Int))), (2, .int (zi (-9 : Int))), (3, .int (zi (0 : Int))), (4, .int (zi (0 : Int)))]) K dX9_saved_36 (by decide) rfl ?_
      have L38 : ∀ h, h ≤ 12 → ∀ (g t a : Nat → Int), zFh (μ 39) g → zV χ 6 ad zSH 0 0 38 [(0, .ref (ad 39)), (1, .int (zi ((l : Nat) : Int))), (2, .int (zi ((zsh n kd al nc an c l h).1))), (3, .int (zi (if (zsh n kd al nc an c l h).2 = 21 then (99 : Int) else (zsh n kd al nc an c l h).2))), (4, .int (zi ((h : Nat) : Int)))] [] (zup (zup (zup μ 39 g) 47 t) 53 a) := by
        refine zfor ?_
        intro h hh ih g t a hgf
        have hrg := zsh_rg n kd al nc an c l h
        have hz0 := zsh_0 n kd al nc an c l h
        refine z_iload K dX9_saved_38 rfl ?_
        refine z_bipush K dX9_saved_40 (by decide +kernel) ?_
        refine z_icmpge (tgt := 137) K dX9_saved_42 (by decide) (by omega) ⟨by decide, by decide⟩ (fun h42 => ?_) (fun h42 => ?_)
        · refine z_iload_n K dX9_saved_137 rfl ?_
          exact z_ireti K T rfl dX9_saved_138 ⟨by unfold zA_saved; rw [if_pos (show 0 ≤ ((l : Nat) : Int) ∧ ((l : Nat) : Int) < (n : Int) from ⟨by omega, by omega⟩), Int.toNat_natCast, if_pos (by omega), show h = 12 by omega], (zFr_c (zFr_c (zFr_h (zFr_0 μ) (by first | exact hgf | repeat (first | exact zFh_0 _ | refine zFh_u ?_ (by decide) _))) (by decide) _) (by decide) _)⟩
        · have hm9 : zMP (zup μ 39 g) n nc kd al wt an := zMP_fr hm (zFr_h (zFr_0 μ) hgf)
          have hm10 : zMP (zup μ 39 (zu1 g 24 (7 : Int))) n nc kd al wt an := zMP_fr hm (zFr_h (zFr_0 μ) (zFh_u hgf (by decide) _))
          refine z_aload_n K dX9_saved_45 rfl ?_
          refine z_get (k := 39) (v := .ref (ad 46)) K dX9_saved_46 fl_X9_28 rfl rfl rfl ?_
          refine z_iload_n K dX9_saved_49 rfl ?_
          refine z_iald (k := 46) (v := c l) K dX9_saved_50 l rfl (by decide) (by omega) (by omega) ag.1 ?_
          refine z_iload K dX9_saved_51 rfl ?_
          refine z_icmpeq (tgt := 70) K dX9_saved_53 (by decide) (by omega) (by omega) (fun h53 => ?_) (fun h53 => ?_)
          · refine z_aload_n K dX9_saved_70 rfl ?_
            refine z_callVm K hl1 hg1 (kb := 39) (As := []) (rest := []) (cm_begin la g0 ad μ (g) t a) (by decide) lk_X9_191 cd_X9_begin rfl rfl rfl rfl (Nat.le_of_ble_eq_true rfl) dX9_saved_71 ?_
            refine z_aload_n K dX9_saved_74 rfl ?_
            refine z_get (k := 39) (v := .ref (ad 47)) K dX9_saved_75 fl_X9_31 rfl rfl rfl ?_
            refine z_iload_n K dX9_saved_78 rfl ?_
            refine z_iload K dX9_saved_79 rfl ?_
            refine z_iast (k := 47) K dX9_saved_81 l rfl (by decide) (by omega) (by omega) (z_mem (ν := zup (zup (zup μ 39 (zu1 (g) 24 (7 : Int))) 47 (zu1 (μ 46) l ((h : Nat) : Int))) 53 a) (zup_sw _ (by decide) _ _ _) ?_)
            refine z_aload_n K dX9_saved_82 rfl ?_
            refine z_iload_n K dX9_saved_83 rfl ?_
            refine z_callVi K hl1 hg1 (kb := 39) (As := [.int (zi ((l : Nat) : Int))]) (rest := []) (cm_hatchesThen la g0 ad (zup μ 39 (zu1 g 24 (7 : Int))) n nc 7 kd al wt an (zu1 (μ 46) l ((h : Nat) : Int)) (zu1 c l ((h : Nat) : Int)) a hm10 (zHV_hole hn6 hw (by omega) ⟨by omega, by omega⟩) (zAg_hole hn6 hg (by omega) _) rfl (by decide) l (by omega)) (by decide) lk_X9_201 cd_X9_hatchesThen rfl rfl rfl rfl (Nat.le_of_ble_eq_true rfl) dX9_saved_84 (fun r ν h84 => ?_)
            obtain ⟨hr, q2, b2, hν⟩ := h84
            subst hν hr
            rw [show zdt n kd al nc an l 21 0 (zu1 c l ((h : Nat) : Int), a) = zdth n kd al nc an c l h from zdt_fst n kd al nc an l 21 0 _ _ rfl]
            have hdr := zdth_rg n kd al nc an c l (by omega) h h24
            refine z_istore (lv' := [(0, .ref (ad 39)), (1, .int (zi ((l : Nat) : Int))), (2, .int (zi ((zsh n kd al nc an c l h).1))), (3, .int (zi (if (zsh n kd al nc an c l h).2 = 21 then (99 : Int) else (zsh n kd al nc an c l h).2))), (4, .int (zi ((h : Nat) : Int))), (5, .int (zi (if 20 < zdth n kd al nc an c l h then -9 else zdth n kd al nc an c l h)))]) K dX9_saved_87 (by decide) rfl ?_
            refine z_iload K dX9_saved_89 rfl ?_
            refine z_bipush K dX9_saved_91 (by decide +kernel) ?_
            refine z_icmpne (tgt := 101) K dX9_saved_93 (by decide) (by omega) ⟨by decide, by decide⟩ (fun h93 => ?_) (fun h93 => ?_)
            · refine z_iload K dX9_saved_101 rfl ?_
              refine z_istore (lv' := [(0, .ref (ad 39)), (1, .int (zi ((l : Nat) : Int))), (2, .int (zi ((zsh n kd al nc an c l h).1))), (3, .int (zi (if (zsh n kd al nc an c l h).2 = 21 then (99 : Int) else (zsh n kd al nc an c l h).2))), (4, .int (zi ((h : Nat) : Int))), (5, .int (zi (if 20 < zdth n kd al nc an c l h then -9 else zdth n kd al nc an c l h)))]) K dX9_saved_103 (by decide) rfl ?_
              refine z_iload K dX9_saved_105 rfl ?_
              refine z_iload_n K dX9_saved_107 rfl ?_
              refine z_icmple (tgt := 116) K dX9_saved_108 (by decide) (by omega) (by omega) (fun h108 => ?_) (fun h108 => ?_)
              · refine z_iload_n K dX9_saved_116 rfl ?_
                refine z_istore_n (lv' := [(0, .ref (ad 39)), (1, .int (zi ((l : Nat) : Int))), (2, .int (zi ((zsh n kd al nc an c l h).1))), (3, .int (zi (if (zsh n kd al nc an c l h).2 = 21 then (99 : Int) else (zsh n kd al nc an c l h).2))), (4, .int (zi ((h : Nat) : Int))), (5, .int (zi (if 20 < zdth n kd al nc an c l h then -9 else zdth n kd al nc an c l h)))]) K dX9_saved_117 (by decide) rfl ?_
                refine z_iload K dX9_saved_118 rfl ?_
                refine z_iload_n K dX9_saved_120 rfl ?_
                refine z_icmple (tgt := 129) K dX9_saved_121 (by decide) (by omega) (by omega) (fun h121 => ?_) (fun h121 => absurd h121 (by omega))
                refine z_iload_n K dX9_saved_129 rfl ?_
                refine z_istore_n (lv' := [(0, .ref (ad 39)), (1, .int (zi ((l : Nat) : Int))), (2, .int (zi ((zsh n kd al nc an c l h).1))), (3, .int (zi (if (zsh n kd al nc an c l h).2 = 21 then (99 : Int) else (zsh n kd al nc an c l h).2))), (4, .int (zi ((h : Nat) : Int))), (5, .int (zi (if 20 < zdth n kd al nc an c l h then -9 else zdth n kd al nc an c l h)))]) K dX9_saved_130 (by decide) rfl ?_
                refine z_iincN (lv' := [(0, .ref (ad 39)), (1, .int (zi ((l : Nat) : Int))), (2, .int (zi ((zsh n kd al nc an c l h).1))), (3, .int (zi (if (zsh n kd al nc an c l h).2 = 21 then (99 : Int) else (zsh n kd al nc an c l h).2))), (4, .int (zi ((h + 1 : Nat) : Int))), (5, .int (zi (if 20 < zdth n kd al nc an c l h then -9 else zdth n kd al nc an c l h)))]) K dX9_saved_131 rfl (by decide) rfl ?_
                refine z_goto (tgt := 38) K dX9_saved_134 (by decide) ?_
                refine z_ipick [0, 1, 2, 3, 4] rfl ?_
                have e9 : zsh n kd al nc an c l (h + 1) = zsh n kd al nc an c l h := by
                  rw [zsh_s]
                  simp only [Int.toNat_natCast]
                  rw [if_neg (by omega)]
                have q := ih (h + 1) (by omega) (by omega) (zu1 g 24 (7 : Int)) q2 b2 (zFh_u hgf (by decide) _)
                rw [e9] at q
                exact q
              · refine z_iload K dX9_saved_111 rfl ?_
                refine z_goto (tgt := 117) K dX9_saved_113 (by decide) ?_
                refine z_istore_n (lv' := [(0, .ref (ad 39)), (1, .int (zi ((l : Nat) : Int))), (2, .int (zi ((h : Nat) : Int))), (3, .int (zi (if (zsh n kd al nc an c l h).2 = 21 then (99 : Int) else (zsh n kd al nc an c l h).2))), (4, .int (zi ((h : Nat) : Int))), (5, .int (zi (if 20 < zdth n kd al nc an c l h then -9 else zdth n kd al nc an c l h)))]) K dX9_saved_117 (by decide) rfl ?_
                refine z_iload K dX9_saved_118 rfl ?_
                refine z_iload_n K dX9_saved_120 rfl ?_
                refine z_icmple (tgt := 129) K dX9_saved_121 (by decide) (by omega) (by omega) (fun h121 => absurd h121 (by omega)) (fun h121 => ?_)
                refine z_iload K dX9_saved_124 rfl ?_
                refine z_goto (tgt := 130) K dX9_saved_126 (by decide) ?_
                refine z_istore_n (lv' := [(0, .ref (ad 39)), (1, .int (zi ((l : Nat) : Int))), (2, .int (zi ((h : Nat) : Int))), (3, .int (zi (if 20 < zdth n kd al nc an c l h then -9 else zdth n kd al nc an c l h))), (4, .int (zi ((h : Nat) : Int))), (5, .int (zi (if 20 < zdth n kd al nc an c l h then -9 else zdth n kd al nc an c l h)))]) K dX9_saved_130 (by decide) rfl ?_
                refine z_iincN (lv' := [(0, .ref (ad 39)), (1, .int (zi ((l : Nat) : Int))), (2, .int (zi ((h : Nat) : Int))), (3, .int (zi (if 20 < zdth n kd al nc an c l h then -9 else zdth n kd al nc an c l h))), (4, .int (zi ((h + 1 : Nat) : Int))), (5, .int (zi (if 20 < zdth n kd al nc an c l h then -9 else zdth n kd al nc an c l h)))]) K dX9_saved_131 rfl (by decide) rfl ?_
                refine z_goto (tgt := 38) K dX9_saved_134 (by decide) ?_
                refine z_ipick [0, 1, 2, 3, 4] rfl ?_
                have e9 : zsh n kd al nc an c l (h + 1) = ((h : Int), zdth n kd al nc an c l h) := by
                  rw [zsh_s]
                  simp only [Int.toNat_natCast]
                  rw [if_pos (by omega)]
                have q := ih (h + 1) (by omega) (by omega) (zu1 g 24 (7 : Int)) q2 b2 (zFh_u hgf (by decide) _)
                rw [e9] at q
                dsimp only at q
                rw [show (if zdth n kd al nc an c l h = 21 then (99 : Int) else zdth n kd al nc an c l h) = if 20 < zdth n kd al nc an c l h then -9 else zdth n kd al nc an c l h by omega] at q
                exact q
            · refine z_bipush K dX9_saved_96 (by decide +kernel) ?_
              refine z_goto (tgt := 103) K dX9_saved_98 (by decide) ?_
              refine z_istore (lv' := [(0, .ref (ad 39)), (1, .int (zi ((l : Nat) : Int))), (2, .int (zi ((zsh n kd al nc an c l h).1))), (3, .int (zi (if (zsh n kd al nc an c l h).2 = 21 then (99 : Int) else (zsh n kd al nc an c l h).2))), (4, .int (zi ((h : Nat) : Int))), (5, .int (zi (99 : Int)))]) K dX9_saved_103 (by decide) rfl ?_
              refine z_iload K dX9_saved_105 rfl ?_
              refine z_iload_n K dX9_saved_107 rfl ?_
              refine z_icmple (tgt := 116) K dX9_saved_108 (by decide) ⟨by decide, by decide⟩ (by omega) (fun h108 => ?_) (fun h108 => ?_)
              · refine z_iload_n K dX9_saved_116 rfl ?_
                refine z_istore_n (lv' := [(0, .ref (ad 39)), (1, .int (zi ((l : Nat) : Int))), (2, .int (zi ((zsh n kd al nc an c l h).1))), (3, .int (zi (if (zsh n kd al nc an c l h).2 = 21 then (99 : Int) else (zsh n kd al nc an c l h).2))), (4, .int (zi ((h : Nat) : Int))), (5, .int (zi (99 : Int)))]) K dX9_saved_117 (by decide) rfl ?_
                refine z_iload K dX9_saved_118 rfl ?_
                refine z_iload_n K dX9_saved_120 rfl ?_
                refine z_icmple (tgt := 129) K dX9_saved_121 (by decide) ⟨by decide, by decide⟩ (by omega) (fun h121 => ?_) (fun h121 => absurd h121 (by omega))
                refine z_iload_n K dX9_saved_129 rfl ?_
                refine z_istore_n (lv' := [(0, .ref (ad 39)), (1, .int (zi ((l : Nat) : Int))), (2, .int (zi ((zsh n kd al nc an c l h).1))), (3, .int (zi (if (zsh n kd al nc an c l h).2 = 21 then (99 : Int) else (zsh n kd al nc an c l h).2))), (4, .int (zi ((h : Nat) : Int))), (5, .int (zi (99 : Int)))]) K dX9_saved_130 (by decide) rfl ?_
                refine z_iincN (lv' := [(0, .ref (ad 39)), (1, .int (zi ((l : Nat) : Int))), (2, .int (zi ((zsh n kd al nc an c l h).1))), (3, .int (zi (if (zsh n kd al nc an c l h).2 = 21 then (99 : Int) else (zsh n kd al nc an c l h).2))), (4, .int (zi ((h + 1 : Nat) : Int))), (5, .int (zi (99 : Int)))]) K dX9_saved_131 rfl (by decide) rfl ?_
                refine z_goto (tgt := 38) K dX9_saved_134 (by decide) ?_
                refine z_ipick [0, 1, 2, 3, 4] rfl ?_
                have e9 : zsh n kd al nc an c l (h + 1) = zsh n kd al nc an c l h := by
                  rw [zsh_s]
                  simp only [Int.toNat_natCast]
                  rw [if_neg (by omega)]
                have q := ih (h + 1) (by omega) (by omega) (zu1 g 24 (7 : Int)) q2 b2 (zFh_u hgf (by decide) _)
                rw [e9] at q
                exact q
              · refine z_iload K dX9_saved_111 rfl ?_
                refine z_goto (tgt := 117) K dX9_saved_113 (by decide) ?_
                refine z_istore_n (lv' := [(0, .ref (ad 39)), (1, .int (zi ((l : Nat) : Int))), (2, .int (zi ((h : Nat) : Int))), (3, .int (zi (if (zsh n kd al nc an c l h).2 = 21 then (99 : Int) else (zsh n kd al nc an c l h).2))), (4, .int (zi ((h : Nat) : Int))), (5, .int (zi (99 : Int)))]) K dX9_saved_117 (by decide) rfl ?_
                refine z_iload K dX9_saved_118 rfl ?_
                refine z_iload_n K dX9_saved_120 rfl ?_
                refine z_icmple (tgt := 129) K dX9_saved_121 (by decide) ⟨by decide, by decide⟩ (by omega) (fun h121 => absurd h121 (by omega)) (fun h121 => ?_)
                refine z_iload K dX9_saved_124 rfl ?_
                refine z_goto (tgt := 130) K dX9_saved_126 (by decide) ?_
                refine z_istore_n (lv' := [(0, .ref (ad 39)), (1, .int (zi ((l : Nat) : Int))), (2, .int (zi ((h : Nat) : Int))), (3, .int (zi (99 : Int))), (4, .int (zi ((h : Nat) : Int))), (5, .int (zi (99 : Int)))]) K dX9_saved_130 (by decide) rfl ?_
                refine z_iincN (lv' := [(0, .ref (ad 39)), (1, .int (zi ((l : Nat) : Int))), (2, .int (zi ((h : Nat) : Int))), (3, .int (zi (99 : Int))), (4, .int (zi ((h + 1 : Nat) : Int))), (5, .int (zi (99 : Int)))]) K dX9_saved_131 rfl (by decide) rfl ?_
                refine z_goto (tgt := 38) K dX9_saved_134 (by decide) ?_
                refine z_ipick [0, 1, 2, 3, 4] rfl ?_
                have e9 : zsh n kd al nc an c l (h + 1) = ((h : Int), zdth n kd al nc an c l h) := by
                  rw [zsh_s]
                  simp only [Int.toNat_natCast]
                  rw [if_pos (by omega)]
                have q := ih (h + 1) (by omega) (by omega) (zu1 g 24 (7 : Int)) q2 b2 (zFh_u hgf (by decide) _)
                rw [e9] at q
                dsimp only at q
                rw [show (if zdth n kd al nc an c l h = 21 then (99 : Int) else zdth n kd al nc an c l h) = (99 : Int) by omega] at q
                exact q
          · refine z_aload_n K dX9_saved_56 rfl ?_
            refine z_aload_n K dX9_saved_57 rfl ?_
            refine z_get (k := 39) (v := .ref (ad 46)) K dX9_saved_58 fl_X9_28 rfl rfl rfl ?_
            refine z_iload_n K dX9_saved_61 rfl ?_
            refine z_iload K dX9_saved_62 rfl ?_
            refine z_callVd K hl1 hg1 (kb := 39) (As := [.ref (ad 46), .int (zi ((l : Nat) : Int)), .int (zi ((h : Nat) : Int))]) (rest := []) (cm_canPut_g la g0 ad (zup (zup (zup μ 39 g) 47 t) 53 a) n nc 7 kd al wt an c hm9 hw.1 hg l (by omega) ((h : Nat) : Int) ⟨by omega, by omega⟩) (by decide) lk_X9_176 cd_X9_canPut rfl rfl rfl rfl (Nat.le_of_ble_eq_true rfl) dX9_saved_64 ?_
            show zV χ 6 ad zSH 0 0 67 [(0, .ref (ad 39)), (1, .int (zi ((l : Nat) : Int))), (2, .int (zi ((zsh n kd al nc an c l h).1))), (3, .int (zi (if (zsh n kd al nc an c l h).2 = 21 then (99 : Int) else (zsh n kd al nc an c l h).2))), (4, .int (zi ((h : Nat) : Int)))] [.int (zi (if c (12 + l) = 0 ∧ c l ≠ (h : Int) ∧ zpop (zin c (h : Int) n) < 2 then 1 else 0))] (zup (zup (zup μ 39 g) 47 t) 53 a)
            refine z_ifeq (tgt := 131) K dX9_saved_67 (by decide) (by omega) (fun h67 => ?_) (fun h67 => ?_)
            · refine z_iincN (lv' := [(0, .ref (ad 39)), (1, .int (zi ((l : Nat) : Int))), (2, .int (zi ((zsh n kd al nc an c l h).1))), (3, .int (zi (if (zsh n kd al nc an c l h).2 = 21 then (99 : Int) else (zsh n kd al nc an c l h).2))), (4, .int (zi ((h + 1 : Nat) : Int)))]) K dX9_saved_131 rfl (by decide) rfl ?_
              refine z_goto (tgt := 38) K dX9_saved_134 (by decide) ?_
              have e9 : zsh n kd al nc an c l (h + 1) = zsh n kd al nc an c l h := by
                rw [zsh_s]
                simp only [Int.toNat_natCast]
                rw [if_neg (by omega)]
              have q := ih (h + 1) (by omega) (by omega) g t a hgf
              rw [e9] at q
              exact q
            · refine z_aload_n K dX9_saved_70 rfl ?_
              refine z_callVm K hl1 hg1 (kb := 39) (As := []) (rest := []) (cm_begin la g0 ad μ (g) t a) (by decide) lk_X9_191 cd_X9_begin rfl rfl rfl rfl (Nat.le_of_ble_eq_true rfl) dX9_saved_71 ?_
              refine z_aload_n K dX9_saved_74 rfl ?_
              refine z_get (k := 39) (v := .ref (ad 47)) K dX9_saved_75 fl_X9_31 rfl rfl rfl ?_
              refine z_iload_n K dX9_saved_78 rfl ?_
              refine z_iload K dX9_saved_79 rfl ?_
              refine z_iast (k := 47) K dX9_saved_81 l rfl (by decide) (by omega) (by omega) (z_mem (ν := zup (zup (zup μ 39 (zu1 (g) 24 (7 : Int))) 47 (zu1 (μ 46) l ((h : Nat) : Int))) 53 a) (zup_sw _ (by decide) _ _ _) ?_)
              refine z_aload_n K dX9_saved_82 rfl ?_
              refine z_iload_n K dX9_saved_83 rfl ?_
              refine z_callVi K hl1 hg1 (kb := 39) (As := [.int (zi ((l : Nat) : Int))]) (rest := []) (cm_hatchesThen la g0 ad (zup μ 39 (zu1 g 24 (7 : Int))) n nc 7 kd al wt an (zu1 (μ 46) l ((h : Nat) : Int)) (zu1 c l ((h : Nat) : Int)) a hm10 (zHV_hole hn6 hw (by omega) ⟨by omega, by omega⟩) (zAg_hole hn6 hg (by omega) _) rfl (by decide) l (by omega)) (by decide) lk_X9_201 cd_X9_hatchesThen rfl rfl rfl rfl (Nat.le_of_ble_eq_true rfl) dX9_saved_84 (fun r ν h84 => ?_)
              obtain ⟨hr, q2, b2, hν⟩ := h84
              subst hν hr
              rw [show zdt n kd al nc an l 21 0 (zu1 c l ((h : Nat) : Int), a) = zdth n kd al nc an c l h from zdt_fst n kd al nc an l 21 0 _ _ rfl]
              have hdr := zdth_rg n kd al nc an c l (by omega) h h24
              refine z_istore (lv' := [(0, .ref (ad 39)), (1, .int (zi ((l : Nat) : Int))), (2, .int (zi ((zsh n kd al nc an c l h).1))), (3, .int (zi (if (zsh n kd al nc an c l h).2 = 21 then (99 : Int) else (zsh n kd al nc an c l h).2))), (4, .int (zi ((h : Nat) : Int))), (5, .int (zi (if 20 < zdth n kd al nc an c l h then -9 else zdth n kd al nc an c l h)))]) K dX9_saved_87 (by decide) rfl ?_
              refine z_iload K dX9_saved_89 rfl ?_
              refine z_bipush K dX9_saved_91 (by decide +kernel) ?_
              refine z_icmpne (tgt := 101) K dX9_saved_93 (by decide) (by omega) ⟨by decide, by decide⟩ (fun h93 => ?_) (fun h93 => ?_)
              · refine z_iload K dX9_saved_101 rfl ?_
                refine z_istore (lv' := [(0, .ref (ad 39)), (1, .int (zi ((l : Nat) : Int))), (2, .int (zi ((zsh n kd al nc an c l h).1))), (3, .int (zi (if (zsh n kd al nc an c l h).2 = 21 then (99 : Int) else (zsh n kd al nc an c l h).2))), (4, .int (zi ((h : Nat) : Int))), (5, .int (zi (if 20 < zdth n kd al nc an c l h then -9 else zdth n kd al nc an c l h)))]) K dX9_saved_103 (by decide) rfl ?_
                refine z_iload K dX9_saved_105 rfl ?_
                refine z_iload_n K dX9_saved_107 rfl ?_
                refine z_icmple (tgt := 116) K dX9_saved_108 (by decide) (by omega) (by omega) (fun h108 => ?_) (fun h108 => ?_)
                · refine z_iload_n K dX9_saved_116 rfl ?_
                  refine z_istore_n (lv' := [(0, .ref (ad 39)), (1, .int (zi ((l : Nat) : Int))), (2, .int (zi ((zsh n kd al nc an c l h).1))), (3, .int (zi (if (zsh n kd al nc an c l h).2 = 21 then (99 : Int) else (zsh n kd al nc an c l h).2))), (4, .int (zi ((h : Nat) : Int))), (5, .int (zi (if 20 < zdth n kd al nc an c l h then -9 else zdth n kd al nc an c l h)))]) K dX9_saved_117 (by decide) rfl ?_
                  refine z_iload K dX9_saved_118 rfl ?_
                  refine z_iload_n K dX9_saved_120 rfl ?_
                  refine z_icmple (tgt := 129) K dX9_saved_121 (by decide) (by omega) (by omega) (fun h121 => ?_) (fun h121 => absurd h121 (by omega))
                  refine z_iload_n K dX9_saved_129 rfl ?_
                  refine z_istore_n (lv' := [(0, .ref (ad 39)), (1, .int (zi ((l : Nat) : Int))), (2, .int (zi ((zsh n kd al nc an c l h).1))), (3, .int (zi (if (zsh n kd al nc an c l h).2 = 21 then (99 : Int) else (zsh n kd al nc an c l h).2))), (4, .int (zi ((h : Nat) : Int))), (5, .int (zi (if 20 < zdth n kd al nc an c l h then -9 else zdth n kd al nc an c l h)))]) K dX9_saved_130 (by decide) rfl ?_
                  refine z_iincN (lv' := [(0, .ref (ad 39)), (1, .int (zi ((l : Nat) : Int))), (2, .int (zi ((zsh n kd al nc an c l h).1))), (3, .int (zi (if (zsh n kd al nc an c l h).2 = 21 then (99 : Int) else (zsh n kd al nc an c l h).2))), (4, .int (zi ((h + 1 : Nat) : Int))), (5, .int (zi (if 20 < zdth n kd al nc an c l h then -9 else zdth n kd al nc an c l h)))]) K dX9_saved_131 rfl (by decide) rfl ?_
                  refine z_goto (tgt := 38) K dX9_saved_134 (by decide) ?_
                  refine z_ipick [0, 1, 2, 3, 4] rfl ?_
                  have e9 : zsh n kd al nc an c l (h + 1) = zsh n kd al nc an c l h := by
                    rw [zsh_s]
                    simp only [Int.toNat_natCast]
                    rw [if_neg (by omega)]
                  have q := ih (h + 1) (by omega) (by omega) (zu1 g 24 (7 : Int)) q2 b2 (zFh_u hgf (by decide) _)
                  rw [e9] at q
                  exact q
                · refine z_iload K dX9_saved_111 rfl ?_
                  refine z_goto (tgt := 117) K dX9_saved_113 (by decide) ?_
                  refine z_istore_n (lv' := [(0, .ref (ad 39)), (1, .int (zi ((l : Nat) : Int))), (2, .int (zi ((h : Nat) : Int))), (3, .int (zi (if (zsh n kd al nc an c l h).2 = 21 then (99 : Int) else (zsh n kd al nc an c l h).2))), (4, .int (zi ((h : Nat) : Int))), (5, .int (zi (if 20 < zdth n kd al nc an c l h then -9 else zdth n kd al nc an c l h)))]) K dX9_saved_117 (by decide) rfl ?_
                  refine z_iload K dX9_saved_118 rfl ?_
                  refine z_iload_n K dX9_saved_120 rfl ?_
                  refine z_icmple (tgt := 129) K dX9_saved_121 (by decide) (by omega) (by omega) (fun h121 => absurd h121 (by omega)) (fun h121 => ?_)
                  refine z_iload K dX9_saved_124 rfl ?_
                  refine z_goto (tgt := 130) K dX9_saved_126 (by decide) ?_
                  refine z_istore_n (lv' := [(0, .ref (ad 39)), (1, .int (zi ((l : Nat) : Int))), (2, .int (zi ((h : Nat) : Int))), (3, .int (zi (if 20 < zdth n kd al nc an c l h then -9 else zdth n kd al nc an c l h))), (4, .int (zi ((h : Nat) : Int))), (5, .int (zi (if 20 < zdth n kd al nc an c l h then -9 else zdth n kd al nc an c l h)))]) K dX9_saved_130 (by decide) rfl ?_
                  refine z_iincN (lv' := [(0, .ref (ad 39)), (1, .int (zi ((l : Nat) : Int))), (2, .int (zi ((h : Nat) : Int))), (3, .int (zi (if 20 < zdth n kd al nc an c l h then -9 else zdth n kd al nc an c l h))), (4, .int (zi ((h + 1 : Nat) : Int))), (5, .int (zi (if 20 < zdth n kd al nc an c l h then -9 else zdth n kd al nc an c l h)))]) K dX9_saved_131 rfl (by decide) rfl ?_
                  refine z_goto (tgt := 38) K dX9_saved_134 (by decide) ?_
                  refine z_ipick [0, 1, 2, 3, 4] rfl ?_
                  have e9 : zsh n kd al nc an c l (h + 1) = ((h : Int), zdth n kd al nc an c l h) := by
                    rw [zsh_s]
                    simp only [Int.toNat_natCast]
                    rw [if_pos (by omega)]
                  have q := ih (h + 1) (by omega) (by omega) (zu1 g 24 (7 : Int)) q2 b2 (zFh_u hgf (by decide) _)
                  rw [e9] at q
                  dsimp only at q
                  rw [show (if zdth n kd al nc an c l h = 21 then (99 : Int) else zdth n kd al nc an c l h) = if 20 < zdth n kd al nc an c l h then -9 else zdth n kd al nc an c l h by omega] at q
                  exact q
              · refine z_bipush K dX9_saved_96 (by decide +kernel) ?_
                refine z_goto (tgt := 103) K dX9_saved_98 (by decide) ?_
                refine z_istore (lv' := [(0, .ref (ad 39)), (1, .int (zi ((l : Nat) : Int))), (2, .int (zi ((zsh n kd al nc an c l h).1))), (3, .int (zi (if (zsh n kd al nc an c l h).2 = 21 then (99 : Int) else (zsh n kd al nc an c l h).2))), (4, .int (zi ((h : Nat) : Int))), (5, .int (zi (99 : Int)))]) K dX9_saved_103 (by decide) rfl ?_
                refine z_iload K dX9_saved_105 rfl ?_
                refine z_iload_n K dX9_saved_107 rfl ?_
                refine z_icmple (tgt := 116) K dX9_saved_108 (by decide) ⟨by decide, by decide⟩ (by omega) (fun h108 => ?_) (fun h108 => ?_)
                · refine z_iload_n K dX9_saved_116 rfl ?_
                  refine z_istore_n (lv' := [(0, .ref (ad 39)), (1, .int (zi ((l : Nat) : Int))), (2, .int (zi ((zsh n kd al nc an c l h).1))), (3, .int (zi (if (zsh n kd al nc an c l h).2 = 21 then (99 : Int) else (zsh n kd al nc an c l h).2))), (4, .int (zi ((h : Nat) : Int))), (5, .int (zi (99 : Int)))]) K dX9_saved_117 (by decide) rfl ?_
                  refine z_iload K dX9_saved_118 rfl ?_
                  refine z_iload_n K dX9_saved_120 rfl ?_
                  refine z_icmple (tgt := 129) K dX9_saved_121 (by decide) ⟨by decide, by decide⟩ (by omega) (fun h121 => ?_) (fun h121 => absurd h121 (by omega))
                  refine z_iload_n K dX9_saved_129 rfl ?_
                  refine z_istore_n (lv' := [(0, .ref (ad 39)), (1, .int (zi ((l : Nat) : Int))), (2, .int (zi ((zsh n kd al nc an c l h).1))), (3, .int (zi (if (zsh n kd al nc an c l h).2 = 21 then (99 : Int) else (zsh n kd al nc an c l h).2))), (4, .int (zi ((h : Nat) : Int))), (5, .int (zi (99 : Int)))]) K dX9_saved_130 (by decide) rfl ?_
                  refine z_iincN (lv' := [(0, .ref (ad 39)), (1, .int (zi ((l : Nat) : Int))), (2, .int (zi ((zsh n kd al nc an c l h).1))), (3, .int (zi (if (zsh n kd al nc an c l h).2 = 21 then (99 : Int) else (zsh n kd al nc an c l h).2))), (4, .int (zi ((h + 1 : Nat) : Int))), (5, .int (zi (99 : Int)))]) K dX9_saved_131 rfl (by decide) rfl ?_
                  refine z_goto (tgt := 38) K dX9_saved_134 (by decide) ?_
                  refine z_ipick [0, 1, 2, 3, 4] rfl ?_
                  have e9 : zsh n kd al nc an c l (h + 1) = zsh n kd al nc an c l h := by
                    rw [zsh_s]
                    simp only [Int.toNat_natCast]
                    rw [if_neg (by omega)]
                  have q := ih (h + 1) (by omega) (by omega) (zu1 g 24 (7 : Int)) q2 b2 (zFh_u hgf (by decide) _)
                  rw [e9] at q
                  exact q
                · refine z_iload K dX9_saved_111 rfl ?_
                  refine z_goto (tgt := 117) K dX9_saved_113 (by decide) ?_
                  refine z_istore_n (lv' := [(0, .ref (ad 39)), (1, .int (zi ((l : Nat) : Int))), (2, .int (zi ((h : Nat) : Int))), (3, .int (zi (if (zsh n kd al nc an c l h).2 = 21 then (99 : Int) else (zsh n kd al nc an c l h).2))), (4, .int (zi ((h : Nat) : Int))), (5, .int (zi (99 : Int)))]) K dX9_saved_117 (by decide) rfl ?_
                  refine z_iload K dX9_saved_118 rfl ?_
                  refine z_iload_n K dX9_saved_120 rfl ?_
                  refine z_icmple (tgt := 129) K dX9_saved_121 (by decide) ⟨by decide, by decide⟩ (by omega) (fun h121 => absurd h121 (by omega)) (fun h121 => ?_)
                  refine z_iload K dX9_saved_124 rfl ?_
                  refine z_goto (tgt := 130) K dX9_saved_126 (by decide) ?_
                  refine z_istore_n (lv' := [(0, .ref (ad 39)), (1, .int (zi ((l : Nat) : Int))), (2, .int (zi ((h : Nat) : Int))), (3, .int (zi (99 : Int))), (4, .int (zi ((h : Nat) : Int))), (5, .int (zi (99 : Int)))]) K dX9_saved_130 (by decide) rfl ?_
                  refine z_iincN (lv' := [(0, .ref (ad 39)), (1, .int (zi ((l : Nat) : Int))), (2, .int (zi ((h : Nat) : Int))), (3, .int (zi (99 : Int))), (4, .int (zi ((h + 1 : Nat) : Int))), (5, .int (zi (99 : Int)))]) K dX9_saved_131 rfl (by decide) rfl ?_
                  refine z_goto (tgt := 38) K dX9_saved_134 (by decide) ?_
                  refine z_ipick [0, 1, 2, 3, 4] rfl ?_
                  have e9 : zsh n kd al nc an c l (h + 1) = ((h : Int), zdth n kd al nc an c l h) := by
                    rw [zsh_s]
                    simp only [Int.toNat_natCast]
                    rw [if_pos (by omega)]
                  have q := ih (h + 1) (by omega) (by omega) (zu1 g 24 (7 : Int)) q2 b2 (zFh_u hgf (by decide) _)
                  rw [e9] at q
                  dsimp only at q
                  rw [show (if zdth n kd al nc an c l h = 21 then (99 : Int) else zdth n kd al nc an c l h) = (99 : Int) by omega] at q
                  exact q
      exact L38 0 (by omega) _ _ _ (zFh_u (zFh_0 _) (by decide) _)
    · refine z_bipush K dX9_saved_27 (by decide +kernel) ?_
      exact z_ireti K T rfl dX9_saved_29 ⟨by unfold zA_saved; rw [if_pos (show 0 ≤ ((l : Nat) : Int) ∧ ((l : Nat) : Int) < (n : Int) from ⟨by omega, by omega⟩), Int.toNat_natCast, if_neg (by omega)], (zFr_c (zFr_c (zFr_h (zFr_0 μ) (by first | exact hgf | repeat (first | exact zFh_0 _ | refine zFh_u ?_ (by decide) _))) (by decide) _) (by decide) _)⟩
  · refine z_iconst K dX9_saved_13 ?_
    exact z_ireti K T rfl dX9_saved_14 ⟨by unfold zA_saved; rw [if_neg (by omega)], (zFr_c (zFr_c (zFr_h (zFr_0 μ) (by first | exact hgf | repeat (first | exact zFh_0 _ | refine zFh_u ?_ (by decide) _))) (by decide) _) (by decide) _)⟩
