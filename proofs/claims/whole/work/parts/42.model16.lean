theorem zanb_keep (c : Nat → Int) (b : Nat) : ∀ (l j : Nat), 12 + l ≤ j → zanb c b l j = c j := by
  intro l
  induction l with
  | zero => intro j _; rfl
  | succ l ih =>
    intro j hj
    rw [zanb_s]
    split
    · exact ih j (by omega)
    · rw [zu1_ne _ _ (by omega)]; exact ih j (by omega)
theorem zq_fst (n : Nat) (kd al : Nat → Int) (nc : Nat) (an : Nat → Int) : ∀ (r : Nat) (s t : zS), s.1 = t.1 → zq n kd al nc an r s = zq n kd al nc an r t := by
  intro r
  induction r with
  | zero => intro s t _; rfl
  | succ r ih =>
    intro s t h
    rw [zq_s, zq_s, zdayM_fst' n kd al nc an s t h, ih _ _ (zday_fst' n kd al nc an s t h)]
set_option maxHeartbeats 4000000 in
set_option maxRecDepth 100000 in
theorem cm_isQuiet (la : Launch) (g0 : zG) (ad : Nat → Nat) (μ : zMem) (n nc : Nat) (kd al wt an c : Nat → Int) (hm : zMP μ n nc kd al wt an) (hw : zHV n nc c) (hg : zAg n nc 7 (μ 46) c) (g t a : Nat → Int) (hgf : zFh (μ 39) g) (b : Nat) (hb : b < 64) : zCon la g0 yX9_isQuiet cX9_isQuiet 4 (some .boolean) 6 ad zSH [.ref (ad 39), .int (zi ((b : Nat) : Int))] (zup (zup (zup μ 39 g) 47 t) 53 a) (zPi (fun r ν => r = (if zqu n kd al nc an c b = true then 1 else 0) ∧ ∃ t2 a2, ν = zup (zup (zup μ 39 (zu1 g 24 (7 : Int))) 47 t2) 53 a2)) := by
  refine zCon_of (by decide +kernel) (Nat.le_of_ble_eq_true rfl) ?_
  intro χ K T hl1 hg1
  have K : zOk χ cX9_isQuiet RX9 4 6 (some .boolean) := K
  obtain ⟨hn, hnc, hpl, hpa, hpk⟩ := id hm
  have hn6 := hpk.1
  have hnc3 := hpk.2.1
  have hn9 : g 4 = (n : Int) := (hgf 4 (by decide)).trans hn
  have hm9 : zMP (zup μ 39 (zu1 g 24 (7 : Int))) n nc kd al wt an := zMP_fr hm (zFr_h (zFr_0 μ) (zFh_u hgf (by decide) _))
  show zV χ 4 ad zSH 0 0 0 [(0, .ref (ad 39)), (1, .int (zi ((b : Nat) : Int)))] [] (zup (zup (zup μ 39 g) 47 t) 53 a)
  refine z_aload_n K dX9_isQuiet_0 rfl ?_
  refine z_callVm K hl1 hg1 (kb := 39) (As := []) (rest := []) (cm_begin la g0 ad μ (g) t a) (by decide) lk_X9_191 cd_X9_begin rfl rfl rfl rfl (Nat.le_of_ble_eq_true rfl) dX9_isQuiet_1 ?_
  refine z_iconst K dX9_isQuiet_4 ?_
  refine z_istore_n (lv' := [(0, .ref (ad 39)), (1, .int (zi ((b : Nat) : Int))), (2, .int (zi (0 : Int)))]) K dX9_isQuiet_5 (by decide) rfl ?_
  have L6 : ∀ l, l ≤ n → ∀ (d q : Nat → Int), zanb c b l = d → zAg n nc 7 q d → zV χ 4 ad zSH 0 0 6 [(0, .ref (ad 39)), (1, .int (zi ((b : Nat) : Int))), (2, .int (zi ((l : Nat) : Int)))] [] (zup (zup (zup μ 39 (zu1 g 24 (7 : Int))) 47 q) 53 a) := by
    refine zfor ?_
    intro l hl ih d q hd hag
    refine z_iload_n K dX9_isQuiet_6 rfl ?_
    refine z_aload_n K dX9_isQuiet_7 rfl ?_
    refine z_get (k := 39) (v := .int (zi ((zu1 g 24 (7 : Int)) 4))) K dX9_isQuiet_8 fl_X9_63 rfl rfl rfl ?_
    rw [show ((zu1 g 24 (7 : Int)) 4) = ((n : Nat) : Int) from hn9]
    refine z_icmpge (tgt := 50) K dX9_isQuiet_11 (by decide) (by omega) (by omega) (fun h11 => ?_) (fun h11 => ?_)
    · have hln : l = n := by omega
      rw [hln] at hd
      refine z_iconst K dX9_isQuiet_50 ?_
      refine z_istore_n (lv' := [(0, .ref (ad 39)), (1, .int (zi ((b : Nat) : Int))), (2, .int (zi (0 : Int)))]) K dX9_isQuiet_51 (by decide) rfl ?_
      refine z_iconst K dX9_isQuiet_52 ?_
      refine z_istore_n (lv' := [(0, .ref (ad 39)), (1, .int (zi ((b : Nat) : Int))), (2, .int (zi (0 : Int))), (3, .int (zi (0 : Int)))]) K dX9_isQuiet_53 (by decide) rfl ?_
      have L54 : ∀ i, i ≤ 9 → ∀ (d b2 q : Nat → Int) (m : Nat), zHV n nc d → zAg n nc 7 q d → m ≤ 6 * i → (if m = 0 then zq n kd al nc an (9 - i) (d, b2) else false) = zq n kd al nc an 9 (zanb c b n, zz0) → zV χ 4 ad zSH 0 0 54 [(0, .ref (ad 39)), (1, .int (zi ((b : Nat) : Int))), (2, .int (zi ((m : Nat) : Int))), (3, .int (zi ((i : Nat) : Int)))] [] (zup (zup (zup μ 39 (zu1 g 24 (7 : Int))) 47 q) 53 b2) := by
        refine zfor ?_
        intro i hi ih d b2 q m hv hag hm6 hQ
        refine z_iload_n K dX9_isQuiet_54 rfl ?_
        refine z_bipush K dX9_isQuiet_55 (by decide +kernel) ?_
        refine z_icmpge (tgt := 77) K dX9_isQuiet_57 (by decide) (by omega) ⟨by decide, by decide⟩ (fun h57 => ?_) (fun h57 => ?_)
        · refine z_iload_n K dX9_isQuiet_77 rfl ?_
          refine z_ifne (tgt := 85) K dX9_isQuiet_78 (by decide) (by omega) (fun h78 => ?_) (fun h78 => ?_)
          · refine z_iconst K dX9_isQuiet_85 ?_
            exact z_zreti K T rfl dX9_isQuiet_86 (Or.inl rfl) (by
                refine ⟨?_, q, b2, rfl⟩
                show _ = if zq n kd al nc an 9 (zanb c b n, zz0) = true then 1 else 0
                rw [← hQ, show 9 - i = 0 by omega]
                rw [if_neg (show ¬ m = 0 by omega)]; rfl)
          · refine z_iconst K dX9_isQuiet_81 ?_
            refine z_goto (tgt := 86) K dX9_isQuiet_82 (by decide) ?_
            exact z_zreti K T rfl dX9_isQuiet_86 (Or.inr rfl) (by
                refine ⟨?_, q, b2, rfl⟩
                show _ = if zq n kd al nc an 9 (zanb c b n, zz0) = true then 1 else 0
                rw [← hQ, show 9 - i = 0 by omega]
                rw [if_pos (show m = 0 by omega)]; rfl)
        · refine z_iload_n K dX9_isQuiet_60 rfl ?_
          refine z_aload_n K dX9_isQuiet_61 rfl ?_
          refine z_aload_n K dX9_isQuiet_62 rfl ?_
          refine z_get (k := 39) (v := .ref (ad 47)) K dX9_isQuiet_63 fl_X9_31 rfl rfl rfl ?_
          refine z_callVi K hl1 hg1 (kb := 39) (As := [.ref (ad 47)]) (rest := [.int (zi ((m : Nat) : Int))]) (cm_goDay_r la g0 ad (zup μ 39 (zu1 g 24 (7 : Int))) n nc 7 kd al wt an q d b2 hm9 hv hag rfl (by decide)) (by decide) lk_X9_155 cd_X9_goDay rfl rfl rfl rfl (Nat.le_of_ble_eq_true rfl) dX9_isQuiet_66 (fun r ν h66 => ?_)
          obtain ⟨hr, q2, hν, hag2⟩ := h66
          subst hν hr
          have hM : zdayM n kd al nc an (d, b2) ≤ n := (zdayA_ok hpk (s := (d, b2)) hv).2
          refine z_iadd K dX9_isQuiet_69 ?_
          rw [show (((m : Nat) : Int) + ((zdayM n kd al nc an (d, b2) : Nat) : Int)) = ((m + zdayM n kd al nc an (d, b2) : Nat) : Int) from (by omega)]
          refine z_istore_n (lv' := [(0, .ref (ad 39)), (1, .int (zi ((b : Nat) : Int))), (2, .int (zi ((m + zdayM n kd al nc an (d, b2) : Nat) : Int))), (3, .int (zi ((i : Nat) : Int)))]) K dX9_isQuiet_70 (by decide) rfl ?_
          refine z_iincN (lv' := [(0, .ref (ad 39)), (1, .int (zi ((b : Nat) : Int))), (2, .int (zi ((m + zdayM n kd al nc an (d, b2) : Nat) : Int))), (3, .int (zi ((i + 1 : Nat) : Int)))]) K dX9_isQuiet_71 rfl (by decide) rfl ?_
          refine z_goto (tgt := 54) K dX9_isQuiet_74 (by decide) ?_
          exact ih (i + 1) (by omega) (by omega) _ _ q2 (m + zdayM n kd al nc an (d, b2)) (zday_ok hpk (s := (d, b2)) hv) hag2 (by omega) (by
            rw [← hQ]
            by_cases h0 : m = 0
            · rw [if_pos h0, show 9 - i = (9 - (i + 1)) + 1 by omega, zq_s]
              by_cases h1 : 0 < zdayM n kd al nc an (d, b2)
              · rw [if_pos h1, if_neg (by omega)]
              · rw [if_neg h1, if_pos (by omega)]
            · rw [if_neg h0, if_neg (by omega)])
      exact L54 0 (by omega) d a q 0 (hd ▸ zanb_ok hn6 hw b n (Nat.le_refl _)) hag (by omega) (by rw [if_pos rfl, hd]; exact zq_fst n kd al nc an 9 _ _ rfl)
    · have hkp := zanb_keep c b l (12 + l) (Nat.le_refl _)
      rw [hd] at hkp
      have ag := hag.1 l (by omega)
      have agc := hg.1 l (by omega)
      have hbl := zbit_lt b l
      refine z_aload_n K dX9_isQuiet_14 rfl ?_
      refine z_get (k := 39) (v := .ref (ad 47)) K dX9_isQuiet_15 fl_X9_31 rfl rfl rfl ?_
      refine z_bipush K dX9_isQuiet_18 (by decide +kernel) ?_
      refine z_iload_n K dX9_isQuiet_20 rfl ?_
      refine z_iadd K dX9_isQuiet_21 ?_
      refine z_iload_n K dX9_isQuiet_22 rfl ?_
      refine z_iload_n K dX9_isQuiet_23 rfl ?_
      refine z_callSd K hl1 hg1 (As := [.int (zi ((b : Nat) : Int)), .int (zi ((l : Nat) : Int))]) (rest := [.int (zi ((6 : Int) + ((l : Nat) : Int))), .ref (ad 47)]) (cm_has la g0 ad (zup (zup (zup μ 39 (zu1 g 24 (7 : Int))) 47 q) 53 a) b l hb (by omega)) (by decide) lk_X9_144 cd_X9_has rfl rfl (Nat.le_of_ble_eq_true rfl) dX9_isQuiet_24 ?_
      show zV χ 4 ad zSH 0 0 27 [(0, .ref (ad 39)), (1, .int (zi ((b : Nat) : Int))), (2, .int (zi ((l : Nat) : Int)))] [.int (zi ((zbit b l : Nat) : Int)), .int (zi ((6 : Int) + ((l : Nat) : Int))), .ref (ad 47)] (zup (zup (zup μ 39 (zu1 g 24 (7 : Int))) 47 q) 53 a)
      refine z_ifeq (tgt := 34) K dX9_isQuiet_27 (by decide) (by omega) (fun h27 => ?_) (fun h27 => ?_)
      · refine z_aload_n K dX9_isQuiet_34 rfl ?_
        refine z_get (k := 39) (v := .ref (ad 46)) K dX9_isQuiet_35 fl_X9_28 rfl rfl rfl ?_
        refine z_bipush K dX9_isQuiet_38 (by decide +kernel) ?_
        refine z_iload_n K dX9_isQuiet_40 rfl ?_
        refine z_iadd K dX9_isQuiet_41 ?_
        refine z_iald (k := 46) (v := c (12 + l)) K dX9_isQuiet_42 (6 + l) rfl (by decide) (by omega) (by omega) agc.2.1 ?_
        refine z_iast (k := 47) K dX9_isQuiet_43 (6 + l) rfl (by decide) (by omega) (by omega) (z_mem (ν := zup (zup (zup μ 39 (zu1 g 24 (7 : Int))) 47 (zu1 q (6 + l) (c (12 + l)))) 53 a) (zup_sw _ (by decide) _ _ _) ?_)
        refine z_iincN (lv' := [(0, .ref (ad 39)), (1, .int (zi ((b : Nat) : Int))), (2, .int (zi ((l + 1 : Nat) : Int)))]) K dX9_isQuiet_44 rfl (by decide) rfl ?_
        refine z_goto (tgt := 6) K dX9_isQuiet_47 (by decide) ?_
        exact ih (l + 1) (by omega) (by omega) d _ (by rw [zanb_s, hd, if_pos (by omega)]) (zAg_same hag (6 + l) (by omega))
      · refine z_iconst K dX9_isQuiet_30 ?_
        refine z_goto (tgt := 43) K dX9_isQuiet_31 (by decide) ?_
        refine z_iast (k := 47) K dX9_isQuiet_43 (6 + l) rfl (by decide) (by omega) (by omega) (z_mem (ν := zup (zup (zup μ 39 (zu1 g 24 (7 : Int))) 47 (zu1 q (6 + l) (1 : Int))) 53 a) (zup_sw _ (by decide) _ _ _) ?_)
        refine z_iincN (lv' := [(0, .ref (ad 39)), (1, .int (zi ((b : Nat) : Int))), (2, .int (zi ((l + 1 : Nat) : Int)))]) K dX9_isQuiet_44 rfl (by decide) rfl ?_
        refine z_goto (tgt := 6) K dX9_isQuiet_47 (by decide) ?_
        exact ih (l + 1) (by omega) (by omega) (zu1 d (12 + l) 1) _ (by rw [zanb_s, hd, if_neg (by omega)]) (zAg_fate hn6 hag (by omega) 1)
  exact L6 0 (by omega) c (μ 46) rfl hg
