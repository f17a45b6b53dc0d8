theorem zMR_let {h u v : Nat → Int} {i i2 : Nat} {x y z : Int} {n nc : Nat} {gr : Int} {ho wt kd po an : Nat → Int} {g : Nat → Int} (hR : zMR h u v i (n, nc, gr, ho, wt, kd, po, an)) (g3 : g 3 = (i2 : Int)) (g10 : g 10 = ((n + 1 : Nat) : Int)) (g12 : g 12 = h 12) (g9 : g 9 = h 9) : zMR g (zu1 (zu1 (zu1 u (3 * n) x) (3 * n + 1) y) (3 * n + 2) z) v i2 (n + 1, nc, gr, zu1 ho n x, zu1 wt n y, zu1 kd n z, po, an) := by
  obtain ⟨h1, h2, h3, h4, h5, h6⟩ := hR
  refine ⟨g3, g10, g12.trans h3, g9.trans h4, fun l hl => ?_, h6⟩
  dsimp only at hl h5 ⊢
  by_cases e : l = n
  · subst e
    rw [zu1_eq, zu1_eq, zu1_eq, zu1_eq]
    exact ⟨by rw [zu1_ne _ _ (by omega), zu1_ne _ _ (by omega), zu1_eq], by rw [zu1_ne _ _ (by omega), zu1_eq], rfl⟩
  · rw [zu1_ne _ _ (show 3 * l ≠ 3 * n + 2 by omega), zu1_ne _ _ (show 3 * l ≠ 3 * n + 1 by omega), zu1_ne _ _ (show 3 * l ≠ 3 * n by omega), zu1_ne _ _ (show 3 * l + 1 ≠ 3 * n + 2 by omega), zu1_ne _ _ (show 3 * l + 1 ≠ 3 * n + 1 by omega), zu1_ne _ _ (show 3 * l + 1 ≠ 3 * n by omega), zu1_ne _ _ (show 3 * l + 2 ≠ 3 * n + 2 by omega), zu1_ne _ _ (show 3 * l + 2 ≠ 3 * n + 1 by omega), zu1_ne _ _ (show 3 * l + 2 ≠ 3 * n by omega), zu1_ne _ _ e, zu1_ne _ _ e, zu1_ne _ _ e]
    exact h5 l (by omega)
theorem zMR_clk {h u v : Nat → Int} {i i2 : Nat} {x y : Int} {n nc : Nat} {gr : Int} {ho wt kd po an : Nat → Int} {g : Nat → Int} (hR : zMR h u v i (n, nc, gr, ho, wt, kd, po, an)) (g3 : g 3 = (i2 : Int)) (g10 : g 10 = h 10) (g12 : g 12 = ((nc + 1 : Nat) : Int)) (g9 : g 9 = h 9) : zMR g u (zu1 (zu1 v (2 * nc) x) (2 * nc + 1) y) i2 (n, nc + 1, gr, ho, wt, kd, zu1 po nc x, zu1 an nc y) := by
  obtain ⟨h1, h2, h3, h4, h5, h6⟩ := hR
  refine ⟨g3, g10.trans h2, g12, g9.trans h4, h5, fun l hl => ?_⟩
  dsimp only at hl h6 ⊢
  by_cases e : l = nc
  · subst e
    rw [zu1_eq, zu1_eq, zu1_eq]
    exact ⟨by rw [zu1_ne _ _ (by omega), zu1_eq], rfl⟩
  · rw [zu1_ne _ _ (show 2 * l ≠ 2 * nc + 1 by omega), zu1_ne _ _ (show 2 * l ≠ 2 * nc by omega), zu1_ne _ _ (show 2 * l + 1 ≠ 2 * nc + 1 by omega), zu1_ne _ _ (show 2 * l + 1 ≠ 2 * nc by omega), zu1_ne _ _ e, zu1_ne _ _ e]
    exact h6 l (by omega)
set_option maxHeartbeats 4000000 in
set_option maxRecDepth 100000 in
theorem cm_readOneLetter (la : Launch) (g0 : zG) (ad : Nat → Nat) (μ : zMem) (h u v : Nat → Int) (p t : Nat) (ht : h 2 = (t : Int)) (hpt : p ≤ t) (ht48 : t ≤ 48) (hx : ∀ j, j < 48 → 0 ≤ μ 40 j ∧ μ 40 j ≤ 255) (P : zP8) (hok : ∀ j, j ≤ p → ¬ (zpre (μ 40) j).1 = -1) (hR : zMR h u v p P) (hz : zpre (μ 40) p = (3, P)) : zCon la g0 yX9_readOneLetter cX9_readOneLetter 4 (some .boolean) 2 ad zSH [.ref (ad 39)] (zup (zup (zup μ 39 h) 44 u) 45 v) (zPi (zRd μ h t p)) := by
  refine zCon_of (by decide +kernel) (Nat.le_of_ble_eq_true rfl) ?_
  intro χ K T hl1 hg1
  have K : zOk χ cX9_readOneLetter RX9 4 2 (some .boolean) := K
  obtain ⟨n, nc, gr, ho, wt, kd, po, an⟩ := P
  have hxp0 : p < t → 0 ≤ μ 40 (p) ∧ μ 40 (p) ≤ 255 := fun q => hx _ (by omega)
  have hxp1 : p + 1 < t → 0 ≤ μ 40 (p + 1) ∧ μ 40 (p + 1) ≤ 255 := fun q => hx _ (by omega)
  have hxp2 : p + 2 < t → 0 ≤ μ 40 (p + 2) ∧ μ 40 (p + 2) ≤ 255 := fun q => hx _ (by omega)
  have hPV := zPV_pre _ p hok
  rw [hz] at hPV
  obtain ⟨v1, v2, v3, v4, v5, v6, v7, v8, v9, v10, v11, v12⟩ := hPV
  dsimp only at v1 v2 v3 v4 v8 v9 v10
  have v3 := v3 (by omega)
  have hH := zH2_pre _ p hok
  rw [hz] at hH
  have hH := hH.1
  dsimp only at hH
  have hR5 : ∀ l, l < n → u (3 * l) = ho l ∧ u (3 * l + 1) = wt l ∧ u (3 * l + 2) = kd l := hR.2.2.2.2.1
  show zV χ 4 ad zSH 0 0 0 [(0, .ref (ad 39))] [] (zup (zup (zup μ 39 h) 44 u) 45 v)
  refine z_aload_n K dX9_readOneLetter_0 rfl ?_
  refine z_bipush K dX9_readOneLetter_1 (by decide +kernel) ?_
  refine z_iconst K dX9_readOneLetter_3 ?_
  refine z_bipush K dX9_readOneLetter_4 (by decide +kernel) ?_
  refine z_callVd K hl1 hg1 (kb := 39) (As := [.int (zi (97 : Int)), .int (zi (0 : Int)), .int (zi (11 : Int))]) (rest := []) (cm_fromd la g0 ad μ (h) u v (p) t hR.1 ht (by omega) ht48 hx (97 : Int) (0 : Int) (11 : Int) (by omega) ⟨by omega, by omega⟩ ⟨by omega, by omega⟩) (by decide) lk_X9_84 cd_X9_from rfl rfl rfl rfl (Nat.le_of_ble_eq_true rfl) dX9_readOneLetter_6 ?_
  show zV χ 4 ad zSH 0 0 9 [(0, .ref (ad 39))] [.int (zi (if (p < t ∧ (0 : Int) ≤ μ 40 (p) - (97 : Int) ∧ μ 40 (p) - (97 : Int) ≤ (11 : Int)) then μ 40 (p) - (97 : Int) else -9))] (zup (zup (zup μ 39 (if (p < t ∧ (0 : Int) ≤ μ 40 (p) - (97 : Int) ∧ μ 40 (p) - (97 : Int) ≤ (11 : Int)) then zu1 (h) 3 ((p + 1 : Nat) : Int) else h)) 44 u) 45 v)
  refine z_istore_n (lv' := [(0, .ref (ad 39)), (1, .int (zi (if (p < t ∧ (0 : Int) ≤ μ 40 (p) - (97 : Int) ∧ μ 40 (p) - (97 : Int) ≤ (11 : Int)) then μ 40 (p) - (97 : Int) else -9)))]) K dX9_readOneLetter_9 (by decide) rfl ?_
  refine z_iload_n K dX9_readOneLetter_10 rfl ?_
  refine z_bipush K dX9_readOneLetter_11 (by decide +kernel) ?_
  refine z_icmpne (tgt := 18) K dX9_readOneLetter_13 (by decide) (by omega) ⟨by decide, by decide⟩ (fun h13 => ?_) (fun h13 => ?_)
  · have hC0 : (p < t ∧ (0 : Int) ≤ μ 40 (p) - (97 : Int) ∧ μ 40 (p) - (97 : Int) ≤ (11 : Int)) := by omega
    rw [if_pos hC0, if_pos hC0]
    show zV χ 4 ad zSH 0 0 18 [(0, .ref (ad 39)), (1, .int (zi (μ 40 (p) - (97 : Int))))] [] (zup (zup (zup μ 39 (zu1 h 3 ((p + 1 : Nat) : Int))) 44 u) 45 v)
    have hzr := zrin_hi (μ 40 (p) - (97 : Int)) n (fun l hl => (hR5 l hl).1)
    have hh2 := hH (μ 40 (p) - (97 : Int))
    refine z_aload_n K dX9_readOneLetter_18 rfl ?_
    refine z_iload_n K dX9_readOneLetter_19 rfl ?_
    refine z_callVd K hl1 hg1 (kb := 39) (As := [.int (zi (μ 40 (p) - (97 : Int)))]) (rest := []) (cm_readIn la g0 ad (zup (zup (zup μ 39 (zu1 h 3 ((p + 1 : Nat) : Int))) 44 u) 45 v) n hR.2.1 (by omega) (fun l hl => by have := hR5 l hl; have := v8 l (Or.inl hl); show 0 ≤ u (3 * l) ∧ u (3 * l) ≤ 11; omega) (μ 40 (p) - (97 : Int)) (by omega)) (by decide) lk_X9_88 cd_X9_readIn rfl rfl rfl rfl (Nat.le_of_ble_eq_true rfl) dX9_readOneLetter_20 ?_
    show zV χ 4 ad zSH 0 0 23 [(0, .ref (ad 39)), (1, .int (zi (μ 40 (p) - (97 : Int))))] [.int (zi ((zrin u (μ 40 (p) - (97 : Int)) n : Nat) : Int))] (zup (zup (zup μ 39 (zu1 h 3 ((p + 1 : Nat) : Int))) 44 u) 45 v)
    refine z_iconst K dX9_readOneLetter_23 ?_
    refine z_icmpne (tgt := 39) K dX9_readOneLetter_24 (by decide) (by omega) ⟨by decide, by decide⟩ (fun h24 => ?_) (fun h24 => ?_)
    · have hs1 : zstep 3 (n, nc, gr, ho, wt, kd, po, an) (μ 40 p) = (4, (n, nc, gr, zu1 ho n (μ 40 p - 97), wt, kd, po, an)) := by
        rw [zstep_3, if_pos ⟨by omega, by dsimp only; omega⟩]
      obtain ⟨hz1, hok1⟩ := zok_s hz hok hs1 (by decide)
      refine z_aload_n K dX9_readOneLetter_39 rfl ?_
      refine z_bipush K dX9_readOneLetter_40 (by decide +kernel) ?_
      refine z_iconst K dX9_readOneLetter_42 ?_
      refine z_bipush K dX9_readOneLetter_43 (by decide +kernel) ?_
      refine z_callVd K hl1 hg1 (kb := 39) (As := [.int (zi (48 : Int)), .int (zi (1 : Int)), .int (zi (9 : Int))]) (rest := []) (cm_fromd la g0 ad μ (zu1 h 3 ((p + 1 : Nat) : Int)) u v (p + 1) t (zu1_eq _ _ _) ht (by omega) ht48 hx (48 : Int) (1 : Int) (9 : Int) (by omega) ⟨by omega, by omega⟩ ⟨by omega, by omega⟩) (by decide) lk_X9_84 cd_X9_from rfl rfl rfl rfl (Nat.le_of_ble_eq_true rfl) dX9_readOneLetter_45 ?_
      show zV χ 4 ad zSH 0 0 48 [(0, .ref (ad 39)), (1, .int (zi (μ 40 (p) - (97 : Int))))] [.int (zi (if (p + 1 < t ∧ (1 : Int) ≤ μ 40 (p + 1) - (48 : Int) ∧ μ 40 (p + 1) - (48 : Int) ≤ (9 : Int)) then μ 40 (p + 1) - (48 : Int) else -9))] (zup (zup (zup μ 39 (if (p + 1 < t ∧ (1 : Int) ≤ μ 40 (p + 1) - (48 : Int) ∧ μ 40 (p + 1) - (48 : Int) ≤ (9 : Int)) then zu1 (zu1 h 3 ((p + 1 : Nat) : Int)) 3 ((p + 1 + 1 : Nat) : Int) else (zu1 h 3 ((p + 1 : Nat) : Int)))) 44 u) 45 v)
      refine z_istore_n (lv' := [(0, .ref (ad 39)), (1, .int (zi (μ 40 (p) - (97 : Int)))), (2, .int (zi (if (p + 1 < t ∧ (1 : Int) ≤ μ 40 (p + 1) - (48 : Int) ∧ μ 40 (p + 1) - (48 : Int) ≤ (9 : Int)) then μ 40 (p + 1) - (48 : Int) else -9)))]) K dX9_readOneLetter_48 (by decide) rfl ?_
      refine z_iload_n K dX9_readOneLetter_49 rfl ?_
      refine z_bipush K dX9_readOneLetter_50 (by decide +kernel) ?_
      refine z_icmpne (tgt := 60) K dX9_readOneLetter_52 (by decide) (by omega) ⟨by decide, by decide⟩ (fun h52 => ?_) (fun h52 => ?_)
      · have hC1 : (p + 1 < t ∧ (1 : Int) ≤ μ 40 (p + 1) - (48 : Int) ∧ μ 40 (p + 1) - (48 : Int) ≤ (9 : Int)) := by omega
        rw [if_pos hC1, if_pos hC1]
        show zV χ 4 ad zSH 0 0 60 [(0, .ref (ad 39)), (1, .int (zi (μ 40 (p) - (97 : Int)))), (2, .int (zi (μ 40 (p + 1) - (48 : Int))))] [] (zup (zup (zup μ 39 (zu1 (zu1 h 3 ((p + 1 : Nat) : Int)) 3 ((p + 1 + 1 : Nat) : Int))) 44 u) 45 v)
        have hs2 : zstep 4 (n, nc, gr, zu1 ho n (μ 40 p - 97), wt, kd, po, an) (μ 40 (p + 1)) = (5, (n, nc, gr, zu1 ho n (μ 40 p - 97), zu1 wt n (μ 40 (p + 1) - 48), kd, po, an)) := by
          rw [zstep_4, if_pos ⟨by omega, by omega⟩]
        obtain ⟨hz2, hok2⟩ := zok_s hz1 hok1 hs2 (by decide)
        refine z_aload_n K dX9_readOneLetter_60 rfl ?_
        refine z_bipush K dX9_readOneLetter_61 (by decide +kernel) ?_
        refine z_iconst K dX9_readOneLetter_63 ?_
        refine z_iconst K dX9_readOneLetter_64 ?_
        refine z_callVd K hl1 hg1 (kb := 39) (As := [.int (zi (48 : Int)), .int (zi (0 : Int)), .int (zi (3 : Int))]) (rest := []) (cm_fromd la g0 ad μ (zu1 (zu1 h 3 ((p + 1 : Nat) : Int)) 3 ((p + 1 + 1 : Nat) : Int)) u v (p + 2) t (zu1_eq _ _ _) ht (by omega) ht48 hx (48 : Int) (0 : Int) (3 : Int) (by omega) ⟨by omega, by omega⟩ ⟨by omega, by omega⟩) (by decide) lk_X9_84 cd_X9_from rfl rfl rfl rfl (Nat.le_of_ble_eq_true rfl) dX9_readOneLetter_65 ?_
        show zV χ 4 ad zSH 0 0 68 [(0, .ref (ad 39)), (1, .int (zi (μ 40 (p) - (97 : Int)))), (2, .int (zi (μ 40 (p + 1) - (48 : Int))))] [.int (zi (if (p + 2 < t ∧ (0 : Int) ≤ μ 40 (p + 2) - (48 : Int) ∧ μ 40 (p + 2) - (48 : Int) ≤ (3 : Int)) then μ 40 (p + 2) - (48 : Int) else -9))] (zup (zup (zup μ 39 (if (p + 2 < t ∧ (0 : Int) ≤ μ 40 (p + 2) - (48 : Int) ∧ μ 40 (p + 2) - (48 : Int) ≤ (3 : Int)) then zu1 (zu1 (zu1 h 3 ((p + 1 : Nat) : Int)) 3 ((p + 1 + 1 : Nat) : Int)) 3 ((p + 2 + 1 : Nat) : Int) else (zu1 (zu1 h 3 ((p + 1 : Nat) : Int)) 3 ((p + 1 + 1 : Nat) : Int)))) 44 u) 45 v)
        refine z_istore_n (lv' := [(0, .ref (ad 39)), (1, .int (zi (μ 40 (p) - (97 : Int)))), (2, .int (zi (μ 40 (p + 1) - (48 : Int)))), (3, .int (zi (if (p + 2 < t ∧ (0 : Int) ≤ μ 40 (p + 2) - (48 : Int) ∧ μ 40 (p + 2) - (48 : Int) ≤ (3 : Int)) then μ 40 (p + 2) - (48 : Int) else -9)))]) K dX9_readOneLetter_68 (by decide) rfl ?_
        refine z_iload_n K dX9_readOneLetter_69 rfl ?_
        refine z_bipush K dX9_readOneLetter_70 (by decide +kernel) ?_
        refine z_icmpne (tgt := 77) K dX9_readOneLetter_72 (by decide) (by omega) ⟨by decide, by decide⟩ (fun h72 => ?_) (fun h72 => ?_)
        · have hC2 : (p + 2 < t ∧ (0 : Int) ≤ μ 40 (p + 2) - (48 : Int) ∧ μ 40 (p + 2) - (48 : Int) ≤ (3 : Int)) := by omega
          rw [if_pos hC2, if_pos hC2]
          show zV χ 4 ad zSH 0 0 77 [(0, .ref (ad 39)), (1, .int (zi (μ 40 (p) - (97 : Int)))), (2, .int (zi (μ 40 (p + 1) - (48 : Int)))), (3, .int (zi (μ 40 (p + 2) - (48 : Int))))] [] (zup (zup (zup μ 39 (zu1 (zu1 (zu1 h 3 ((p + 1 : Nat) : Int)) 3 ((p + 1 + 1 : Nat) : Int)) 3 ((p + 2 + 1 : Nat) : Int))) 44 u) 45 v)
          have hs3 : zstep 5 (n, nc, gr, zu1 ho n (μ 40 p - 97), zu1 wt n (μ 40 (p + 1) - 48), kd, po, an) (μ 40 (p + 2)) = (2, (n + 1, nc, gr, zu1 ho n (μ 40 p - 97), zu1 wt n (μ 40 (p + 1) - 48), zu1 kd n (μ 40 (p + 2) - 48), po, an)) := by
            rw [zstep_5, if_pos ⟨by omega, by omega⟩]
          obtain ⟨hz3, hok3⟩ := zok_s hz2 hok2 hs3 (by decide)
          refine z_aload_n K dX9_readOneLetter_77 rfl ?_
          refine z_get (k := 39) (v := .ref (ad 44)) K dX9_readOneLetter_78 fl_X9_22 rfl rfl rfl ?_
          refine z_iconst K dX9_readOneLetter_81 ?_
          refine z_aload_n K dX9_readOneLetter_82 rfl ?_
          refine z_get (k := 39) (v := .int (zi ((zu1 (zu1 (zu1 h 3 ((p + 1 : Nat) : Int)) 3 ((p + 1 + 1 : Nat) : Int)) 3 ((p + 2 + 1 : Nat) : Int)) 10))) K dX9_readOneLetter_83 fl_X9_81 rfl rfl rfl ?_
          rw [show ((zu1 (zu1 (zu1 h 3 ((p + 1 : Nat) : Int)) 3 ((p + 1 + 1 : Nat) : Int)) 3 ((p + 2 + 1 : Nat) : Int)) 10) = ((n : Nat) : Int) from hR.2.1]
          refine z_imul K dX9_readOneLetter_86 ?_
          refine z_iload_n K dX9_readOneLetter_87 rfl ?_
          refine z_iast (k := 44) K dX9_readOneLetter_88 (3 * n) rfl (by decide) (by omega) (by omega) (z_mem (ν := zup (zup (zup μ 39 (zu1 (zu1 (zu1 h 3 ((p + 1 : Nat) : Int)) 3 ((p + 1 + 1 : Nat) : Int)) 3 ((p + 2 + 1 : Nat) : Int))) 44 (zu1 u (3 * n) (μ 40 (p) - (97 : Int)))) 45 v) (zup_sw _ (by decide) _ _ _) ?_)
          refine z_aload_n K dX9_readOneLetter_89 rfl ?_
          refine z_get (k := 39) (v := .ref (ad 44)) K dX9_readOneLetter_90 fl_X9_22 rfl rfl rfl ?_
          refine z_iconst K dX9_readOneLetter_93 ?_
          refine z_aload_n K dX9_readOneLetter_94 rfl ?_
          refine z_get (k := 39) (v := .int (zi ((zu1 (zu1 (zu1 h 3 ((p + 1 : Nat) : Int)) 3 ((p + 1 + 1 : Nat) : Int)) 3 ((p + 2 + 1 : Nat) : Int)) 10))) K dX9_readOneLetter_95 fl_X9_81 rfl rfl rfl ?_
          rw [show ((zu1 (zu1 (zu1 h 3 ((p + 1 : Nat) : Int)) 3 ((p + 1 + 1 : Nat) : Int)) 3 ((p + 2 + 1 : Nat) : Int)) 10) = ((n : Nat) : Int) from hR.2.1]
          refine z_imul K dX9_readOneLetter_98 ?_
          refine z_iconst K dX9_readOneLetter_99 ?_
          refine z_iadd K dX9_readOneLetter_100 ?_
          refine z_iload_n K dX9_readOneLetter_101 rfl ?_
          refine z_iast (k := 44) K dX9_readOneLetter_102 (3 * n + 1) rfl (by decide) (by omega) (by omega) (z_mem (ν := zup (zup (zup μ 39 (zu1 (zu1 (zu1 h 3 ((p + 1 : Nat) : Int)) 3 ((p + 1 + 1 : Nat) : Int)) 3 ((p + 2 + 1 : Nat) : Int))) 44 (zu1 (zu1 u (3 * n) (μ 40 (p) - (97 : Int))) (3 * n + 1) (μ 40 (p + 1) - (48 : Int)))) 45 v) (zup_sw _ (by decide) _ _ _) ?_)
          refine z_aload_n K dX9_readOneLetter_103 rfl ?_
          refine z_get (k := 39) (v := .ref (ad 44)) K dX9_readOneLetter_104 fl_X9_22 rfl rfl rfl ?_
          refine z_iconst K dX9_readOneLetter_107 ?_
          refine z_aload_n K dX9_readOneLetter_108 rfl ?_
          refine z_get (k := 39) (v := .int (zi ((zu1 (zu1 (zu1 h 3 ((p + 1 : Nat) : Int)) 3 ((p + 1 + 1 : Nat) : Int)) 3 ((p + 2 + 1 : Nat) : Int)) 10))) K dX9_readOneLetter_109 fl_X9_81 rfl rfl rfl ?_
          rw [show ((zu1 (zu1 (zu1 h 3 ((p + 1 : Nat) : Int)) 3 ((p + 1 + 1 : Nat) : Int)) 3 ((p + 2 + 1 : Nat) : Int)) 10) = ((n : Nat) : Int) from hR.2.1]
          refine z_imul K dX9_readOneLetter_112 ?_
          refine z_iconst K dX9_readOneLetter_113 ?_
          refine z_iadd K dX9_readOneLetter_114 ?_
          refine z_iload_n K dX9_readOneLetter_115 rfl ?_
          refine z_iast (k := 44) K dX9_readOneLetter_116 (3 * n + 2) rfl (by decide) (by omega) (by omega) (z_mem (ν := zup (zup (zup μ 39 (zu1 (zu1 (zu1 h 3 ((p + 1 : Nat) : Int)) 3 ((p + 1 + 1 : Nat) : Int)) 3 ((p + 2 + 1 : Nat) : Int))) 44 (zu1 (zu1 (zu1 u (3 * n) (μ 40 (p) - (97 : Int))) (3 * n + 1) (μ 40 (p + 1) - (48 : Int))) (3 * n + 2) (μ 40 (p + 2) - (48 : Int)))) 45 v) (zup_sw _ (by decide) _ _ _) ?_)
          refine z_aload_n K dX9_readOneLetter_117 rfl ?_
          refine z_dup K dX9_readOneLetter_118 rfl ?_
          refine z_get (k := 39) (v := .int (zi ((zu1 (zu1 (zu1 h 3 ((p + 1 : Nat) : Int)) 3 ((p + 1 + 1 : Nat) : Int)) 3 ((p + 2 + 1 : Nat) : Int)) 10))) K dX9_readOneLetter_119 fl_X9_81 rfl rfl rfl ?_
          rw [show ((zu1 (zu1 (zu1 h 3 ((p + 1 : Nat) : Int)) 3 ((p + 1 + 1 : Nat) : Int)) 3 ((p + 2 + 1 : Nat) : Int)) 10) = ((n : Nat) : Int) from hR.2.1]
          refine z_iconst K dX9_readOneLetter_122 ?_
          refine z_iadd K dX9_readOneLetter_123 ?_
          rw [show (((n : Nat) : Int) + (1 : Int)) = ((n + 1 : Nat) : Int) from (by omega)]
          refine z_puti (k := 39) K dX9_readOneLetter_124 fp_X9_81 rfl rfl (z_mem (ν := zup (zup (zup μ 39 (zu1 (zu1 (zu1 (zu1 h 3 ((p + 1 : Nat) : Int)) 3 ((p + 1 + 1 : Nat) : Int)) 3 ((p + 2 + 1 : Nat) : Int)) 10 ((n + 1 : Nat) : Int))) 44 (zu1 (zu1 (zu1 u (3 * n) (μ 40 (p) - (97 : Int))) (3 * n + 1) (μ 40 (p + 1) - (48 : Int))) (3 * n + 2) (μ 40 (p + 2) - (48 : Int)))) 45 v) (zup_sw3 _ (by decide) (by decide) _ _ _ _) ?_)
          refine z_iconst K dX9_readOneLetter_127 ?_
          exact z_zreti K T rfl dX9_readOneLetter_128 (Or.inr rfl) ⟨_, _, v, p + 3, rfl, (fun j a1 a2 _ => by rw [zu1_ne _ _ a2, zu1_ne _ _ a1, zu1_ne _ _ a1, zu1_ne _ _ a1]), rfl, Or.inl ⟨rfl, by omega, by omega, by rw [show p + 3 = p + 2 + 1 from rfl, hz3], hok3, by rw [show zpre (μ 40) (p + 3) = _ from hz3]; exact zMR_let hR rfl rfl rfl rfl⟩⟩
        · have hC2 : ¬ (p + 2 < t ∧ (0 : Int) ≤ μ 40 (p + 2) - (48 : Int) ∧ μ 40 (p + 2) - (48 : Int) ≤ (3 : Int)) := by omega
          rw [if_neg hC2, if_neg hC2]
          refine z_iconst K dX9_readOneLetter_75 ?_
          exact z_zreti K T rfl dX9_readOneLetter_76 (Or.inl rfl) ⟨_, u, v, p + 2, rfl, (fun j a1 _ _ => by rw [zu1_ne _ _ a1, zu1_ne _ _ a1]), zu1_eq _ _ _, Or.inr ⟨rfl, zFt_of hz2 (by omega) (by decide) hok2 (fun q => by rw [zstep_5, if_neg (by omega)])⟩⟩
      · have hC1 : ¬ (p + 1 < t ∧ (1 : Int) ≤ μ 40 (p + 1) - (48 : Int) ∧ μ 40 (p + 1) - (48 : Int) ≤ (9 : Int)) := by omega
        rw [if_neg hC1, if_neg hC1]
        refine z_bipush K dX9_readOneLetter_55 (by decide +kernel) ?_
        refine z_goto (tgt := 68) K dX9_readOneLetter_57 (by decide) ?_
        refine z_istore_n (lv' := [(0, .ref (ad 39)), (1, .int (zi (μ 40 (p) - (97 : Int)))), (2, .int (zi (-9))), (3, .int (zi (-9 : Int)))]) K dX9_readOneLetter_68 (by decide) rfl ?_
        refine z_iload_n K dX9_readOneLetter_69 rfl ?_
        refine z_bipush K dX9_readOneLetter_70 (by decide +kernel) ?_
        refine z_icmpne (tgt := 77) K dX9_readOneLetter_72 (by decide) ⟨by decide, by decide⟩ ⟨by decide, by decide⟩ (fun h72 => absurd h72 (by omega)) (fun h72 => ?_)
        refine z_iconst K dX9_readOneLetter_75 ?_
        exact z_zreti K T rfl dX9_readOneLetter_76 (Or.inl rfl) ⟨_, u, v, p + 1, rfl, (fun j a1 _ _ => zu1_ne _ _ a1), zu1_eq _ _ _, Or.inr ⟨rfl, zFt_of hz1 (by omega) (by decide) hok1 (fun q => by rw [zstep_4, if_neg (by omega)])⟩⟩
    · refine z_aload_n K dX9_readOneLetter_27 rfl ?_
      refine z_dup K dX9_readOneLetter_28 rfl ?_
      refine z_get (k := 39) (v := .int (zi ((zu1 h 3 ((p + 1 : Nat) : Int)) 3))) K dX9_readOneLetter_29 fl_X9_78 rfl rfl rfl ?_
      refine z_iconst K dX9_readOneLetter_32 ?_
      refine z_isub K dX9_readOneLetter_33 ?_
      rw [show (((zu1 h 3 ((p + 1 : Nat) : Int)) 3) - (1 : Int)) = ((p : Nat) : Int) from (by rw [zu1_eq]; omega)]
      refine z_puti (k := 39) K dX9_readOneLetter_34 fp_X9_78 rfl rfl (z_mem (ν := zup (zup (zup μ 39 (zu1 (zu1 h 3 ((p + 1 : Nat) : Int)) 3 ((p : Nat) : Int))) 44 u) 45 v) (zup_sw3 _ (by decide) (by decide) _ _ _ _) ?_)
      refine z_iconst K dX9_readOneLetter_37 ?_
      exact z_zreti K T rfl dX9_readOneLetter_38 (Or.inl rfl) ⟨_, u, v, p, rfl, (fun j a1 _ _ => by rw [zu1_ne _ _ a1, zu1_ne _ _ a1]), zu1_eq _ _ _, Or.inr ⟨rfl, zFt_of hz hpt (by decide) hok (fun q => by rw [zstep_3, if_neg (by dsimp only; omega)])⟩⟩
  · have hC0 : ¬ (p < t ∧ (0 : Int) ≤ μ 40 (p) - (97 : Int) ∧ μ 40 (p) - (97 : Int) ≤ (11 : Int)) := by omega
    rw [if_neg hC0, if_neg hC0]
    refine z_iconst K dX9_readOneLetter_16 ?_
    exact z_zreti K T rfl dX9_readOneLetter_17 (Or.inl rfl) ⟨h, u, v, p, rfl, (fun j a1 _ _ => by repeat (first | rfl | rw [zu1_ne _ _ a1])), hR.1, Or.inr ⟨rfl, zFt_of hz hpt (by decide) hok (fun q => by rw [zstep_3, if_neg (by omega)])⟩⟩
set_option maxHeartbeats 4000000 in
set_option maxRecDepth 100000 in
theorem cm_readOneClerk (la : Launch) (g0 : zG) (ad : Nat → Nat) (μ : zMem) (h u v : Nat → Int) (p t : Nat) (ht : h 2 = (t : Int)) (hpt : p ≤ t) (ht48 : t ≤ 48) (hx : ∀ j, j < 48 → 0 ≤ μ 40 j ∧ μ 40 j ≤ 255) (P : zP8) (hok : ∀ j, j ≤ p → ¬ (zpre (μ 40) j).1 = -1) (hR : zMR h u v p P) (hz : zpre (μ 40) p = (6, P)) : zCon la g0 yX9_readOneClerk cX9_readOneClerk 3 (some .boolean) 2 ad zSH [.ref (ad 39)] (zup (zup (zup μ 39 h) 44 u) 45 v) (zPi (zRd μ h t p)) := by
  refine zCon_of (by decide +kernel) (Nat.le_of_ble_eq_true rfl) ?_
  intro χ K T hl1 hg1
  have K : zOk χ cX9_readOneClerk RX9 3 2 (some .boolean) := K
  obtain ⟨n, nc, gr, ho, wt, kd, po, an⟩ := P
  have hxp0 : p < t → 0 ≤ μ 40 (p) ∧ μ 40 (p) ≤ 255 := fun q => hx _ (by omega)
  have hxp1 : p + 1 < t → 0 ≤ μ 40 (p + 1) ∧ μ 40 (p + 1) ≤ 255 := fun q => hx _ (by omega)
  have hxp2 : p + 2 < t → 0 ≤ μ 40 (p + 2) ∧ μ 40 (p + 2) ≤ 255 := fun q => hx _ (by omega)
  have hPV := zPV_pre _ p hok
  rw [hz] at hPV
  obtain ⟨v1, v2, v3, v4, v5, v6, v7, v8, v9, v10, v11, v12⟩ := hPV
  dsimp only at v1 v2 v3 v4
  have v4 := v4 (by omega)
  show zV χ 3 ad zSH 0 0 0 [(0, .ref (ad 39))] [] (zup (zup (zup μ 39 h) 44 u) 45 v)
  refine z_aload_n K dX9_readOneClerk_0 rfl ?_
  refine z_bipush K dX9_readOneClerk_1 (by decide +kernel) ?_
  refine z_iconst K dX9_readOneClerk_3 ?_
  refine z_iconst K dX9_readOneClerk_4 ?_
  refine z_callVd K hl1 hg1 (kb := 39) (As := [.int (zi (48 : Int)), .int (zi (0 : Int)), .int (zi (2 : Int))]) (rest := []) (cm_fromd la g0 ad μ (h) u v (p) t hR.1 ht (by omega) ht48 hx (48 : Int) (0 : Int) (2 : Int) (by omega) ⟨by omega, by omega⟩ ⟨by omega, by omega⟩) (by decide) lk_X9_84 cd_X9_from rfl rfl rfl rfl (Nat.le_of_ble_eq_true rfl) dX9_readOneClerk_5 ?_
  show zV χ 3 ad zSH 0 0 8 [(0, .ref (ad 39))] [.int (zi (if (p < t ∧ (0 : Int) ≤ μ 40 (p) - (48 : Int) ∧ μ 40 (p) - (48 : Int) ≤ (2 : Int)) then μ 40 (p) - (48 : Int) else -9))] (zup (zup (zup μ 39 (if (p < t ∧ (0 : Int) ≤ μ 40 (p) - (48 : Int) ∧ μ 40 (p) - (48 : Int) ≤ (2 : Int)) then zu1 (h) 3 ((p + 1 : Nat) : Int) else h)) 44 u) 45 v)
  refine z_istore_n (lv' := [(0, .ref (ad 39)), (1, .int (zi (if (p < t ∧ (0 : Int) ≤ μ 40 (p) - (48 : Int) ∧ μ 40 (p) - (48 : Int) ≤ (2 : Int)) then μ 40 (p) - (48 : Int) else -9)))]) K dX9_readOneClerk_8 (by decide) rfl ?_
  refine z_iload_n K dX9_readOneClerk_9 rfl ?_
  refine z_bipush K dX9_readOneClerk_10 (by decide +kernel) ?_
  refine z_icmpne (tgt := 20) K dX9_readOneClerk_12 (by decide) (by omega) ⟨by decide, by decide⟩ (fun h12 => ?_) (fun h12 => ?_)
  · have hC0 : (p < t ∧ (0 : Int) ≤ μ 40 (p) - (48 : Int) ∧ μ 40 (p) - (48 : Int) ≤ (2 : Int)) := by omega
    rw [if_pos hC0, if_pos hC0]
    show zV χ 3 ad zSH 0 0 20 [(0, .ref (ad 39)), (1, .int (zi (μ 40 (p) - (48 : Int))))] [] (zup (zup (zup μ 39 (zu1 h 3 ((p + 1 : Nat) : Int))) 44 u) 45 v)
    have hs1 : zstep 6 (n, nc, gr, ho, wt, kd, po, an) (μ 40 p) = (7, (n, nc, gr, ho, wt, kd, zu1 po nc (μ 40 p - 48), an)) := by
      rw [zstep_6, if_pos ⟨by omega, by omega⟩]
    obtain ⟨hz1, hok1⟩ := zok_s hz hok hs1 (by decide)
    refine z_aload_n K dX9_readOneClerk_20 rfl ?_
    refine z_bipush K dX9_readOneClerk_21 (by decide +kernel) ?_
    refine z_iconst K dX9_readOneClerk_23 ?_
    refine z_iconst K dX9_readOneClerk_24 ?_
    refine z_callVd K hl1 hg1 (kb := 39) (As := [.int (zi (48 : Int)), .int (zi (1 : Int)), .int (zi (3 : Int))]) (rest := []) (cm_fromd la g0 ad μ (zu1 h 3 ((p + 1 : Nat) : Int)) u v (p + 1) t (zu1_eq _ _ _) ht (by omega) ht48 hx (48 : Int) (1 : Int) (3 : Int) (by omega) ⟨by omega, by omega⟩ ⟨by omega, by omega⟩) (by decide) lk_X9_84 cd_X9_from rfl rfl rfl rfl (Nat.le_of_ble_eq_true rfl) dX9_readOneClerk_25 ?_
    show zV χ 3 ad zSH 0 0 28 [(0, .ref (ad 39)), (1, .int (zi (μ 40 (p) - (48 : Int))))] [.int (zi (if (p + 1 < t ∧ (1 : Int) ≤ μ 40 (p + 1) - (48 : Int) ∧ μ 40 (p + 1) - (48 : Int) ≤ (3 : Int)) then μ 40 (p + 1) - (48 : Int) else -9))] (zup (zup (zup μ 39 (if (p + 1 < t ∧ (1 : Int) ≤ μ 40 (p + 1) - (48 : Int) ∧ μ 40 (p + 1) - (48 : Int) ≤ (3 : Int)) then zu1 (zu1 h 3 ((p + 1 : Nat) : Int)) 3 ((p + 1 + 1 : Nat) : Int) else (zu1 h 3 ((p + 1 : Nat) : Int)))) 44 u) 45 v)
    refine z_istore_n (lv' := [(0, .ref (ad 39)), (1, .int (zi (μ 40 (p) - (48 : Int)))), (2, .int (zi (if (p + 1 < t ∧ (1 : Int) ≤ μ 40 (p + 1) - (48 : Int) ∧ μ 40 (p + 1) - (48 : Int) ≤ (3 : Int)) then μ 40 (p + 1) - (48 : Int) else -9)))]) K dX9_readOneClerk_28 (by decide) rfl ?_
    refine z_iload_n K dX9_readOneClerk_29 rfl ?_
    refine z_bipush K dX9_readOneClerk_30 (by decide +kernel) ?_
    refine z_icmpne (tgt := 37) K dX9_readOneClerk_32 (by decide) (by omega) ⟨by decide, by decide⟩ (fun h32 => ?_) (fun h32 => ?_)
    · have hC1 : (p + 1 < t ∧ (1 : Int) ≤ μ 40 (p + 1) - (48 : Int) ∧ μ 40 (p + 1) - (48 : Int) ≤ (3 : Int)) := by omega
      rw [if_pos hC1, if_pos hC1]
      show zV χ 3 ad zSH 0 0 37 [(0, .ref (ad 39)), (1, .int (zi (μ 40 (p) - (48 : Int)))), (2, .int (zi (μ 40 (p + 1) - (48 : Int))))] [] (zup (zup (zup μ 39 (zu1 (zu1 h 3 ((p + 1 : Nat) : Int)) 3 ((p + 1 + 1 : Nat) : Int))) 44 u) 45 v)
      have hs2 : zstep 7 (n, nc, gr, ho, wt, kd, zu1 po nc (μ 40 p - 48), an) (μ 40 (p + 1)) = (2, (n, nc + 1, gr, ho, wt, kd, zu1 po nc (μ 40 p - 48), zu1 an nc (μ 40 (p + 1) - 48))) := by
        rw [zstep_7, if_pos ⟨by omega, by omega⟩]
      obtain ⟨hz2, hok2⟩ := zok_s hz1 hok1 hs2 (by decide)
      refine z_aload_n K dX9_readOneClerk_37 rfl ?_
      refine z_get (k := 39) (v := .ref (ad 45)) K dX9_readOneClerk_38 fl_X9_25 rfl rfl rfl ?_
      refine z_iconst K dX9_readOneClerk_41 ?_
      refine z_aload_n K dX9_readOneClerk_42 rfl ?_
      refine z_get (k := 39) (v := .int (zi ((zu1 (zu1 h 3 ((p + 1 : Nat) : Int)) 3 ((p + 1 + 1 : Nat) : Int)) 12))) K dX9_readOneClerk_43 fl_X9_92 rfl rfl rfl ?_
      rw [show ((zu1 (zu1 h 3 ((p + 1 : Nat) : Int)) 3 ((p + 1 + 1 : Nat) : Int)) 12) = ((nc : Nat) : Int) from hR.2.2.1]
      refine z_imul K dX9_readOneClerk_46 ?_
      refine z_iload_n K dX9_readOneClerk_47 rfl ?_
      refine z_iast (k := 45) K dX9_readOneClerk_48 (2 * nc) rfl (by decide) (by omega) (by omega) (z_mem (ν := zup (zup (zup μ 39 (zu1 (zu1 h 3 ((p + 1 : Nat) : Int)) 3 ((p + 1 + 1 : Nat) : Int))) 44 u) 45 (zu1 v (2 * nc) (μ 40 (p) - (48 : Int)))) (zup_same _ _ _ _) ?_)
      refine z_aload_n K dX9_readOneClerk_49 rfl ?_
      refine z_get (k := 39) (v := .ref (ad 45)) K dX9_readOneClerk_50 fl_X9_25 rfl rfl rfl ?_
      refine z_iconst K dX9_readOneClerk_53 ?_
      refine z_aload_n K dX9_readOneClerk_54 rfl ?_
      refine z_get (k := 39) (v := .int (zi ((zu1 (zu1 h 3 ((p + 1 : Nat) : Int)) 3 ((p + 1 + 1 : Nat) : Int)) 12))) K dX9_readOneClerk_55 fl_X9_92 rfl rfl rfl ?_
      rw [show ((zu1 (zu1 h 3 ((p + 1 : Nat) : Int)) 3 ((p + 1 + 1 : Nat) : Int)) 12) = ((nc : Nat) : Int) from hR.2.2.1]
      refine z_imul K dX9_readOneClerk_58 ?_
      refine z_iconst K dX9_readOneClerk_59 ?_
      refine z_iadd K dX9_readOneClerk_60 ?_
      refine z_iload_n K dX9_readOneClerk_61 rfl ?_
      refine z_iast (k := 45) K dX9_readOneClerk_62 (2 * nc + 1) rfl (by decide) (by omega) (by omega) (z_mem (ν := zup (zup (zup μ 39 (zu1 (zu1 h 3 ((p + 1 : Nat) : Int)) 3 ((p + 1 + 1 : Nat) : Int))) 44 u) 45 (zu1 (zu1 v (2 * nc) (μ 40 (p) - (48 : Int))) (2 * nc + 1) (μ 40 (p + 1) - (48 : Int)))) (zup_same _ _ _ _) ?_)
      refine z_aload_n K dX9_readOneClerk_63 rfl ?_
      refine z_dup K dX9_readOneClerk_64 rfl ?_
      refine z_get (k := 39) (v := .int (zi ((zu1 (zu1 h 3 ((p + 1 : Nat) : Int)) 3 ((p + 1 + 1 : Nat) : Int)) 12))) K dX9_readOneClerk_65 fl_X9_92 rfl rfl rfl ?_
      rw [show ((zu1 (zu1 h 3 ((p + 1 : Nat) : Int)) 3 ((p + 1 + 1 : Nat) : Int)) 12) = ((nc : Nat) : Int) from hR.2.2.1]
      refine z_iconst K dX9_readOneClerk_68 ?_
      refine z_iadd K dX9_readOneClerk_69 ?_
      rw [show (((nc : Nat) : Int) + (1 : Int)) = ((nc + 1 : Nat) : Int) from (by omega)]
      refine z_puti (k := 39) K dX9_readOneClerk_70 fp_X9_92 rfl rfl (z_mem (ν := zup (zup (zup μ 39 (zu1 (zu1 (zu1 h 3 ((p + 1 : Nat) : Int)) 3 ((p + 1 + 1 : Nat) : Int)) 12 ((nc + 1 : Nat) : Int))) 44 u) 45 (zu1 (zu1 v (2 * nc) (μ 40 (p) - (48 : Int))) (2 * nc + 1) (μ 40 (p + 1) - (48 : Int)))) (zup_sw3 _ (by decide) (by decide) _ _ _ _) ?_)
      refine z_iconst K dX9_readOneClerk_73 ?_
      exact z_zreti K T rfl dX9_readOneClerk_74 (Or.inr rfl) ⟨_, u, _, p + 2, rfl, (fun j a1 _ a3 => by rw [zu1_ne _ _ a3, zu1_ne _ _ a1, zu1_ne _ _ a1]), rfl, Or.inl ⟨rfl, by omega, by omega, by rw [show p + 2 = p + 1 + 1 from rfl, hz2], hok2, by rw [show zpre (μ 40) (p + 2) = _ from hz2]; exact zMR_clk hR rfl rfl rfl rfl⟩⟩
    · have hC1 : ¬ (p + 1 < t ∧ (1 : Int) ≤ μ 40 (p + 1) - (48 : Int) ∧ μ 40 (p + 1) - (48 : Int) ≤ (3 : Int)) := by omega
      rw [if_neg hC1, if_neg hC1]
      refine z_iconst K dX9_readOneClerk_35 ?_
      exact z_zreti K T rfl dX9_readOneClerk_36 (Or.inl rfl) ⟨_, u, v, p + 1, rfl, (fun j a1 _ _ => zu1_ne _ _ a1), zu1_eq _ _ _, Or.inr ⟨rfl, zFt_of hz1 (by omega) (by decide) hok1 (fun q => by rw [zstep_7, if_neg (by omega)])⟩⟩
  · have hC0 : ¬ (p < t ∧ (0 : Int) ≤ μ 40 (p) - (48 : Int) ∧ μ 40 (p) - (48 : Int) ≤ (2 : Int)) := by omega
    rw [if_neg hC0, if_neg hC0]
    refine z_bipush K dX9_readOneClerk_15 (by decide +kernel) ?_
    refine z_goto (tgt := 28) K dX9_readOneClerk_17 (by decide) ?_
    refine z_istore_n (lv' := [(0, .ref (ad 39)), (1, .int (zi (-9))), (2, .int (zi (-9 : Int)))]) K dX9_readOneClerk_28 (by decide) rfl ?_
    refine z_iload_n K dX9_readOneClerk_29 rfl ?_
    refine z_bipush K dX9_readOneClerk_30 (by decide +kernel) ?_
    refine z_icmpne (tgt := 37) K dX9_readOneClerk_32 (by decide) ⟨by decide, by decide⟩ ⟨by decide, by decide⟩ (fun h32 => absurd h32 (by omega)) (fun h32 => ?_)
    refine z_iconst K dX9_readOneClerk_35 ?_
    exact z_zreti K T rfl dX9_readOneClerk_36 (Or.inl rfl) ⟨h, u, v, p, rfl, (fun j a1 _ _ => by repeat (first | rfl | rw [zu1_ne _ _ a1])), hR.1, Or.inr ⟨rfl, zFt_of hz hpt (by decide) hok (fun q => by rw [zstep_6, if_neg (by omega)])⟩⟩
set_option maxHeartbeats 4000000 in
set_option maxRecDepth 100000 in
theorem cm_readThing (la : Launch) (g0 : zG) (ad : Nat → Nat) (μ : zMem) (h u v : Nat → Int) (p t : Nat) (ht : h 2 = (t : Int)) (hpt : p < t) (ht48 : t ≤ 48) (hx : ∀ j, j < 48 → 0 ≤ μ 40 j ∧ μ 40 j ≤ 255) (P : zP8) (hok : ∀ j, j ≤ p → ¬ (zpre (μ 40) j).1 = -1) (hR : zMR h u v p P) (hz : zpre (μ 40) p = (2, P)) : zCon la g0 yX9_readThing cX9_readThing 2 (some .boolean) 3 ad zSH [.ref (ad 39)] (zup (zup (zup μ 39 h) 44 u) 45 v) (zPi (zRd μ h t p)) := by
  refine zCon_of (by decide +kernel) (Nat.le_of_ble_eq_true rfl) ?_
  intro χ K T hl1 hg1
  have K : zOk χ cX9_readThing RX9 2 3 (some .boolean) := K
  obtain ⟨n, nc, gr, ho, wt, kd, po, an⟩ := P
  have hxp := hx p (by omega)
  have hPV := zPV_pre _ p hok
  rw [hz] at hPV
  obtain ⟨v1, v2, v3, v4, v5, v6, v7, v8, v9, v10, v11, v12⟩ := hPV
  dsimp only at v1 v2
  have hR9 : zMR (zu1 h 3 ((p + 1 : Nat) : Int)) u v (p + 1) (n, nc, gr, ho, wt, kd, po, an) := ⟨rfl, hR.2.1, hR.2.2.1, hR.2.2.2.1, hR.2.2.2.2.1, hR.2.2.2.2.2⟩
  show zV χ 2 ad zSH 0 0 0 [(0, .ref (ad 39))] [] (zup (zup (zup μ 39 h) 44 u) 45 v)
  refine z_aload_n K dX9_readThing_0 rfl ?_
  refine z_get (k := 39) (v := .ref (ad 40)) K dX9_readThing_1 fl_X9_7 rfl rfl rfl ?_
  refine z_aload_n K dX9_readThing_4 rfl ?_
  refine z_get (k := 39) (v := .int (zi (h 3))) K dX9_readThing_5 fl_X9_78 rfl rfl rfl ?_
  rw [show (h 3) = ((p : Nat) : Int) from hR.1]
  refine z_iald (k := 40) (v := μ 40 p) K dX9_readThing_8 p rfl (by decide) (by omega) (by omega) rfl ?_
  refine z_istore_n (lv' := [(0, .ref (ad 39)), (1, .int (zi (μ 40 p)))]) K dX9_readThing_9 (by decide) rfl ?_
  refine z_aload_n K dX9_readThing_10 rfl ?_
  refine z_dup K dX9_readThing_11 rfl ?_
  refine z_get (k := 39) (v := .int (zi (h 3))) K dX9_readThing_12 fl_X9_78 rfl rfl rfl ?_
  rw [show (h 3) = ((p : Nat) : Int) from hR.1]
  refine z_iconst K dX9_readThing_15 ?_
  refine z_iadd K dX9_readThing_16 ?_
  rw [show (((p : Nat) : Int) + (1 : Int)) = ((p + 1 : Nat) : Int) from (by omega)]
  refine z_puti (k := 39) K dX9_readThing_17 fp_X9_78 rfl rfl (z_mem (ν := zup (zup (zup μ 39 (zu1 h 3 ((p + 1 : Nat) : Int))) 44 u) 45 v) (zup_sw3 _ (by decide) (by decide) _ _ _ _) ?_)
  refine z_iload_n K dX9_readThing_20 rfl ?_
  refine z_bipush K dX9_readThing_21 (by decide +kernel) ?_
  refine z_icmpne (tgt := 40) K dX9_readThing_23 (by decide) (by omega) ⟨by decide, by decide⟩ (fun h23 => ?_) (fun h23 => ?_)
  · refine z_iload_n K dX9_readThing_40 rfl ?_
    refine z_bipush K dX9_readThing_41 (by decide +kernel) ?_
    refine z_icmpne (tgt := 59) K dX9_readThing_43 (by decide) (by omega) ⟨by decide, by decide⟩ (fun h43 => ?_) (fun h43 => ?_)
    · refine z_aload_n K dX9_readThing_59 rfl ?_
      refine z_dup K dX9_readThing_60 rfl ?_
      refine z_get (k := 39) (v := .int (zi ((zu1 h 3 ((p + 1 : Nat) : Int)) 3))) K dX9_readThing_61 fl_X9_78 rfl rfl rfl ?_
      rw [show ((zu1 h 3 ((p + 1 : Nat) : Int)) 3) = ((p + 1 : Nat) : Int) from rfl]
      refine z_iconst K dX9_readThing_64 ?_
      refine z_isub K dX9_readThing_65 ?_
      rw [show (((p + 1 : Nat) : Int) - (1 : Int)) = ((p : Nat) : Int) from (by omega)]
      refine z_puti (k := 39) K dX9_readThing_66 fp_X9_78 rfl rfl (z_mem (ν := zup (zup (zup μ 39 (zu1 (zu1 h 3 ((p + 1 : Nat) : Int)) 3 ((p : Nat) : Int))) 44 u) 45 v) (zup_sw3 _ (by decide) (by decide) _ _ _ _) ?_)
      refine z_iconst K dX9_readThing_69 ?_
      exact z_zreti K T rfl dX9_readThing_70 (Or.inl rfl) ⟨_, u, v, p, rfl, (fun j a1 _ _ => by rw [zu1_ne _ _ a1, zu1_ne _ _ a1]), zu1_eq _ _ _, Or.inr ⟨rfl, ⟨by omega, hok, Or.inl ⟨hpt, by rw [zpre_s, hz, zstep_2, if_neg (by dsimp only; omega), if_neg (by dsimp only; omega)]⟩⟩⟩⟩
    · refine z_aload_n K dX9_readThing_46 rfl ?_
      refine z_get (k := 39) (v := .int (zi ((zu1 h 3 ((p + 1 : Nat) : Int)) 12))) K dX9_readThing_47 fl_X9_92 rfl rfl rfl ?_
      rw [show ((zu1 h 3 ((p + 1 : Nat) : Int)) 12) = ((nc : Nat) : Int) from hR.2.2.1]
      refine z_iconst K dX9_readThing_50 ?_
      refine z_icmpge (tgt := 59) K dX9_readThing_51 (by decide) (by omega) ⟨by decide, by decide⟩ (fun h51 => ?_) (fun h51 => ?_)
      · refine z_aload_n K dX9_readThing_59 rfl ?_
        refine z_dup K dX9_readThing_60 rfl ?_
        refine z_get (k := 39) (v := .int (zi ((zu1 h 3 ((p + 1 : Nat) : Int)) 3))) K dX9_readThing_61 fl_X9_78 rfl rfl rfl ?_
        rw [show ((zu1 h 3 ((p + 1 : Nat) : Int)) 3) = ((p + 1 : Nat) : Int) from rfl]
        refine z_iconst K dX9_readThing_64 ?_
        refine z_isub K dX9_readThing_65 ?_
        rw [show (((p + 1 : Nat) : Int) - (1 : Int)) = ((p : Nat) : Int) from (by omega)]
        refine z_puti (k := 39) K dX9_readThing_66 fp_X9_78 rfl rfl (z_mem (ν := zup (zup (zup μ 39 (zu1 (zu1 h 3 ((p + 1 : Nat) : Int)) 3 ((p : Nat) : Int))) 44 u) 45 v) (zup_sw3 _ (by decide) (by decide) _ _ _ _) ?_)
        refine z_iconst K dX9_readThing_69 ?_
        exact z_zreti K T rfl dX9_readThing_70 (Or.inl rfl) ⟨_, u, v, p, rfl, (fun j a1 _ _ => by rw [zu1_ne _ _ a1, zu1_ne _ _ a1]), zu1_eq _ _ _, Or.inr ⟨rfl, ⟨by omega, hok, Or.inl ⟨hpt, by rw [zpre_s, hz, zstep_2, if_neg (by dsimp only; omega), if_neg (by dsimp only; omega)]⟩⟩⟩⟩
      · refine z_aload_n K dX9_readThing_54 rfl ?_
        have hs1 : zstep 2 (n, nc, gr, ho, wt, kd, po, an) (μ 40 p) = (6, (n, nc, gr, ho, wt, kd, po, an)) := by
          rw [zstep_2, if_neg (by omega), if_pos ⟨by omega, by dsimp only; omega⟩]
        obtain ⟨hz1, hok1⟩ := zok_s hz hok hs1 (by decide)
        refine z_callVi K hl1 hg1 (kb := 39) (As := []) (rest := []) (cm_readOneClerk la g0 ad μ (zu1 h 3 ((p + 1 : Nat) : Int)) u v (p + 1) t ht (by omega) ht48 hx (n, nc, gr, ho, wt, kd, po, an) hok1 hR9 hz1) (by decide) lk_X9_99 cd_X9_readOneClerk rfl rfl rfl rfl (Nat.le_of_ble_eq_true rfl) dX9_readThing_55 (fun r ν h55 => ?_)
        have hr01 := zRd_01 h55
        exact z_zreti K T rfl dX9_readThing_58 (by omega) (zRd_up h55)
  · refine z_aload_n K dX9_readThing_26 rfl ?_
    refine z_get (k := 39) (v := .int (zi ((zu1 h 3 ((p + 1 : Nat) : Int)) 10))) K dX9_readThing_27 fl_X9_81 rfl rfl rfl ?_
    rw [show ((zu1 h 3 ((p + 1 : Nat) : Int)) 10) = ((n : Nat) : Int) from hR.2.1]
    refine z_bipush K dX9_readThing_30 (by decide +kernel) ?_
    refine z_icmpge (tgt := 40) K dX9_readThing_32 (by decide) (by omega) ⟨by decide, by decide⟩ (fun h32 => ?_) (fun h32 => ?_)
    · refine z_iload_n K dX9_readThing_40 rfl ?_
      refine z_bipush K dX9_readThing_41 (by decide +kernel) ?_
      refine z_icmpne (tgt := 59) K dX9_readThing_43 (by decide) (by omega) ⟨by decide, by decide⟩ (fun h43 => ?_) (fun h43 => ?_)
      · refine z_aload_n K dX9_readThing_59 rfl ?_
        refine z_dup K dX9_readThing_60 rfl ?_
        refine z_get (k := 39) (v := .int (zi ((zu1 h 3 ((p + 1 : Nat) : Int)) 3))) K dX9_readThing_61 fl_X9_78 rfl rfl rfl ?_
        rw [show ((zu1 h 3 ((p + 1 : Nat) : Int)) 3) = ((p + 1 : Nat) : Int) from rfl]
        refine z_iconst K dX9_readThing_64 ?_
        refine z_isub K dX9_readThing_65 ?_
        rw [show (((p + 1 : Nat) : Int) - (1 : Int)) = ((p : Nat) : Int) from (by omega)]
        refine z_puti (k := 39) K dX9_readThing_66 fp_X9_78 rfl rfl (z_mem (ν := zup (zup (zup μ 39 (zu1 (zu1 h 3 ((p + 1 : Nat) : Int)) 3 ((p : Nat) : Int))) 44 u) 45 v) (zup_sw3 _ (by decide) (by decide) _ _ _ _) ?_)
        refine z_iconst K dX9_readThing_69 ?_
        exact z_zreti K T rfl dX9_readThing_70 (Or.inl rfl) ⟨_, u, v, p, rfl, (fun j a1 _ _ => by rw [zu1_ne _ _ a1, zu1_ne _ _ a1]), zu1_eq _ _ _, Or.inr ⟨rfl, ⟨by omega, hok, Or.inl ⟨hpt, by rw [zpre_s, hz, zstep_2, if_neg (by dsimp only; omega), if_neg (by dsimp only; omega)]⟩⟩⟩⟩
      · refine z_aload_n K dX9_readThing_46 rfl ?_
        refine z_get (k := 39) (v := .int (zi ((zu1 h 3 ((p + 1 : Nat) : Int)) 12))) K dX9_readThing_47 fl_X9_92 rfl rfl rfl ?_
        rw [show ((zu1 h 3 ((p + 1 : Nat) : Int)) 12) = ((nc : Nat) : Int) from hR.2.2.1]
        refine z_iconst K dX9_readThing_50 ?_
        refine z_icmpge (tgt := 59) K dX9_readThing_51 (by decide) (by omega) ⟨by decide, by decide⟩ (fun h51 => ?_) (fun h51 => ?_)
        · refine z_aload_n K dX9_readThing_59 rfl ?_
          refine z_dup K dX9_readThing_60 rfl ?_
          refine z_get (k := 39) (v := .int (zi ((zu1 h 3 ((p + 1 : Nat) : Int)) 3))) K dX9_readThing_61 fl_X9_78 rfl rfl rfl ?_
          rw [show ((zu1 h 3 ((p + 1 : Nat) : Int)) 3) = ((p + 1 : Nat) : Int) from rfl]
          refine z_iconst K dX9_readThing_64 ?_
          refine z_isub K dX9_readThing_65 ?_
          rw [show (((p + 1 : Nat) : Int) - (1 : Int)) = ((p : Nat) : Int) from (by omega)]
          refine z_puti (k := 39) K dX9_readThing_66 fp_X9_78 rfl rfl (z_mem (ν := zup (zup (zup μ 39 (zu1 (zu1 h 3 ((p + 1 : Nat) : Int)) 3 ((p : Nat) : Int))) 44 u) 45 v) (zup_sw3 _ (by decide) (by decide) _ _ _ _) ?_)
          refine z_iconst K dX9_readThing_69 ?_
          exact z_zreti K T rfl dX9_readThing_70 (Or.inl rfl) ⟨_, u, v, p, rfl, (fun j a1 _ _ => by rw [zu1_ne _ _ a1, zu1_ne _ _ a1]), zu1_eq _ _ _, Or.inr ⟨rfl, ⟨by omega, hok, Or.inl ⟨hpt, by rw [zpre_s, hz, zstep_2, if_neg (by dsimp only; omega), if_neg (by dsimp only; omega)]⟩⟩⟩⟩
        · refine z_aload_n K dX9_readThing_54 rfl ?_
          have hs1 : zstep 2 (n, nc, gr, ho, wt, kd, po, an) (μ 40 p) = (6, (n, nc, gr, ho, wt, kd, po, an)) := by
            rw [zstep_2, if_neg (by omega), if_pos ⟨by omega, by dsimp only; omega⟩]
          obtain ⟨hz1, hok1⟩ := zok_s hz hok hs1 (by decide)
          refine z_callVi K hl1 hg1 (kb := 39) (As := []) (rest := []) (cm_readOneClerk la g0 ad μ (zu1 h 3 ((p + 1 : Nat) : Int)) u v (p + 1) t ht (by omega) ht48 hx (n, nc, gr, ho, wt, kd, po, an) hok1 hR9 hz1) (by decide) lk_X9_99 cd_X9_readOneClerk rfl rfl rfl rfl (Nat.le_of_ble_eq_true rfl) dX9_readThing_55 (fun r ν h55 => ?_)
          have hr01 := zRd_01 h55
          exact z_zreti K T rfl dX9_readThing_58 (by omega) (zRd_up h55)
    · refine z_aload_n K dX9_readThing_35 rfl ?_
      have hs1 : zstep 2 (n, nc, gr, ho, wt, kd, po, an) (μ 40 p) = (3, (n, nc, gr, ho, wt, kd, po, an)) := by
        rw [zstep_2, if_pos ⟨by omega, by dsimp only; omega⟩]
      obtain ⟨hz1, hok1⟩ := zok_s hz hok hs1 (by decide)
      refine z_callVi K hl1 hg1 (kb := 39) (As := []) (rest := []) (cm_readOneLetter la g0 ad μ (zu1 h 3 ((p + 1 : Nat) : Int)) u v (p + 1) t ht (by omega) ht48 hx (n, nc, gr, ho, wt, kd, po, an) hok1 hR9 hz1) (by decide) lk_X9_95 cd_X9_readOneLetter rfl rfl rfl rfl (Nat.le_of_ble_eq_true rfl) dX9_readThing_36 (fun r ν h36 => ?_)
      have hr01 := zRd_01 h36
      exact z_zreti K T rfl dX9_readThing_39 (by omega) (zRd_up h36)
