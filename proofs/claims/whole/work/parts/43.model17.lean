set_option maxHeartbeats 4000000 in
set_option maxRecDepth 100000 in
theorem cq_may (la : Launch) (g0 : zG) (ad : Nat → Nat) (μ : zMem) (t : Nat) (ht : μ 39 20 = (t : Int)) (ht6 : t ≤ 6) (hd : ∀ i, i < t → 0 ≤ μ 51 i ∧ μ 51 i ≤ 9 ∧ (μ 52 i = 0 ∨ μ 52 i = 1)) (v : Int) (hv : zR v) : zCon la g0 yX9_may cX9_may 7 (some .int) 1 ad zSH [.ref (ad 39), .int (zi v)] μ (zPi (zQm μ (zA_may (μ 51) (μ 52) t v))) := by
  refine zCon_of (by decide +kernel) (Nat.le_of_ble_eq_true rfl) ?_
  intro χ K T hl1 hg1
  have K : zOk χ cX9_may RX9 7 1 (some .int) := K
  refine z_mem (ν := zup μ 39 (μ 39)) (zup_id μ 39) ?_
  show zV χ 7 ad zSH 0 0 0 [(0, .ref (ad 39)), (1, .int (zi v))] [] (zup μ 39 (μ 39))
  refine z_aload_n K dX9_may_0 rfl ?_
  refine z_iconst K dX9_may_1 ?_
  refine z_puti (k := 39) K dX9_may_2 fp_X9_59 rfl rfl (z_mem (ν := zup μ 39 (zu1 (μ 39) 0 (0 : Int))) (zup_same _ _ _ _) ?_)
  refine z_iload_n K dX9_may_5 rfl ?_
  refine z_i2l K dX9_may_6 (by omega) ?_
  refine z_lconst (z := 0) K dX9_may_7 rfl ?_
  refine z_lconst (z := 1) K dX9_may_8 rfl ?_
  refine z_callSd K hl1 hg1 (As := [.long (zl v), .long (zl (0 : Int)), .long (zl (1 : Int))]) (rest := []) (cm_in la g0 ad (zup μ 39 (zu1 (μ 39) 0 (0 : Int))) v (0 : Int) (1 : Int) ⟨by omega, by omega⟩ ⟨by decide, by decide⟩ ⟨by decide, by decide⟩) (by decide) lk_X9_66 cd_X9_in rfl rfl (Nat.le_of_ble_eq_true rfl) dX9_may_9 ?_
  show zV χ 7 ad zSH 0 0 12 [(0, .ref (ad 39)), (1, .int (zi v))] [.int (zi (if (0 : Int) ≤ v ∧ v ≤ (1 : Int) then 1 else 0))] (zup μ 39 (zu1 (μ 39) 0 (0 : Int)))
  refine z_ifne (tgt := 18) K dX9_may_12 (by decide) (by omega) (fun h12 => ?_) (fun h12 => ?_)
  · refine z_aload_n K dX9_may_18 rfl ?_
    refine z_iconst K dX9_may_19 ?_
    refine z_puti (k := 39) K dX9_may_20 fp_X9_238 rfl rfl (z_mem (ν := zup μ 39 (zu1 (zu1 (μ 39) 0 (0 : Int)) 28 (0 : Int))) (zup_same _ _ _ _) ?_)
    refine z_aload_n K dX9_may_23 rfl ?_
    refine z_bipush K dX9_may_24 (by decide +kernel) ?_
    refine z_puti (k := 39) K dX9_may_26 fp_X9_241 rfl rfl (z_mem (ν := zup μ 39 (zu1 (zu1 (zu1 (μ 39) 0 (0 : Int)) 28 (0 : Int)) 29 (-9 : Int))) (zup_same _ _ _ _) ?_)
    refine z_iconst K dX9_may_29 ?_
    refine z_istore_n (lv' := [(0, .ref (ad 39)), (1, .int (zi v)), (2, .int (zi (0 : Int)))]) K dX9_may_30 (by decide) rfl ?_
    have L31 : ∀ k, k ≤ 4 → ∀ (g : Nat → Int), zFh (μ 39) g → g 28 = (zmy (fun x => zfit (μ 51) (μ 52) x t) (9 * k)).1 → g 29 = (zmy (fun x => zfit (μ 51) (μ 52) x t) (9 * k)).2 → zV χ 7 ad zSH 0 0 31 [(0, .ref (ad 39)), (1, .int (zi v)), (2, .int (zi ((k : Nat) : Int)))] [] (zup μ 39 g) := by
      refine zfor ?_
      intro k hk ihk g hgf hg8 hg9
      have hrk := zmy_rg (fun x => zfit (μ 51) (μ 52) x t) (9 * k)
      refine z_iload_n K dX9_may_31 rfl ?_
      refine z_iconst K dX9_may_32 ?_
      refine z_icmpge (tgt := 188) K dX9_may_33 (by decide) (by omega) ⟨by decide, by decide⟩ (fun h33 => ?_) (fun h33 => ?_)
      · refine z_iload_n K dX9_may_188 rfl ?_
        refine z_ifne (tgt := 199) K dX9_may_189 (by decide) (by omega) (fun h189 => ?_) (fun h189 => ?_)
        · refine z_aload_n K dX9_may_199 rfl ?_
          refine z_get (k := 39) (v := .int (zi (g 29))) K dX9_may_200 fl_X9_241 rfl rfl rfl ?_
          rw [show (g 29) = (zmy (fun x => zfit (μ 51) (μ 52) x t) (9 * k)).2 from hg9]
          exact z_ireti K T rfl dX9_may_203 ⟨by rw [show 9 * k = 36 by omega]; unfold zA_may; rw [if_neg (by omega), if_neg (by omega)], zFr_h (zFr_0 μ) hgf⟩
        · refine z_aload_n K dX9_may_192 rfl ?_
          refine z_get (k := 39) (v := .int (zi (g 28))) K dX9_may_193 fl_X9_238 rfl rfl rfl ?_
          rw [show (g 28) = (zmy (fun x => zfit (μ 51) (μ 52) x t) (9 * k)).1 from hg8]
          refine z_goto (tgt := 203) K dX9_may_196 (by decide) ?_
          exact z_ireti K T rfl dX9_may_203 ⟨by rw [show 9 * k = 36 by omega]; unfold zA_may; rw [if_neg (by omega), if_pos (by omega)], zFr_h (zFr_0 μ) hgf⟩
      · refine z_iconst K dX9_may_36 ?_
        refine z_istore_n (lv' := [(0, .ref (ad 39)), (1, .int (zi v)), (2, .int (zi ((k : Nat) : Int))), (3, .int (zi (1 : Int)))]) K dX9_may_37 (by decide) rfl ?_
        have L38 : ∀ w, w ≤ 10 → 1 ≤ w → ∀ (g : Nat → Int), zFh (μ 39) g → g 28 = (zmy (fun x => zfit (μ 51) (μ 52) x t) (9 * k + (w - 1))).1 → g 29 = (zmy (fun x => zfit (μ 51) (μ 52) x t) (9 * k + (w - 1))).2 → zV χ 7 ad zSH 0 0 38 [(0, .ref (ad 39)), (1, .int (zi v)), (2, .int (zi ((k : Nat) : Int))), (3, .int (zi ((w : Nat) : Int)))] [] (zup μ 39 g) := by
          refine zfor ?_
          intro w hw ihw hw1 g hgf hg8 hg9
          have hrw := zmy_rg (fun x => zfit (μ 51) (μ 52) x t) (9 * k + (w - 1))
          have ht9 : g 20 = (t : Int) := (hgf 20 (by decide)).trans ht
          refine z_iload_n K dX9_may_38 rfl ?_
          refine z_bipush K dX9_may_39 (by decide +kernel) ?_
          refine z_icmpgt (tgt := 182) K dX9_may_41 (by decide) (by omega) ⟨by decide, by decide⟩ (fun h41 => ?_) (fun h41 => ?_)
          · refine z_iincN (lv' := [(0, .ref (ad 39)), (1, .int (zi v)), (2, .int (zi ((k + 1 : Nat) : Int))), (3, .int (zi ((w : Nat) : Int)))]) K dX9_may_182 rfl (by decide) rfl ?_
            refine z_goto (tgt := 31) K dX9_may_185 (by decide) ?_
            refine z_ipick [0, 1, 2] rfl ?_
            exact ihk (k + 1) (by omega) (by omega) g hgf (by rw [hg8, show 9 * k + (w - 1) = 9 * (k + 1) by omega]) (by rw [hg9, show 9 * k + (w - 1) = 9 * (k + 1) by omega])
          · refine z_iload_n K dX9_may_44 rfl ?_
            refine z_iconst K dX9_may_45 ?_
            refine z_icmpne (tgt := 56) K dX9_may_46 (by decide) (by omega) ⟨by decide, by decide⟩ (fun h46 => ?_) (fun h46 => ?_)
            · refine z_iload_n K dX9_may_56 rfl ?_
              refine z_istore (lv' := [(0, .ref (ad 39)), (1, .int (zi v)), (2, .int (zi ((k : Nat) : Int))), (3, .int (zi ((w : Nat) : Int))), (4, .int (zi ((w : Nat) : Int)))]) K dX9_may_57 (by decide) rfl ?_
              refine z_iconst K dX9_may_59 ?_
              refine z_istore (lv' := [(0, .ref (ad 39)), (1, .int (zi v)), (2, .int (zi ((k : Nat) : Int))), (3, .int (zi ((w : Nat) : Int))), (4, .int (zi ((w : Nat) : Int))), (5, .int (zi (1 : Int)))]) K dX9_may_60 (by decide) rfl ?_
              refine z_iconst K dX9_may_62 ?_
              refine z_istore (lv' := [(0, .ref (ad 39)), (1, .int (zi v)), (2, .int (zi ((k : Nat) : Int))), (3, .int (zi ((w : Nat) : Int))), (4, .int (zi ((w : Nat) : Int))), (5, .int (zi (1 : Int))), (6, .int (zi (0 : Int)))]) K dX9_may_63 (by decide) rfl ?_
              have L65 : ∀ x : Int, x = zal ((w : Nat) : Int) ((k : Nat) : Int) → 0 ≤ x ∧ x ≤ 9 → ∀ i, i ≤ t → zV χ 7 ad zSH 0 0 65 [(0, .ref (ad 39)), (1, .int (zi v)), (2, .int (zi ((k : Nat) : Int))), (3, .int (zi ((w : Nat) : Int))), (4, .int (zi x)), (5, .int (zi (zfit (μ 51) (μ 52) x i))), (6, .int (zi ((i : Nat) : Int)))] [] (zup μ 39 g) := by
                intro x hx hx9
                refine zfor ?_
                intro i hi ihi
                have hfr := zfit_rg (μ 51) (μ 52) x i
                refine z_iload K dX9_may_65 rfl ?_
                refine z_aload_n K dX9_may_67 rfl ?_
                refine z_get (k := 39) (v := .int (zi (g 20))) K dX9_may_68 fl_X9_161 rfl rfl rfl ?_
                rw [show (g 20) = ((t : Nat) : Int) from ht9]
                refine z_icmpge (tgt := 128) K dX9_may_71 (by decide) (by omega) (by omega) (fun h71 => ?_) (fun h71 => ?_)
                · have hit : i = t := by omega
                  have hft : zfit (μ 51) (μ 52) x i = zfit (μ 51) (μ 52) x t := by rw [hit]
                  refine z_aload_n K dX9_may_128 rfl ?_
                  refine z_iload K dX9_may_129 rfl ?_
                  refine z_ifeq (tgt := 150) K dX9_may_131 (by decide) (by omega) (fun h131 => ?_) (fun h131 => ?_)
                  · refine z_aload_n K dX9_may_150 rfl ?_
                    refine z_get (k := 39) (v := .int (zi (g 29))) K dX9_may_151 fl_X9_241 rfl rfl rfl ?_
                    rw [show (g 29) = (zmy (fun x => zfit (μ 51) (μ 52) x t) (9 * k + (w - 1))).2 from hg9]
                    refine z_puti (k := 39) K dX9_may_154 fp_X9_241 rfl rfl (z_mem (ν := zup μ 39 (zu1 g 29 ((zmy (fun x => zfit (μ 51) (μ 52) x t) (9 * k + (w - 1))).2))) (zup_same _ _ _ _) ?_)
                    refine z_aload_n K dX9_may_157 rfl ?_
                    refine z_dup K dX9_may_158 rfl ?_
                    refine z_get (k := 39) (v := .int (zi ((zu1 g 29 ((zmy (fun x => zfit (μ 51) (μ 52) x t) (9 * k + (w - 1))).2)) 28))) K dX9_may_159 fl_X9_238 rfl rfl rfl ?_
                    rw [show ((zu1 g 29 ((zmy (fun x => zfit (μ 51) (μ 52) x t) (9 * k + (w - 1))).2)) 28) = (zmy (fun x => zfit (μ 51) (μ 52) x t) (9 * k + (w - 1))).1 from hg8]
                    refine z_iload K dX9_may_162 rfl ?_
                    refine z_ifeq (tgt := 171) K dX9_may_164 (by decide) (by omega) (fun h164 => ?_) (fun h164 => absurd h164 (by omega))
                    refine z_iconst K dX9_may_171 ?_
                    refine z_iadd K dX9_may_172 ?_
                    refine z_puti (k := 39) K dX9_may_173 fp_X9_238 rfl rfl (z_mem (ν := zup μ 39 (zu1 (zu1 g 29 ((zmy (fun x => zfit (μ 51) (μ 52) x t) (9 * k + (w - 1))).2)) 28 (((zmy (fun x => zfit (μ 51) (μ 52) x t) (9 * k + (w - 1))).1) + (0 : Int)))) (zup_same _ _ _ _) ?_)
                    refine z_iincN (lv' := [(0, .ref (ad 39)), (1, .int (zi v)), (2, .int (zi ((k : Nat) : Int))), (3, .int (zi ((w + 1 : Nat) : Int))), (4, .int (zi x)), (5, .int (zi (zfit (μ 51) (μ 52) x i))), (6, .int (zi ((i : Nat) : Int)))]) K dX9_may_176 rfl (by decide) rfl ?_
                    refine z_goto (tgt := 38) K dX9_may_179 (by decide) ?_
                    refine z_ipick [0, 1, 2, 3] rfl ?_
                    exact ihw (w + 1) (by omega) (by omega) (by omega) _ (zFh_u (zFh_u hgf (by decide) _) (by decide) _) (by
                      rw [zu1_eq]
                      rw [show 9 * k + (w + 1 - 1) = (9 * k + (w - 1)) + 1 by omega, zmy_s]
                      rw [show (9 * k + (w - 1)) % 9 + 1 = w by omega, show (9 * k + (w - 1)) / 9 = k by omega, ← hx, if_pos (by omega)]
                      all_goals omega) (by
                      rw [zu1_ne _ _ (by decide), zu1_eq]
                      rw [show 9 * k + (w + 1 - 1) = (9 * k + (w - 1)) + 1 by omega, zmy_s]
                      rw [show (9 * k + (w - 1)) % 9 + 1 = w by omega, show (9 * k + (w - 1)) / 9 = k by omega, ← hx, if_pos (by omega)]
                      all_goals omega)
                  · refine z_aload_n K dX9_may_134 rfl ?_
                    refine z_get (k := 39) (v := .int (zi (g 28))) K dX9_may_135 fl_X9_238 rfl rfl rfl ?_
                    rw [show (g 28) = (zmy (fun x => zfit (μ 51) (μ 52) x t) (9 * k + (w - 1))).1 from hg8]
                    refine z_ifne (tgt := 150) K dX9_may_138 (by decide) (by omega) (fun h138 => ?_) (fun h138 => ?_)
                    · refine z_aload_n K dX9_may_150 rfl ?_
                      refine z_get (k := 39) (v := .int (zi (g 29))) K dX9_may_151 fl_X9_241 rfl rfl rfl ?_
                      rw [show (g 29) = (zmy (fun x => zfit (μ 51) (μ 52) x t) (9 * k + (w - 1))).2 from hg9]
                      refine z_puti (k := 39) K dX9_may_154 fp_X9_241 rfl rfl (z_mem (ν := zup μ 39 (zu1 g 29 ((zmy (fun x => zfit (μ 51) (μ 52) x t) (9 * k + (w - 1))).2))) (zup_same _ _ _ _) ?_)
                      refine z_aload_n K dX9_may_157 rfl ?_
                      refine z_dup K dX9_may_158 rfl ?_
                      refine z_get (k := 39) (v := .int (zi ((zu1 g 29 ((zmy (fun x => zfit (μ 51) (μ 52) x t) (9 * k + (w - 1))).2)) 28))) K dX9_may_159 fl_X9_238 rfl rfl rfl ?_
                      rw [show ((zu1 g 29 ((zmy (fun x => zfit (μ 51) (μ 52) x t) (9 * k + (w - 1))).2)) 28) = (zmy (fun x => zfit (μ 51) (μ 52) x t) (9 * k + (w - 1))).1 from hg8]
                      refine z_iload K dX9_may_162 rfl ?_
                      refine z_ifeq (tgt := 171) K dX9_may_164 (by decide) (by omega) (fun h164 => absurd h164 (by omega)) (fun h164 => ?_)
                      refine z_iconst K dX9_may_167 ?_
                      refine z_goto (tgt := 172) K dX9_may_168 (by decide) ?_
                      refine z_iadd K dX9_may_172 ?_
                      refine z_puti (k := 39) K dX9_may_173 fp_X9_238 rfl rfl (z_mem (ν := zup μ 39 (zu1 (zu1 g 29 ((zmy (fun x => zfit (μ 51) (μ 52) x t) (9 * k + (w - 1))).2)) 28 (((zmy (fun x => zfit (μ 51) (μ 52) x t) (9 * k + (w - 1))).1) + (1 : Int)))) (zup_same _ _ _ _) ?_)
                      refine z_iincN (lv' := [(0, .ref (ad 39)), (1, .int (zi v)), (2, .int (zi ((k : Nat) : Int))), (3, .int (zi ((w + 1 : Nat) : Int))), (4, .int (zi x)), (5, .int (zi (zfit (μ 51) (μ 52) x i))), (6, .int (zi ((i : Nat) : Int)))]) K dX9_may_176 rfl (by decide) rfl ?_
                      refine z_goto (tgt := 38) K dX9_may_179 (by decide) ?_
                      refine z_ipick [0, 1, 2, 3] rfl ?_
                      exact ihw (w + 1) (by omega) (by omega) (by omega) _ (zFh_u (zFh_u hgf (by decide) _) (by decide) _) (by
                        rw [zu1_eq]
                        rw [show 9 * k + (w + 1 - 1) = (9 * k + (w - 1)) + 1 by omega, zmy_s]
                        rw [show (9 * k + (w - 1)) % 9 + 1 = w by omega, show (9 * k + (w - 1)) / 9 = k by omega, ← hx, if_neg (by omega)]
                        all_goals omega) (by
                        rw [zu1_ne _ _ (by decide), zu1_eq]
                        rw [show 9 * k + (w + 1 - 1) = (9 * k + (w - 1)) + 1 by omega, zmy_s]
                        rw [show (9 * k + (w - 1)) % 9 + 1 = w by omega, show (9 * k + (w - 1)) / 9 = k by omega, ← hx, if_neg (by omega)]
                        dsimp only
                        rw [if_neg (by omega)]
                        all_goals omega)
                    · refine z_bipush K dX9_may_141 (by decide +kernel) ?_
                      refine z_iload_n K dX9_may_143 rfl ?_
                      refine z_imul K dX9_may_144 ?_
                      refine z_iload_n K dX9_may_145 rfl ?_
                      refine z_iadd K dX9_may_146 ?_
                      refine z_goto (tgt := 154) K dX9_may_147 (by decide) ?_
                      refine z_puti (k := 39) K dX9_may_154 fp_X9_241 rfl rfl (z_mem (ν := zup μ 39 (zu1 g 29 (((10 : Int) * ((k : Nat) : Int)) + ((w : Nat) : Int)))) (zup_same _ _ _ _) ?_)
                      refine z_aload_n K dX9_may_157 rfl ?_
                      refine z_dup K dX9_may_158 rfl ?_
                      refine z_get (k := 39) (v := .int (zi ((zu1 g 29 (((10 : Int) * ((k : Nat) : Int)) + ((w : Nat) : Int))) 28))) K dX9_may_159 fl_X9_238 rfl rfl rfl ?_
                      rw [show ((zu1 g 29 (((10 : Int) * ((k : Nat) : Int)) + ((w : Nat) : Int))) 28) = (zmy (fun x => zfit (μ 51) (μ 52) x t) (9 * k + (w - 1))).1 from hg8]
                      refine z_iload K dX9_may_162 rfl ?_
                      refine z_ifeq (tgt := 171) K dX9_may_164 (by decide) (by omega) (fun h164 => absurd h164 (by omega)) (fun h164 => ?_)
                      refine z_iconst K dX9_may_167 ?_
                      refine z_goto (tgt := 172) K dX9_may_168 (by decide) ?_
                      refine z_iadd K dX9_may_172 ?_
                      refine z_puti (k := 39) K dX9_may_173 fp_X9_238 rfl rfl (z_mem (ν := zup μ 39 (zu1 (zu1 g 29 (((10 : Int) * ((k : Nat) : Int)) + ((w : Nat) : Int))) 28 (((zmy (fun x => zfit (μ 51) (μ 52) x t) (9 * k + (w - 1))).1) + (1 : Int)))) (zup_same _ _ _ _) ?_)
                      refine z_iincN (lv' := [(0, .ref (ad 39)), (1, .int (zi v)), (2, .int (zi ((k : Nat) : Int))), (3, .int (zi ((w + 1 : Nat) : Int))), (4, .int (zi x)), (5, .int (zi (zfit (μ 51) (μ 52) x i))), (6, .int (zi ((i : Nat) : Int)))]) K dX9_may_176 rfl (by decide) rfl ?_
                      refine z_goto (tgt := 38) K dX9_may_179 (by decide) ?_
                      refine z_ipick [0, 1, 2, 3] rfl ?_
                      exact ihw (w + 1) (by omega) (by omega) (by omega) _ (zFh_u (zFh_u hgf (by decide) _) (by decide) _) (by
                        rw [zu1_eq]
                        rw [show 9 * k + (w + 1 - 1) = (9 * k + (w - 1)) + 1 by omega, zmy_s]
                        rw [show (9 * k + (w - 1)) % 9 + 1 = w by omega, show (9 * k + (w - 1)) / 9 = k by omega, ← hx, if_neg (by omega)]
                        all_goals omega) (by
                        rw [zu1_ne _ _ (by decide), zu1_eq]
                        rw [show 9 * k + (w + 1 - 1) = (9 * k + (w - 1)) + 1 by omega, zmy_s]
                        rw [show (9 * k + (w - 1)) % 9 + 1 = w by omega, show (9 * k + (w - 1)) / 9 = k by omega, ← hx, if_neg (by omega)]
                        dsimp only
                        rw [if_pos (by omega)]
                        all_goals omega)
                · have hdi := hd i (by omega)
                  refine z_iload K dX9_may_74 rfl ?_
                  refine z_ifeq (tgt := 119) K dX9_may_76 (by decide) (by omega) (fun h76 => ?_) (fun h76 => ?_)
                  · refine z_iconst K dX9_may_119 ?_
                    refine z_istore (lv' := [(0, .ref (ad 39)), (1, .int (zi v)), (2, .int (zi ((k : Nat) : Int))), (3, .int (zi ((w : Nat) : Int))), (4, .int (zi x)), (5, .int (zi (0 : Int))), (6, .int (zi ((i : Nat) : Int)))]) K dX9_may_120 (by decide) rfl ?_
                    refine z_iincN (lv' := [(0, .ref (ad 39)), (1, .int (zi v)), (2, .int (zi ((k : Nat) : Int))), (3, .int (zi ((w : Nat) : Int))), (4, .int (zi x)), (5, .int (zi (0 : Int))), (6, .int (zi ((i + 1 : Nat) : Int)))]) K dX9_may_122 rfl (by decide) rfl ?_
                    refine z_goto (tgt := 65) K dX9_may_125 (by decide) ?_
                    have e9 : (0 : Int) = zfit (μ 51) (μ 52) x (i + 1) := by
                      rw [zfit_s]
                      omega
                    rw [e9]
                    exact ihi (i + 1) (by omega) (by omega)
                  · refine z_aload_n K dX9_may_79 rfl ?_
                    refine z_get (k := 39) (v := .ref (ad 51)) K dX9_may_80 fl_X9_44 rfl rfl rfl ?_
                    refine z_iload K dX9_may_83 rfl ?_
                    refine z_iald (k := 51) (v := μ 51 i) K dX9_may_85 i rfl (by decide) (by omega) (by omega) rfl ?_
                    refine z_iload K dX9_may_86 rfl ?_
                    refine z_icmplt (tgt := 95) K dX9_may_88 (by decide) (by omega) (by omega) (fun h88 => ?_) (fun h88 => ?_)
                    · refine z_iconst K dX9_may_95 ?_
                      refine z_aload_n K dX9_may_96 rfl ?_
                      refine z_get (k := 39) (v := .ref (ad 52)) K dX9_may_97 fl_X9_47 rfl rfl rfl ?_
                      refine z_iload K dX9_may_100 rfl ?_
                      refine z_iald (k := 52) (v := μ 52 i) K dX9_may_102 i rfl (by decide) (by omega) (by omega) rfl ?_
                      refine z_iconst K dX9_may_103 ?_
                      refine z_icmpne (tgt := 111) K dX9_may_104 (by decide) (by omega) ⟨by decide, by decide⟩ (fun h104 => ?_) (fun h104 => ?_)
                      · refine z_iconst K dX9_may_111 ?_
                        refine z_icmpne (tgt := 119) K dX9_may_112 (by decide) ⟨by decide, by decide⟩ ⟨by decide, by decide⟩ (fun h112 => ?_) (fun h112 => ?_)
                        · refine z_iconst K dX9_may_119 ?_
                          refine z_istore (lv' := [(0, .ref (ad 39)), (1, .int (zi v)), (2, .int (zi ((k : Nat) : Int))), (3, .int (zi ((w : Nat) : Int))), (4, .int (zi x)), (5, .int (zi (0 : Int))), (6, .int (zi ((i : Nat) : Int)))]) K dX9_may_120 (by decide) rfl ?_
                          refine z_iincN (lv' := [(0, .ref (ad 39)), (1, .int (zi v)), (2, .int (zi ((k : Nat) : Int))), (3, .int (zi ((w : Nat) : Int))), (4, .int (zi x)), (5, .int (zi (0 : Int))), (6, .int (zi ((i + 1 : Nat) : Int)))]) K dX9_may_122 rfl (by decide) rfl ?_
                          refine z_goto (tgt := 65) K dX9_may_125 (by decide) ?_
                          have e9 : (0 : Int) = zfit (μ 51) (μ 52) x (i + 1) := by
                            rw [zfit_s]
                            omega
                          rw [e9]
                          exact ihi (i + 1) (by omega) (by omega)
                        · refine z_iconst K dX9_may_115 ?_
                          refine z_goto (tgt := 120) K dX9_may_116 (by decide) ?_
                          refine z_istore (lv' := [(0, .ref (ad 39)), (1, .int (zi v)), (2, .int (zi ((k : Nat) : Int))), (3, .int (zi ((w : Nat) : Int))), (4, .int (zi x)), (5, .int (zi (1 : Int))), (6, .int (zi ((i : Nat) : Int)))]) K dX9_may_120 (by decide) rfl ?_
                          refine z_iincN (lv' := [(0, .ref (ad 39)), (1, .int (zi v)), (2, .int (zi ((k : Nat) : Int))), (3, .int (zi ((w : Nat) : Int))), (4, .int (zi x)), (5, .int (zi (1 : Int))), (6, .int (zi ((i + 1 : Nat) : Int)))]) K dX9_may_122 rfl (by decide) rfl ?_
                          refine z_goto (tgt := 65) K dX9_may_125 (by decide) ?_
                          have e9 : (1 : Int) = zfit (μ 51) (μ 52) x (i + 1) := by
                            rw [zfit_s]
                            omega
                          rw [e9]
                          exact ihi (i + 1) (by omega) (by omega)
                      · refine z_iconst K dX9_may_107 ?_
                        refine z_goto (tgt := 112) K dX9_may_108 (by decide) ?_
                        refine z_icmpne (tgt := 119) K dX9_may_112 (by decide) ⟨by decide, by decide⟩ ⟨by decide, by decide⟩ (fun h112 => ?_) (fun h112 => ?_)
                        · refine z_iconst K dX9_may_119 ?_
                          refine z_istore (lv' := [(0, .ref (ad 39)), (1, .int (zi v)), (2, .int (zi ((k : Nat) : Int))), (3, .int (zi ((w : Nat) : Int))), (4, .int (zi x)), (5, .int (zi (0 : Int))), (6, .int (zi ((i : Nat) : Int)))]) K dX9_may_120 (by decide) rfl ?_
                          refine z_iincN (lv' := [(0, .ref (ad 39)), (1, .int (zi v)), (2, .int (zi ((k : Nat) : Int))), (3, .int (zi ((w : Nat) : Int))), (4, .int (zi x)), (5, .int (zi (0 : Int))), (6, .int (zi ((i + 1 : Nat) : Int)))]) K dX9_may_122 rfl (by decide) rfl ?_
                          refine z_goto (tgt := 65) K dX9_may_125 (by decide) ?_
                          have e9 : (0 : Int) = zfit (μ 51) (μ 52) x (i + 1) := by
                            rw [zfit_s]
                            omega
                          rw [e9]
                          exact ihi (i + 1) (by omega) (by omega)
                        · refine z_iconst K dX9_may_115 ?_
                          refine z_goto (tgt := 120) K dX9_may_116 (by decide) ?_
                          refine z_istore (lv' := [(0, .ref (ad 39)), (1, .int (zi v)), (2, .int (zi ((k : Nat) : Int))), (3, .int (zi ((w : Nat) : Int))), (4, .int (zi x)), (5, .int (zi (1 : Int))), (6, .int (zi ((i : Nat) : Int)))]) K dX9_may_120 (by decide) rfl ?_
                          refine z_iincN (lv' := [(0, .ref (ad 39)), (1, .int (zi v)), (2, .int (zi ((k : Nat) : Int))), (3, .int (zi ((w : Nat) : Int))), (4, .int (zi x)), (5, .int (zi (1 : Int))), (6, .int (zi ((i + 1 : Nat) : Int)))]) K dX9_may_122 rfl (by decide) rfl ?_
                          refine z_goto (tgt := 65) K dX9_may_125 (by decide) ?_
                          have e9 : (1 : Int) = zfit (μ 51) (μ 52) x (i + 1) := by
                            rw [zfit_s]
                            omega
                          rw [e9]
                          exact ihi (i + 1) (by omega) (by omega)
                    · refine z_iconst K dX9_may_91 ?_
                      refine z_goto (tgt := 96) K dX9_may_92 (by decide) ?_
                      refine z_aload_n K dX9_may_96 rfl ?_
                      refine z_get (k := 39) (v := .ref (ad 52)) K dX9_may_97 fl_X9_47 rfl rfl rfl ?_
                      refine z_iload K dX9_may_100 rfl ?_
                      refine z_iald (k := 52) (v := μ 52 i) K dX9_may_102 i rfl (by decide) (by omega) (by omega) rfl ?_
                      refine z_iconst K dX9_may_103 ?_
                      refine z_icmpne (tgt := 111) K dX9_may_104 (by decide) (by omega) ⟨by decide, by decide⟩ (fun h104 => ?_) (fun h104 => ?_)
                      · refine z_iconst K dX9_may_111 ?_
                        refine z_icmpne (tgt := 119) K dX9_may_112 (by decide) ⟨by decide, by decide⟩ ⟨by decide, by decide⟩ (fun h112 => ?_) (fun h112 => ?_)
                        · refine z_iconst K dX9_may_119 ?_
                          refine z_istore (lv' := [(0, .ref (ad 39)), (1, .int (zi v)), (2, .int (zi ((k : Nat) : Int))), (3, .int (zi ((w : Nat) : Int))), (4, .int (zi x)), (5, .int (zi (0 : Int))), (6, .int (zi ((i : Nat) : Int)))]) K dX9_may_120 (by decide) rfl ?_
                          refine z_iincN (lv' := [(0, .ref (ad 39)), (1, .int (zi v)), (2, .int (zi ((k : Nat) : Int))), (3, .int (zi ((w : Nat) : Int))), (4, .int (zi x)), (5, .int (zi (0 : Int))), (6, .int (zi ((i + 1 : Nat) : Int)))]) K dX9_may_122 rfl (by decide) rfl ?_
                          refine z_goto (tgt := 65) K dX9_may_125 (by decide) ?_
                          have e9 : (0 : Int) = zfit (μ 51) (μ 52) x (i + 1) := by
                            rw [zfit_s]
                            omega
                          rw [e9]
                          exact ihi (i + 1) (by omega) (by omega)
                        · refine z_iconst K dX9_may_115 ?_
                          refine z_goto (tgt := 120) K dX9_may_116 (by decide) ?_
                          refine z_istore (lv' := [(0, .ref (ad 39)), (1, .int (zi v)), (2, .int (zi ((k : Nat) : Int))), (3, .int (zi ((w : Nat) : Int))), (4, .int (zi x)), (5, .int (zi (1 : Int))), (6, .int (zi ((i : Nat) : Int)))]) K dX9_may_120 (by decide) rfl ?_
                          refine z_iincN (lv' := [(0, .ref (ad 39)), (1, .int (zi v)), (2, .int (zi ((k : Nat) : Int))), (3, .int (zi ((w : Nat) : Int))), (4, .int (zi x)), (5, .int (zi (1 : Int))), (6, .int (zi ((i + 1 : Nat) : Int)))]) K dX9_may_122 rfl (by decide) rfl ?_
                          refine z_goto (tgt := 65) K dX9_may_125 (by decide) ?_
                          have e9 : (1 : Int) = zfit (μ 51) (μ 52) x (i + 1) := by
                            rw [zfit_s]
                            omega
                          rw [e9]
                          exact ihi (i + 1) (by omega) (by omega)
                      · refine z_iconst K dX9_may_107 ?_
                        refine z_goto (tgt := 112) K dX9_may_108 (by decide) ?_
                        refine z_icmpne (tgt := 119) K dX9_may_112 (by decide) ⟨by decide, by decide⟩ ⟨by decide, by decide⟩ (fun h112 => ?_) (fun h112 => ?_)
                        · refine z_iconst K dX9_may_119 ?_
                          refine z_istore (lv' := [(0, .ref (ad 39)), (1, .int (zi v)), (2, .int (zi ((k : Nat) : Int))), (3, .int (zi ((w : Nat) : Int))), (4, .int (zi x)), (5, .int (zi (0 : Int))), (6, .int (zi ((i : Nat) : Int)))]) K dX9_may_120 (by decide) rfl ?_
                          refine z_iincN (lv' := [(0, .ref (ad 39)), (1, .int (zi v)), (2, .int (zi ((k : Nat) : Int))), (3, .int (zi ((w : Nat) : Int))), (4, .int (zi x)), (5, .int (zi (0 : Int))), (6, .int (zi ((i + 1 : Nat) : Int)))]) K dX9_may_122 rfl (by decide) rfl ?_
                          refine z_goto (tgt := 65) K dX9_may_125 (by decide) ?_
                          have e9 : (0 : Int) = zfit (μ 51) (μ 52) x (i + 1) := by
                            rw [zfit_s]
                            omega
                          rw [e9]
                          exact ihi (i + 1) (by omega) (by omega)
                        · refine z_iconst K dX9_may_115 ?_
                          refine z_goto (tgt := 120) K dX9_may_116 (by decide) ?_
                          refine z_istore (lv' := [(0, .ref (ad 39)), (1, .int (zi v)), (2, .int (zi ((k : Nat) : Int))), (3, .int (zi ((w : Nat) : Int))), (4, .int (zi x)), (5, .int (zi (1 : Int))), (6, .int (zi ((i : Nat) : Int)))]) K dX9_may_120 (by decide) rfl ?_
                          refine z_iincN (lv' := [(0, .ref (ad 39)), (1, .int (zi v)), (2, .int (zi ((k : Nat) : Int))), (3, .int (zi ((w : Nat) : Int))), (4, .int (zi x)), (5, .int (zi (1 : Int))), (6, .int (zi ((i + 1 : Nat) : Int)))]) K dX9_may_122 rfl (by decide) rfl ?_
                          refine z_goto (tgt := 65) K dX9_may_125 (by decide) ?_
                          have e9 : (1 : Int) = zfit (μ 51) (μ 52) x (i + 1) := by
                            rw [zfit_s]
                            omega
                          rw [e9]
                          exact ihi (i + 1) (by omega) (by omega)
              exact L65 _ (by unfold zal; first | rw [if_neg (by omega)] | rw [if_pos rfl, if_pos (by omega)]) (by first | omega | (unfold zal; omega)) 0 (by omega)
            · refine z_iload_n K dX9_may_49 rfl ?_
              refine z_callSd K hl1 hg1 (As := [.int (zi ((w : Nat) : Int))]) (rest := []) (cm_halfOf la g0 ad (zup μ 39 g) ((w : Nat) : Int) (by omega)) (by decide) lk_X9_115 cd_X9_halfOf rfl rfl (Nat.le_of_ble_eq_true rfl) dX9_may_50 ?_
              show zV χ 7 ad zSH 0 0 53 [(0, .ref (ad 39)), (1, .int (zi v)), (2, .int (zi ((k : Nat) : Int))), (3, .int (zi ((w : Nat) : Int)))] [.int (zi (zal ((w : Nat) : Int) 2))] (zup μ 39 g)
              refine z_goto (tgt := 57) K dX9_may_53 (by decide) ?_
              refine z_istore (lv' := [(0, .ref (ad 39)), (1, .int (zi v)), (2, .int (zi ((k : Nat) : Int))), (3, .int (zi ((w : Nat) : Int))), (4, .int (zi (zal ((w : Nat) : Int) 2)))]) K dX9_may_57 (by decide) rfl ?_
              refine z_iconst K dX9_may_59 ?_
              refine z_istore (lv' := [(0, .ref (ad 39)), (1, .int (zi v)), (2, .int (zi ((k : Nat) : Int))), (3, .int (zi ((w : Nat) : Int))), (4, .int (zi (zal ((w : Nat) : Int) 2))), (5, .int (zi (1 : Int)))]) K dX9_may_60 (by decide) rfl ?_
              refine z_iconst K dX9_may_62 ?_
              refine z_istore (lv' := [(0, .ref (ad 39)), (1, .int (zi v)), (2, .int (zi ((k : Nat) : Int))), (3, .int (zi ((w : Nat) : Int))), (4, .int (zi (zal ((w : Nat) : Int) 2))), (5, .int (zi (1 : Int))), (6, .int (zi (0 : Int)))]) K dX9_may_63 (by decide) rfl ?_
              have L65 : ∀ x : Int, x = zal ((w : Nat) : Int) ((k : Nat) : Int) → 0 ≤ x ∧ x ≤ 9 → ∀ i, i ≤ t → zV χ 7 ad zSH 0 0 65 [(0, .ref (ad 39)), (1, .int (zi v)), (2, .int (zi ((k : Nat) : Int))), (3, .int (zi ((w : Nat) : Int))), (4, .int (zi x)), (5, .int (zi (zfit (μ 51) (μ 52) x i))), (6, .int (zi ((i : Nat) : Int)))] [] (zup μ 39 g) := by
                intro x hx hx9
                refine zfor ?_
                intro i hi ihi
                have hfr := zfit_rg (μ 51) (μ 52) x i
                refine z_iload K dX9_may_65 rfl ?_
                refine z_aload_n K dX9_may_67 rfl ?_
                refine z_get (k := 39) (v := .int (zi (g 20))) K dX9_may_68 fl_X9_161 rfl rfl rfl ?_
                rw [show (g 20) = ((t : Nat) : Int) from ht9]
                refine z_icmpge (tgt := 128) K dX9_may_71 (by decide) (by omega) (by omega) (fun h71 => ?_) (fun h71 => ?_)
                · have hit : i = t := by omega
                  have hft : zfit (μ 51) (μ 52) x i = zfit (μ 51) (μ 52) x t := by rw [hit]
                  refine z_aload_n K dX9_may_128 rfl ?_
                  refine z_iload K dX9_may_129 rfl ?_
                  refine z_ifeq (tgt := 150) K dX9_may_131 (by decide) (by omega) (fun h131 => ?_) (fun h131 => ?_)
                  · refine z_aload_n K dX9_may_150 rfl ?_
                    refine z_get (k := 39) (v := .int (zi (g 29))) K dX9_may_151 fl_X9_241 rfl rfl rfl ?_
                    rw [show (g 29) = (zmy (fun x => zfit (μ 51) (μ 52) x t) (9 * k + (w - 1))).2 from hg9]
                    refine z_puti (k := 39) K dX9_may_154 fp_X9_241 rfl rfl (z_mem (ν := zup μ 39 (zu1 g 29 ((zmy (fun x => zfit (μ 51) (μ 52) x t) (9 * k + (w - 1))).2))) (zup_same _ _ _ _) ?_)
                    refine z_aload_n K dX9_may_157 rfl ?_
                    refine z_dup K dX9_may_158 rfl ?_
                    refine z_get (k := 39) (v := .int (zi ((zu1 g 29 ((zmy (fun x => zfit (μ 51) (μ 52) x t) (9 * k + (w - 1))).2)) 28))) K dX9_may_159 fl_X9_238 rfl rfl rfl ?_
                    rw [show ((zu1 g 29 ((zmy (fun x => zfit (μ 51) (μ 52) x t) (9 * k + (w - 1))).2)) 28) = (zmy (fun x => zfit (μ 51) (μ 52) x t) (9 * k + (w - 1))).1 from hg8]
                    refine z_iload K dX9_may_162 rfl ?_
                    refine z_ifeq (tgt := 171) K dX9_may_164 (by decide) (by omega) (fun h164 => ?_) (fun h164 => absurd h164 (by omega))
                    refine z_iconst K dX9_may_171 ?_
                    refine z_iadd K dX9_may_172 ?_
                    refine z_puti (k := 39) K dX9_may_173 fp_X9_238 rfl rfl (z_mem (ν := zup μ 39 (zu1 (zu1 g 29 ((zmy (fun x => zfit (μ 51) (μ 52) x t) (9 * k + (w - 1))).2)) 28 (((zmy (fun x => zfit (μ 51) (μ 52) x t) (9 * k + (w - 1))).1) + (0 : Int)))) (zup_same _ _ _ _) ?_)
                    refine z_iincN (lv' := [(0, .ref (ad 39)), (1, .int (zi v)), (2, .int (zi ((k : Nat) : Int))), (3, .int (zi ((w + 1 : Nat) : Int))), (4, .int (zi x)), (5, .int (zi (zfit (μ 51) (μ 52) x i))), (6, .int (zi ((i : Nat) : Int)))]) K dX9_may_176 rfl (by decide) rfl ?_
                    refine z_goto (tgt := 38) K dX9_may_179 (by decide) ?_
                    refine z_ipick [0, 1, 2, 3] rfl ?_
                    exact ihw (w + 1) (by omega) (by omega) (by omega) _ (zFh_u (zFh_u hgf (by decide) _) (by decide) _) (by
                      rw [zu1_eq]
                      rw [show 9 * k + (w + 1 - 1) = (9 * k + (w - 1)) + 1 by omega, zmy_s]
                      rw [show (9 * k + (w - 1)) % 9 + 1 = w by omega, show (9 * k + (w - 1)) / 9 = k by omega, ← hx, if_pos (by omega)]
                      all_goals omega) (by
                      rw [zu1_ne _ _ (by decide), zu1_eq]
                      rw [show 9 * k + (w + 1 - 1) = (9 * k + (w - 1)) + 1 by omega, zmy_s]
                      rw [show (9 * k + (w - 1)) % 9 + 1 = w by omega, show (9 * k + (w - 1)) / 9 = k by omega, ← hx, if_pos (by omega)]
                      all_goals omega)
                  · refine z_aload_n K dX9_may_134 rfl ?_
                    refine z_get (k := 39) (v := .int (zi (g 28))) K dX9_may_135 fl_X9_238 rfl rfl rfl ?_
                    rw [show (g 28) = (zmy (fun x => zfit (μ 51) (μ 52) x t) (9 * k + (w - 1))).1 from hg8]
                    refine z_ifne (tgt := 150) K dX9_may_138 (by decide) (by omega) (fun h138 => ?_) (fun h138 => ?_)
                    · refine z_aload_n K dX9_may_150 rfl ?_
                      refine z_get (k := 39) (v := .int (zi (g 29))) K dX9_may_151 fl_X9_241 rfl rfl rfl ?_
                      rw [show (g 29) = (zmy (fun x => zfit (μ 51) (μ 52) x t) (9 * k + (w - 1))).2 from hg9]
                      refine z_puti (k := 39) K dX9_may_154 fp_X9_241 rfl rfl (z_mem (ν := zup μ 39 (zu1 g 29 ((zmy (fun x => zfit (μ 51) (μ 52) x t) (9 * k + (w - 1))).2))) (zup_same _ _ _ _) ?_)
                      refine z_aload_n K dX9_may_157 rfl ?_
                      refine z_dup K dX9_may_158 rfl ?_
                      refine z_get (k := 39) (v := .int (zi ((zu1 g 29 ((zmy (fun x => zfit (μ 51) (μ 52) x t) (9 * k + (w - 1))).2)) 28))) K dX9_may_159 fl_X9_238 rfl rfl rfl ?_
                      rw [show ((zu1 g 29 ((zmy (fun x => zfit (μ 51) (μ 52) x t) (9 * k + (w - 1))).2)) 28) = (zmy (fun x => zfit (μ 51) (μ 52) x t) (9 * k + (w - 1))).1 from hg8]
                      refine z_iload K dX9_may_162 rfl ?_
                      refine z_ifeq (tgt := 171) K dX9_may_164 (by decide) (by omega) (fun h164 => absurd h164 (by omega)) (fun h164 => ?_)
                      refine z_iconst K dX9_may_167 ?_
                      refine z_goto (tgt := 172) K dX9_may_168 (by decide) ?_
                      refine z_iadd K dX9_may_172 ?_
                      refine z_puti (k := 39) K dX9_may_173 fp_X9_238 rfl rfl (z_mem (ν := zup μ 39 (zu1 (zu1 g 29 ((zmy (fun x => zfit (μ 51) (μ 52) x t) (9 * k + (w - 1))).2)) 28 (((zmy (fun x => zfit (μ 51) (μ 52) x t) (9 * k + (w - 1))).1) + (1 : Int)))) (zup_same _ _ _ _) ?_)
                      refine z_iincN (lv' := [(0, .ref (ad 39)), (1, .int (zi v)), (2, .int (zi ((k : Nat) : Int))), (3, .int (zi ((w + 1 : Nat) : Int))), (4, .int (zi x)), (5, .int (zi (zfit (μ 51) (μ 52) x i))), (6, .int (zi ((i : Nat) : Int)))]) K dX9_may_176 rfl (by decide) rfl ?_
                      refine z_goto (tgt := 38) K dX9_may_179 (by decide) ?_
                      refine z_ipick [0, 1, 2, 3] rfl ?_
                      exact ihw (w + 1) (by omega) (by omega) (by omega) _ (zFh_u (zFh_u hgf (by decide) _) (by decide) _) (by
                        rw [zu1_eq]
                        rw [show 9 * k + (w + 1 - 1) = (9 * k + (w - 1)) + 1 by omega, zmy_s]
                        rw [show (9 * k + (w - 1)) % 9 + 1 = w by omega, show (9 * k + (w - 1)) / 9 = k by omega, ← hx, if_neg (by omega)]
                        all_goals omega) (by
                        rw [zu1_ne _ _ (by decide), zu1_eq]
                        rw [show 9 * k + (w + 1 - 1) = (9 * k + (w - 1)) + 1 by omega, zmy_s]
                        rw [show (9 * k + (w - 1)) % 9 + 1 = w by omega, show (9 * k + (w - 1)) / 9 = k by omega, ← hx, if_neg (by omega)]
                        dsimp only
                        rw [if_neg (by omega)]
                        all_goals omega)
                    · refine z_bipush K dX9_may_141 (by decide +kernel) ?_
                      refine z_iload_n K dX9_may_143 rfl ?_
                      refine z_imul K dX9_may_144 ?_
                      refine z_iload_n K dX9_may_145 rfl ?_
                      refine z_iadd K dX9_may_146 ?_
                      refine z_goto (tgt := 154) K dX9_may_147 (by decide) ?_
                      refine z_puti (k := 39) K dX9_may_154 fp_X9_241 rfl rfl (z_mem (ν := zup μ 39 (zu1 g 29 (((10 : Int) * ((k : Nat) : Int)) + ((w : Nat) : Int)))) (zup_same _ _ _ _) ?_)
                      refine z_aload_n K dX9_may_157 rfl ?_
                      refine z_dup K dX9_may_158 rfl ?_
                      refine z_get (k := 39) (v := .int (zi ((zu1 g 29 (((10 : Int) * ((k : Nat) : Int)) + ((w : Nat) : Int))) 28))) K dX9_may_159 fl_X9_238 rfl rfl rfl ?_
                      rw [show ((zu1 g 29 (((10 : Int) * ((k : Nat) : Int)) + ((w : Nat) : Int))) 28) = (zmy (fun x => zfit (μ 51) (μ 52) x t) (9 * k + (w - 1))).1 from hg8]
                      refine z_iload K dX9_may_162 rfl ?_
                      refine z_ifeq (tgt := 171) K dX9_may_164 (by decide) (by omega) (fun h164 => absurd h164 (by omega)) (fun h164 => ?_)
                      refine z_iconst K dX9_may_167 ?_
                      refine z_goto (tgt := 172) K dX9_may_168 (by decide) ?_
                      refine z_iadd K dX9_may_172 ?_
                      refine z_puti (k := 39) K dX9_may_173 fp_X9_238 rfl rfl (z_mem (ν := zup μ 39 (zu1 (zu1 g 29 (((10 : Int) * ((k : Nat) : Int)) + ((w : Nat) : Int))) 28 (((zmy (fun x => zfit (μ 51) (μ 52) x t) (9 * k + (w - 1))).1) + (1 : Int)))) (zup_same _ _ _ _) ?_)
                      refine z_iincN (lv' := [(0, .ref (ad 39)), (1, .int (zi v)), (2, .int (zi ((k : Nat) : Int))), (3, .int (zi ((w + 1 : Nat) : Int))), (4, .int (zi x)), (5, .int (zi (zfit (μ 51) (μ 52) x i))), (6, .int (zi ((i : Nat) : Int)))]) K dX9_may_176 rfl (by decide) rfl ?_
                      refine z_goto (tgt := 38) K dX9_may_179 (by decide) ?_
                      refine z_ipick [0, 1, 2, 3] rfl ?_
                      exact ihw (w + 1) (by omega) (by omega) (by omega) _ (zFh_u (zFh_u hgf (by decide) _) (by decide) _) (by
                        rw [zu1_eq]
                        rw [show 9 * k + (w + 1 - 1) = (9 * k + (w - 1)) + 1 by omega, zmy_s]
                        rw [show (9 * k + (w - 1)) % 9 + 1 = w by omega, show (9 * k + (w - 1)) / 9 = k by omega, ← hx, if_neg (by omega)]
                        all_goals omega) (by
                        rw [zu1_ne _ _ (by decide), zu1_eq]
                        rw [show 9 * k + (w + 1 - 1) = (9 * k + (w - 1)) + 1 by omega, zmy_s]
                        rw [show (9 * k + (w - 1)) % 9 + 1 = w by omega, show (9 * k + (w - 1)) / 9 = k by omega, ← hx, if_neg (by omega)]
                        dsimp only
                        rw [if_pos (by omega)]
                        all_goals omega)
                · have hdi := hd i (by omega)
                  refine z_iload K dX9_may_74 rfl ?_
                  refine z_ifeq (tgt := 119) K dX9_may_76 (by decide) (by omega) (fun h76 => ?_) (fun h76 => ?_)
                  · refine z_iconst K dX9_may_119 ?_
                    refine z_istore (lv' := [(0, .ref (ad 39)), (1, .int (zi v)), (2, .int (zi ((k : Nat) : Int))), (3, .int (zi ((w : Nat) : Int))), (4, .int (zi x)), (5, .int (zi (0 : Int))), (6, .int (zi ((i : Nat) : Int)))]) K dX9_may_120 (by decide) rfl ?_
                    refine z_iincN (lv' := [(0, .ref (ad 39)), (1, .int (zi v)), (2, .int (zi ((k : Nat) : Int))), (3, .int (zi ((w : Nat) : Int))), (4, .int (zi x)), (5, .int (zi (0 : Int))), (6, .int (zi ((i + 1 : Nat) : Int)))]) K dX9_may_122 rfl (by decide) rfl ?_
                    refine z_goto (tgt := 65) K dX9_may_125 (by decide) ?_
                    have e9 : (0 : Int) = zfit (μ 51) (μ 52) x (i + 1) := by
                      rw [zfit_s]
                      omega
                    rw [e9]
                    exact ihi (i + 1) (by omega) (by omega)
                  · refine z_aload_n K dX9_may_79 rfl ?_
                    refine z_get (k := 39) (v := .ref (ad 51)) K dX9_may_80 fl_X9_44 rfl rfl rfl ?_
                    refine z_iload K dX9_may_83 rfl ?_
                    refine z_iald (k := 51) (v := μ 51 i) K dX9_may_85 i rfl (by decide) (by omega) (by omega) rfl ?_
                    refine z_iload K dX9_may_86 rfl ?_
                    refine z_icmplt (tgt := 95) K dX9_may_88 (by decide) (by omega) (by omega) (fun h88 => ?_) (fun h88 => ?_)
                    · refine z_iconst K dX9_may_95 ?_
                      refine z_aload_n K dX9_may_96 rfl ?_
                      refine z_get (k := 39) (v := .ref (ad 52)) K dX9_may_97 fl_X9_47 rfl rfl rfl ?_
                      refine z_iload K dX9_may_100 rfl ?_
                      refine z_iald (k := 52) (v := μ 52 i) K dX9_may_102 i rfl (by decide) (by omega) (by omega) rfl ?_
                      refine z_iconst K dX9_may_103 ?_
                      refine z_icmpne (tgt := 111) K dX9_may_104 (by decide) (by omega) ⟨by decide, by decide⟩ (fun h104 => ?_) (fun h104 => ?_)
                      · refine z_iconst K dX9_may_111 ?_
                        refine z_icmpne (tgt := 119) K dX9_may_112 (by decide) ⟨by decide, by decide⟩ ⟨by decide, by decide⟩ (fun h112 => ?_) (fun h112 => ?_)
                        · refine z_iconst K dX9_may_119 ?_
                          refine z_istore (lv' := [(0, .ref (ad 39)), (1, .int (zi v)), (2, .int (zi ((k : Nat) : Int))), (3, .int (zi ((w : Nat) : Int))), (4, .int (zi x)), (5, .int (zi (0 : Int))), (6, .int (zi ((i : Nat) : Int)))]) K dX9_may_120 (by decide) rfl ?_
                          refine z_iincN (lv' := [(0, .ref (ad 39)), (1, .int (zi v)), (2, .int (zi ((k : Nat) : Int))), (3, .int (zi ((w : Nat) : Int))), (4, .int (zi x)), (5, .int (zi (0 : Int))), (6, .int (zi ((i + 1 : Nat) : Int)))]) K dX9_may_122 rfl (by decide) rfl ?_
                          refine z_goto (tgt := 65) K dX9_may_125 (by decide) ?_
                          have e9 : (0 : Int) = zfit (μ 51) (μ 52) x (i + 1) := by
                            rw [zfit_s]
                            omega
                          rw [e9]
                          exact ihi (i + 1) (by omega) (by omega)
                        · refine z_iconst K dX9_may_115 ?_
                          refine z_goto (tgt := 120) K dX9_may_116 (by decide) ?_
                          refine z_istore (lv' := [(0, .ref (ad 39)), (1, .int (zi v)), (2, .int (zi ((k : Nat) : Int))), (3, .int (zi ((w : Nat) : Int))), (4, .int (zi x)), (5, .int (zi (1 : Int))), (6, .int (zi ((i : Nat) : Int)))]) K dX9_may_120 (by decide) rfl ?_
                          refine z_iincN (lv' := [(0, .ref (ad 39)), (1, .int (zi v)), (2, .int (zi ((k : Nat) : Int))), (3, .int (zi ((w : Nat) : Int))), (4, .int (zi x)), (5, .int (zi (1 : Int))), (6, .int (zi ((i + 1 : Nat) : Int)))]) K dX9_may_122 rfl (by decide) rfl ?_
                          refine z_goto (tgt := 65) K dX9_may_125 (by decide) ?_
                          have e9 : (1 : Int) = zfit (μ 51) (μ 52) x (i + 1) := by
                            rw [zfit_s]
                            omega
                          rw [e9]
                          exact ihi (i + 1) (by omega) (by omega)
                      · refine z_iconst K dX9_may_107 ?_
                        refine z_goto (tgt := 112) K dX9_may_108 (by decide) ?_
                        refine z_icmpne (tgt := 119) K dX9_may_112 (by decide) ⟨by decide, by decide⟩ ⟨by decide, by decide⟩ (fun h112 => ?_) (fun h112 => ?_)
                        · refine z_iconst K dX9_may_119 ?_
                          refine z_istore (lv' := [(0, .ref (ad 39)), (1, .int (zi v)), (2, .int (zi ((k : Nat) : Int))), (3, .int (zi ((w : Nat) : Int))), (4, .int (zi x)), (5, .int (zi (0 : Int))), (6, .int (zi ((i : Nat) : Int)))]) K dX9_may_120 (by decide) rfl ?_
                          refine z_iincN (lv' := [(0, .ref (ad 39)), (1, .int (zi v)), (2, .int (zi ((k : Nat) : Int))), (3, .int (zi ((w : Nat) : Int))), (4, .int (zi x)), (5, .int (zi (0 : Int))), (6, .int (zi ((i + 1 : Nat) : Int)))]) K dX9_may_122 rfl (by decide) rfl ?_
                          refine z_goto (tgt := 65) K dX9_may_125 (by decide) ?_
                          have e9 : (0 : Int) = zfit (μ 51) (μ 52) x (i + 1) := by
                            rw [zfit_s]
                            omega
                          rw [e9]
                          exact ihi (i + 1) (by omega) (by omega)
                        · refine z_iconst K dX9_may_115 ?_
                          refine z_goto (tgt := 120) K dX9_may_116 (by decide) ?_
                          refine z_istore (lv' := [(0, .ref (ad 39)), (1, .int (zi v)), (2, .int (zi ((k : Nat) : Int))), (3, .int (zi ((w : Nat) : Int))), (4, .int (zi x)), (5, .int (zi (1 : Int))), (6, .int (zi ((i : Nat) : Int)))]) K dX9_may_120 (by decide) rfl ?_
                          refine z_iincN (lv' := [(0, .ref (ad 39)), (1, .int (zi v)), (2, .int (zi ((k : Nat) : Int))), (3, .int (zi ((w : Nat) : Int))), (4, .int (zi x)), (5, .int (zi (1 : Int))), (6, .int (zi ((i + 1 : Nat) : Int)))]) K dX9_may_122 rfl (by decide) rfl ?_
                          refine z_goto (tgt := 65) K dX9_may_125 (by decide) ?_
                          have e9 : (1 : Int) = zfit (μ 51) (μ 52) x (i + 1) := by
                            rw [zfit_s]
                            omega
                          rw [e9]
                          exact ihi (i + 1) (by omega) (by omega)
                    · refine z_iconst K dX9_may_91 ?_
                      refine z_goto (tgt := 96) K dX9_may_92 (by decide) ?_
                      refine z_aload_n K dX9_may_96 rfl ?_
                      refine z_get (k := 39) (v := .ref (ad 52)) K dX9_may_97 fl_X9_47 rfl rfl rfl ?_
                      refine z_iload K dX9_may_100 rfl ?_
                      refine z_iald (k := 52) (v := μ 52 i) K dX9_may_102 i rfl (by decide) (by omega) (by omega) rfl ?_
                      refine z_iconst K dX9_may_103 ?_
                      refine z_icmpne (tgt := 111) K dX9_may_104 (by decide) (by omega) ⟨by decide, by decide⟩ (fun h104 => ?_) (fun h104 => ?_)
                      · refine z_iconst K dX9_may_111 ?_
                        refine z_icmpne (tgt := 119) K dX9_may_112 (by decide) ⟨by decide, by decide⟩ ⟨by decide, by decide⟩ (fun h112 => ?_) (fun h112 => ?_)
                        · refine z_iconst K dX9_may_119 ?_
                          refine z_istore (lv' := [(0, .ref (ad 39)), (1, .int (zi v)), (2, .int (zi ((k : Nat) : Int))), (3, .int (zi ((w : Nat) : Int))), (4, .int (zi x)), (5, .int (zi (0 : Int))), (6, .int (zi ((i : Nat) : Int)))]) K dX9_may_120 (by decide) rfl ?_
                          refine z_iincN (lv' := [(0, .ref (ad 39)), (1, .int (zi v)), (2, .int (zi ((k : Nat) : Int))), (3, .int (zi ((w : Nat) : Int))), (4, .int (zi x)), (5, .int (zi (0 : Int))), (6, .int (zi ((i + 1 : Nat) : Int)))]) K dX9_may_122 rfl (by decide) rfl ?_
                          refine z_goto (tgt := 65) K dX9_may_125 (by decide) ?_
                          have e9 : (0 : Int) = zfit (μ 51) (μ 52) x (i + 1) := by
                            rw [zfit_s]
                            omega
                          rw [e9]
                          exact ihi (i + 1) (by omega) (by omega)
                        · refine z_iconst K dX9_may_115 ?_
                          refine z_goto (tgt := 120) K dX9_may_116 (by decide) ?_
                          refine z_istore (lv' := [(0, .ref (ad 39)), (1, .int (zi v)), (2, .int (zi ((k : Nat) : Int))), (3, .int (zi ((w : Nat) : Int))), (4, .int (zi x)), (5, .int (zi (1 : Int))), (6, .int (zi ((i : Nat) : Int)))]) K dX9_may_120 (by decide) rfl ?_
                          refine z_iincN (lv' := [(0, .ref (ad 39)), (1, .int (zi v)), (2, .int (zi ((k : Nat) : Int))), (3, .int (zi ((w : Nat) : Int))), (4, .int (zi x)), (5, .int (zi (1 : Int))), (6, .int (zi ((i + 1 : Nat) : Int)))]) K dX9_may_122 rfl (by decide) rfl ?_
                          refine z_goto (tgt := 65) K dX9_may_125 (by decide) ?_
                          have e9 : (1 : Int) = zfit (μ 51) (μ 52) x (i + 1) := by
                            rw [zfit_s]
                            omega
                          rw [e9]
                          exact ihi (i + 1) (by omega) (by omega)
                      · refine z_iconst K dX9_may_107 ?_
                        refine z_goto (tgt := 112) K dX9_may_108 (by decide) ?_
                        refine z_icmpne (tgt := 119) K dX9_may_112 (by decide) ⟨by decide, by decide⟩ ⟨by decide, by decide⟩ (fun h112 => ?_) (fun h112 => ?_)
                        · refine z_iconst K dX9_may_119 ?_
                          refine z_istore (lv' := [(0, .ref (ad 39)), (1, .int (zi v)), (2, .int (zi ((k : Nat) : Int))), (3, .int (zi ((w : Nat) : Int))), (4, .int (zi x)), (5, .int (zi (0 : Int))), (6, .int (zi ((i : Nat) : Int)))]) K dX9_may_120 (by decide) rfl ?_
                          refine z_iincN (lv' := [(0, .ref (ad 39)), (1, .int (zi v)), (2, .int (zi ((k : Nat) : Int))), (3, .int (zi ((w : Nat) : Int))), (4, .int (zi x)), (5, .int (zi (0 : Int))), (6, .int (zi ((i + 1 : Nat) : Int)))]) K dX9_may_122 rfl (by decide) rfl ?_
                          refine z_goto (tgt := 65) K dX9_may_125 (by decide) ?_
                          have e9 : (0 : Int) = zfit (μ 51) (μ 52) x (i + 1) := by
                            rw [zfit_s]
                            omega
                          rw [e9]
                          exact ihi (i + 1) (by omega) (by omega)
                        · refine z_iconst K dX9_may_115 ?_
                          refine z_goto (tgt := 120) K dX9_may_116 (by decide) ?_
                          refine z_istore (lv' := [(0, .ref (ad 39)), (1, .int (zi v)), (2, .int (zi ((k : Nat) : Int))), (3, .int (zi ((w : Nat) : Int))), (4, .int (zi x)), (5, .int (zi (1 : Int))), (6, .int (zi ((i : Nat) : Int)))]) K dX9_may_120 (by decide) rfl ?_
                          refine z_iincN (lv' := [(0, .ref (ad 39)), (1, .int (zi v)), (2, .int (zi ((k : Nat) : Int))), (3, .int (zi ((w : Nat) : Int))), (4, .int (zi x)), (5, .int (zi (1 : Int))), (6, .int (zi ((i + 1 : Nat) : Int)))]) K dX9_may_122 rfl (by decide) rfl ?_
                          refine z_goto (tgt := 65) K dX9_may_125 (by decide) ?_
                          have e9 : (1 : Int) = zfit (μ 51) (μ 52) x (i + 1) := by
                            rw [zfit_s]
                            omega
                          rw [e9]
                          exact ihi (i + 1) (by omega) (by omega)
              exact L65 _ (by unfold zal; first | rw [if_neg (by omega)] | rw [if_pos rfl, if_pos (by omega)]) (by first | omega | (unfold zal; omega)) 0 (by omega)
        exact L38 1 (by omega) (by omega) g hgf hg8 hg9
    exact L31 0 (by omega) _ (by repeat (first | exact zFh_0 _ | refine zFh_u ?_ (by decide) _)) rfl rfl
  · refine z_bipush K dX9_may_15 (by decide +kernel) ?_
    exact z_ireti K T rfl dX9_may_17 ⟨by unfold zA_may; rw [if_pos (by omega)], zFr_h (zFr_0 μ) (zFh_u (zFh_0 _) (by decide) _)⟩
