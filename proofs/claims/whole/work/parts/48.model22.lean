set_option maxHeartbeats 4000000 in
set_option maxRecDepth 100000 in
theorem cq_rests (la : Launch) (g0 : zG) (ad : Nat → Nat) (μ : zMem) (n nc : Nat) (kd al wt an c : Nat → Int) (hm : zMP μ n nc kd al wt an) (hw : zHV n nc c) (hg : zAg n nc 7 (μ 46) c) (x y v : Int) (hx : zR x) (hy : zR y) (hv : zR v) : zCon la g0 yX9_rests cX9_rests 7 (some .int) 8 ad zSH [.ref (ad 39), .int (zi x), .int (zi y), .int (zi v)] μ (zPi (zQm μ (zA_rests n kd al nc an c x y v))) := by
  refine zCon_of (by decide +kernel) (Nat.le_of_ble_eq_true rfl) ?_
  intro χ K T hl1 hg1
  have K : zOk χ cX9_rests RX9 7 8 (some .int) := K
  obtain ⟨hn, hnc, hpl, hpa, hpk⟩ := id hm
  have hn6 := hpk.1
  have hnc3 := hpk.2.1
  refine z_mem (ν := zup (zup (zup (zup μ 54 (μ 54)) 39 (μ 39)) 47 (μ 47)) 53 (μ 53)) (zup_id4 μ 54 39 47 53) ?_
  show zV χ 7 ad zSH 0 0 0 [(0, .ref (ad 39)), (1, .int (zi x)), (2, .int (zi y)), (3, .int (zi v))] [] (zup (zup (zup (zup μ 54 (μ 54)) 39 (μ 39)) 47 (μ 47)) 53 (μ 53))
  refine z_aload_n K dX9_rests_0 rfl ?_
  refine z_iconst K dX9_rests_1 ?_
  refine z_puti (k := 39) K dX9_rests_2 fp_X9_59 rfl rfl (z_mem (ν := zup (zup (zup (zup μ 54 (μ 54)) 39 (zu1 (μ 39) 0 (0 : Int))) 47 (μ 47)) 53 (μ 53)) (zup_sw3 _ (by decide) (by decide) _ _ _ _) ?_)
  refine z_aload_n K dX9_rests_5 rfl ?_
  refine z_iload_n K dX9_rests_6 rfl ?_
  refine z_callVd K hl1 hg1 (kb := 39) (As := [.int (zi x)]) (rest := []) (cm_noClerk la g0 ad (zup (zup (zup (zup μ 54 (μ 54)) 39 (zu1 (μ 39) 0 (0 : Int))) 47 (μ 47)) 53 (μ 53)) nc hnc (by omega) x (by omega)) (by decide) lk_X9_168 cd_X9_noClerk rfl rfl rfl rfl (Nat.le_of_ble_eq_true rfl) dX9_rests_7 ?_
  show zV χ 7 ad zSH 0 0 10 [(0, .ref (ad 39)), (1, .int (zi x)), (2, .int (zi y)), (3, .int (zi v))] [.int (zi (if 0 ≤ x ∧ x < (nc : Int) then 0 else 1))] (zup (zup (zup (zup μ 54 (μ 54)) 39 (zu1 (μ 39) 0 (0 : Int))) 47 (μ 47)) 53 (μ 53))
  refine z_ifne (tgt := 21) K dX9_rests_10 (by decide) (by omega) (fun h10 => ?_) (fun h10 => ?_)
  · refine z_iconst K dX9_rests_21 ?_
    exact z_ireti K T rfl dX9_rests_22 ⟨by unfold zA_rests; rw [if_pos (by omega)], zFr_c (zFr_c (zFr_h (zFr_c (zFr_0 μ) (by decide) _) (zFh_u (zFh_0 _) (by decide) _)) (by decide) _) (by decide) _⟩
  · refine z_aload_n K dX9_rests_13 rfl ?_
    refine z_iload_n K dX9_rests_14 rfl ?_
    refine z_callVd K hl1 hg1 (kb := 39) (As := [.int (zi y)]) (rest := []) (cm_noClerk la g0 ad (zup (zup (zup (zup μ 54 (μ 54)) 39 (zu1 (μ 39) 0 (0 : Int))) 47 (μ 47)) 53 (μ 53)) nc hnc (by omega) y (by omega)) (by decide) lk_X9_168 cd_X9_noClerk rfl rfl rfl rfl (Nat.le_of_ble_eq_true rfl) dX9_rests_15 ?_
    show zV χ 7 ad zSH 0 0 18 [(0, .ref (ad 39)), (1, .int (zi x)), (2, .int (zi y)), (3, .int (zi v))] [.int (zi (if 0 ≤ y ∧ y < (nc : Int) then 0 else 1))] (zup (zup (zup (zup μ 54 (μ 54)) 39 (zu1 (μ 39) 0 (0 : Int))) 47 (μ 47)) 53 (μ 53))
    refine z_ifeq (tgt := 23) K dX9_rests_18 (by decide) (by omega) (fun h18 => ?_) (fun h18 => ?_)
    · refine z_iload_n K dX9_rests_23 rfl ?_
      refine z_iload_n K dX9_rests_24 rfl ?_
      refine z_icmpeq (tgt := 38) K dX9_rests_25 (by decide) (by omega) (by omega) (fun h25 => ?_) (fun h25 => ?_)
      · refine z_bipush K dX9_rests_38 (by decide +kernel) ?_
        exact z_ireti K T rfl dX9_rests_40 ⟨by unfold zA_rests; rw [if_neg (by omega), if_pos (by omega)], zFr_c (zFr_c (zFr_h (zFr_c (zFr_0 μ) (by decide) _) (zFh_u (zFh_0 _) (by decide) _)) (by decide) _) (by decide) _⟩
      · refine z_iload_n K dX9_rests_28 rfl ?_
        refine z_i2l K dX9_rests_29 (by omega) ?_
        refine z_lconst (z := 0) K dX9_rests_30 rfl ?_
        refine z_lconst (z := 1) K dX9_rests_31 rfl ?_
        refine z_callSd K hl1 hg1 (As := [.long (zl v), .long (zl (0 : Int)), .long (zl (1 : Int))]) (rest := []) (cm_in la g0 ad (zup (zup (zup (zup μ 54 (μ 54)) 39 (zu1 (μ 39) 0 (0 : Int))) 47 (μ 47)) 53 (μ 53)) v (0 : Int) (1 : Int) ⟨by omega, by omega⟩ ⟨by decide, by decide⟩ ⟨by decide, by decide⟩) (by decide) lk_X9_66 cd_X9_in rfl rfl (Nat.le_of_ble_eq_true rfl) dX9_rests_32 ?_
        show zV χ 7 ad zSH 0 0 35 [(0, .ref (ad 39)), (1, .int (zi x)), (2, .int (zi y)), (3, .int (zi v))] [.int (zi (if (0 : Int) ≤ v ∧ v ≤ (1 : Int) then 1 else 0))] (zup (zup (zup (zup μ 54 (μ 54)) 39 (zu1 (μ 39) 0 (0 : Int))) 47 (μ 47)) 53 (μ 53))
        refine z_ifne (tgt := 41) K dX9_rests_35 (by decide) (by omega) (fun h35 => ?_) (fun h35 => ?_)
        · obtain ⟨p, rfl⟩ : ∃ p : Nat, x = (p : Int) := ⟨x.toNat, by omega⟩
          obtain ⟨q, rfl⟩ : ∃ q : Nat, y = (q : Int) := ⟨y.toNat, by omega⟩
          refine z_iconst K dX9_rests_41 ?_
          refine z_istore (lv' := [(0, .ref (ad 39)), (1, .int (zi ((p : Nat) : Int))), (2, .int (zi ((q : Nat) : Int))), (3, .int (zi v)), (4, .int (zi (0 : Int)))]) K dX9_rests_42 (by decide) rfl ?_
          have L44 : ∀ k, k ≤ 9 → ∀ (h g t a : Nat → Int), zFh (μ 39) g → (∀ j, j < k → h (2 * j) = zg1 n kd al nc an c p q (j / 3) (j % 3) ∧ h (2 * j + 1) = zg2 n kd al nc an c p q (j / 3) (j % 3)) → zV χ 7 ad zSH 0 0 44 [(0, .ref (ad 39)), (1, .int (zi ((p : Nat) : Int))), (2, .int (zi ((q : Nat) : Int))), (3, .int (zi v)), (4, .int (zi ((k : Nat) : Int)))] [] (zup (zup (zup (zup μ 54 h) 39 g) 47 t) 53 a) := by
            refine zfor ?_
            intro k hk ihk h g t a hgf hfil
            refine z_iload K dX9_rests_44 rfl ?_
            refine z_bipush K dX9_rests_46 (by decide +kernel) ?_
            refine z_icmpge (tgt := 65) K dX9_rests_48 (by decide) (by omega) ⟨by decide, by decide⟩ (fun h48 => ?_) (fun h48 => ?_)
            · refine z_aload_n K dX9_rests_65 rfl ?_
              refine z_iconst K dX9_rests_66 ?_
              refine z_puti (k := 39) K dX9_rests_67 fp_X9_248 rfl rfl (z_mem (ν := zup (zup (zup (zup μ 54 h) 39 (zu1 g 30 (0 : Int))) 47 t) 53 a) (zup_sw3 _ (by decide) (by decide) _ _ _ _) ?_)
              refine z_aload_n K dX9_rests_70 rfl ?_
              refine z_bipush K dX9_rests_71 (by decide +kernel) ?_
              refine z_puti (k := 39) K dX9_rests_73 fp_X9_251 rfl rfl (z_mem (ν := zup (zup (zup (zup μ 54 h) 39 (zu1 (zu1 g 30 (0 : Int)) 31 (-9 : Int))) 47 t) 53 a) (zup_sw3 _ (by decide) (by decide) _ _ _ _) ?_)
              refine z_iconst K dX9_rests_76 ?_
              refine z_istore (lv' := [(0, .ref (ad 39)), (1, .int (zi ((p : Nat) : Int))), (2, .int (zi ((q : Nat) : Int))), (3, .int (zi v)), (4, .int (zi (0 : Int)))]) K dX9_rests_77 (by decide) rfl ?_
              have L79 : ∀ k, k ≤ 9 → ∀ (g : Nat → Int), zFh (μ 39) g → g 30 = (zrc (fun a b => zir (fun k => zg1 n kd al nc an c p q (k / 3) (k % 3)) (fun k => zg2 n kd al nc an c p q (k / 3) (k % 3)) a b 3) k).1 → g 31 = (zrc (fun a b => zir (fun k => zg1 n kd al nc an c p q (k / 3) (k % 3)) (fun k => zg2 n kd al nc an c p q (k / 3) (k % 3)) a b 3) k).2 → zV χ 7 ad zSH 0 0 79 [(0, .ref (ad 39)), (1, .int (zi ((p : Nat) : Int))), (2, .int (zi ((q : Nat) : Int))), (3, .int (zi v)), (4, .int (zi ((k : Nat) : Int)))] [] (zup (zup (zup (zup μ 54 h) 39 g) 47 t) 53 a) := by
                replace hfil : (∀ j, j < 9 → h (2 * j) = zg1 n kd al nc an c p q (j / 3) (j % 3) ∧ h (2 * j + 1) = zg2 n kd al nc an c p q (j / 3) (j % 3)) := fun j hj => hfil j (by omega)
                refine zfor ?_
                intro k hk ihk g hgf hg8 hg9
                have hrk := zrc_rg (fun a b => zir (fun k => zg1 n kd al nc an c p q (k / 3) (k % 3)) (fun k => zg2 n kd al nc an c p q (k / 3) (k % 3)) a b 3) k
                refine z_iload K dX9_rests_79 rfl ?_
                refine z_bipush K dX9_rests_81 (by decide +kernel) ?_
                refine z_icmpge (tgt := 237) K dX9_rests_83 (by decide) (by omega) ⟨by decide, by decide⟩ (fun h83 => ?_) (fun h83 => ?_)
                · refine z_iload_n K dX9_rests_237 rfl ?_
                  refine z_ifne (tgt := 248) K dX9_rests_238 (by decide) (by omega) (fun h238 => ?_) (fun h238 => ?_)
                  · refine z_aload_n K dX9_rests_248 rfl ?_
                    refine z_get (k := 39) (v := .int (zi (g 31))) K dX9_rests_249 fl_X9_251 rfl rfl rfl ?_
                    rw [show (g 31) = (zrc (fun a b => zir (fun k => zg1 n kd al nc an c p q (k / 3) (k % 3)) (fun k => zg2 n kd al nc an c p q (k / 3) (k % 3)) a b 3) k).2 from hg9]
                    exact z_ireti K T rfl dX9_rests_252 ⟨by unfold zA_rests; rw [if_neg (by omega), if_neg (by omega), if_neg (by omega), Int.toNat_natCast, Int.toNat_natCast, show k = 9 by omega], zFr_c (zFr_c (zFr_h (zFr_c (zFr_0 μ) (by decide) _) hgf) (by decide) _) (by decide) _⟩
                  · refine z_aload_n K dX9_rests_241 rfl ?_
                    refine z_get (k := 39) (v := .int (zi (g 30))) K dX9_rests_242 fl_X9_248 rfl rfl rfl ?_
                    rw [show (g 30) = (zrc (fun a b => zir (fun k => zg1 n kd al nc an c p q (k / 3) (k % 3)) (fun k => zg2 n kd al nc an c p q (k / 3) (k % 3)) a b 3) k).1 from hg8]
                    refine z_goto (tgt := 252) K dX9_rests_245 (by decide) ?_
                    exact z_ireti K T rfl dX9_rests_252 ⟨by unfold zA_rests; rw [if_neg (by omega), if_neg (by omega), if_pos (by omega), Int.toNat_natCast, Int.toNat_natCast, show k = 9 by omega], zFr_c (zFr_c (zFr_h (zFr_c (zFr_0 μ) (by decide) _) hgf) (by decide) _) (by decide) _⟩
                · refine z_iconst K dX9_rests_86 ?_
                  refine z_istore (lv' := [(0, .ref (ad 39)), (1, .int (zi ((p : Nat) : Int))), (2, .int (zi ((q : Nat) : Int))), (3, .int (zi v)), (4, .int (zi ((k : Nat) : Int))), (5, .int (zi (1 : Int)))]) K dX9_rests_87 (by decide) rfl ?_
                  refine z_iconst K dX9_rests_89 ?_
                  refine z_istore (lv' := [(0, .ref (ad 39)), (1, .int (zi ((p : Nat) : Int))), (2, .int (zi ((q : Nat) : Int))), (3, .int (zi v)), (4, .int (zi ((k : Nat) : Int))), (5, .int (zi (1 : Int))), (6, .int (zi (0 : Int)))]) K dX9_rests_90 (by decide) rfl ?_
                  have L92 : ∀ r, r ≤ 3 → zV χ 7 ad zSH 0 0 92 [(0, .ref (ad 39)), (1, .int (zi ((p : Nat) : Int))), (2, .int (zi ((q : Nat) : Int))), (3, .int (zi v)), (4, .int (zi ((k : Nat) : Int))), (5, .int (zi (zir (fun k => zg1 n kd al nc an c p q (k / 3) (k % 3)) (fun k => zg2 n kd al nc an c p q (k / 3) (k % 3)) (k / 3) (k % 3) r))), (6, .int (zi ((r : Nat) : Int)))] [] (zup (zup (zup (zup μ 54 h) 39 g) 47 t) 53 a) := by
                    refine zfor ?_
                    intro r hr ihr
                    have hir : zir (fun k => zg1 n kd al nc an c p q (k / 3) (k % 3)) (fun k => zg2 n kd al nc an c p q (k / 3) (k % 3)) (k / 3) (k % 3) r = 0 ∨ zir (fun k => zg1 n kd al nc an c p q (k / 3) (k % 3)) (fun k => zg2 n kd al nc an c p q (k / 3) (k % 3)) (k / 3) (k % 3) r = 1 := by
                      cases r with
                      | zero => exact Or.inr rfl
                      | succ r => rw [zir_s]; split <;> simp
                    refine z_iload K dX9_rests_92 rfl ?_
                    refine z_iconst K dX9_rests_94 ?_
                    refine z_icmpge (tgt := 177) K dX9_rests_95 (by decide) (by omega) ⟨by decide, by decide⟩ (fun h95 => ?_) (fun h95 => ?_)
                    · have hr3 : r = 3 := by omega
                      have hrr : zir (fun k => zg1 n kd al nc an c p q (k / 3) (k % 3)) (fun k => zg2 n kd al nc an c p q (k / 3) (k % 3)) (k / 3) (k % 3) r = zir (fun k => zg1 n kd al nc an c p q (k / 3) (k % 3)) (fun k => zg2 n kd al nc an c p q (k / 3) (k % 3)) (k / 3) (k % 3) 3 := by rw [hr3]
                      refine z_aload_n K dX9_rests_177 rfl ?_
                      refine z_iload K dX9_rests_178 rfl ?_
                      refine z_ifeq (tgt := 205) K dX9_rests_180 (by decide) (by omega) (fun h180 => ?_) (fun h180 => ?_)
                      · refine z_aload_n K dX9_rests_205 rfl ?_
                        refine z_get (k := 39) (v := .int (zi (g 31))) K dX9_rests_206 fl_X9_251 rfl rfl rfl ?_
                        rw [show (g 31) = (zrc (fun a b => zir (fun k => zg1 n kd al nc an c p q (k / 3) (k % 3)) (fun k => zg2 n kd al nc an c p q (k / 3) (k % 3)) a b 3) k).2 from hg9]
                        refine z_puti (k := 39) K dX9_rests_209 fp_X9_251 rfl rfl (z_mem (ν := zup (zup (zup (zup μ 54 h) 39 (zu1 g 31 ((zrc (fun a b => zir (fun k => zg1 n kd al nc an c p q (k / 3) (k % 3)) (fun k => zg2 n kd al nc an c p q (k / 3) (k % 3)) a b 3) k).2))) 47 t) 53 a) (zup_sw3 _ (by decide) (by decide) _ _ _ _) ?_)
                        refine z_aload_n K dX9_rests_212 rfl ?_
                        refine z_dup K dX9_rests_213 rfl ?_
                        refine z_get (k := 39) (v := .int (zi ((zu1 g 31 ((zrc (fun a b => zir (fun k => zg1 n kd al nc an c p q (k / 3) (k % 3)) (fun k => zg2 n kd al nc an c p q (k / 3) (k % 3)) a b 3) k).2)) 30))) K dX9_rests_214 fl_X9_248 rfl rfl rfl ?_
                        rw [show ((zu1 g 31 ((zrc (fun a b => zir (fun k => zg1 n kd al nc an c p q (k / 3) (k % 3)) (fun k => zg2 n kd al nc an c p q (k / 3) (k % 3)) a b 3) k).2)) 30) = (zrc (fun a b => zir (fun k => zg1 n kd al nc an c p q (k / 3) (k % 3)) (fun k => zg2 n kd al nc an c p q (k / 3) (k % 3)) a b 3) k).1 from hg8]
                        refine z_iload K dX9_rests_217 rfl ?_
                        refine z_ifeq (tgt := 226) K dX9_rests_219 (by decide) (by omega) (fun h219 => ?_) (fun h219 => absurd h219 (by omega))
                        refine z_iconst K dX9_rests_226 ?_
                        refine z_iadd K dX9_rests_227 ?_
                        refine z_puti (k := 39) K dX9_rests_228 fp_X9_248 rfl rfl (z_mem (ν := zup (zup (zup (zup μ 54 h) 39 (zu1 (zu1 g 31 ((zrc (fun a b => zir (fun k => zg1 n kd al nc an c p q (k / 3) (k % 3)) (fun k => zg2 n kd al nc an c p q (k / 3) (k % 3)) a b 3) k).2)) 30 (((zrc (fun a b => zir (fun k => zg1 n kd al nc an c p q (k / 3) (k % 3)) (fun k => zg2 n kd al nc an c p q (k / 3) (k % 3)) a b 3) k).1) + (0 : Int)))) 47 t) 53 a) (zup_sw3 _ (by decide) (by decide) _ _ _ _) ?_)
                        refine z_iincN (lv' := [(0, .ref (ad 39)), (1, .int (zi ((p : Nat) : Int))), (2, .int (zi ((q : Nat) : Int))), (3, .int (zi v)), (4, .int (zi ((k + 1 : Nat) : Int))), (5, .int (zi (zir (fun k => zg1 n kd al nc an c p q (k / 3) (k % 3)) (fun k => zg2 n kd al nc an c p q (k / 3) (k % 3)) (k / 3) (k % 3) r))), (6, .int (zi ((r : Nat) : Int)))]) K dX9_rests_231 rfl (by decide) rfl ?_
                        refine z_goto (tgt := 79) K dX9_rests_234 (by decide) ?_
                        refine z_ipick [0, 1, 2, 3, 4] rfl ?_
                        exact ihk (k + 1) (by omega) (by omega) _ (zFh_u (zFh_u hgf (by decide) _) (by decide) _) (by
                          rw [zu1_eq, zrc_s, if_pos (by omega)]
                          all_goals omega) (by
                          rw [zu1_ne _ _ (by decide), zu1_eq, zrc_s, if_pos (by omega)]
                          all_goals omega)
                      · refine z_aload_n K dX9_rests_183 rfl ?_
                        refine z_get (k := 39) (v := .int (zi (g 30))) K dX9_rests_184 fl_X9_248 rfl rfl rfl ?_
                        rw [show (g 30) = (zrc (fun a b => zir (fun k => zg1 n kd al nc an c p q (k / 3) (k % 3)) (fun k => zg2 n kd al nc an c p q (k / 3) (k % 3)) a b 3) k).1 from hg8]
                        refine z_ifne (tgt := 205) K dX9_rests_187 (by decide) (by omega) (fun h187 => ?_) (fun h187 => ?_)
                        · refine z_aload_n K dX9_rests_205 rfl ?_
                          refine z_get (k := 39) (v := .int (zi (g 31))) K dX9_rests_206 fl_X9_251 rfl rfl rfl ?_
                          rw [show (g 31) = (zrc (fun a b => zir (fun k => zg1 n kd al nc an c p q (k / 3) (k % 3)) (fun k => zg2 n kd al nc an c p q (k / 3) (k % 3)) a b 3) k).2 from hg9]
                          refine z_puti (k := 39) K dX9_rests_209 fp_X9_251 rfl rfl (z_mem (ν := zup (zup (zup (zup μ 54 h) 39 (zu1 g 31 ((zrc (fun a b => zir (fun k => zg1 n kd al nc an c p q (k / 3) (k % 3)) (fun k => zg2 n kd al nc an c p q (k / 3) (k % 3)) a b 3) k).2))) 47 t) 53 a) (zup_sw3 _ (by decide) (by decide) _ _ _ _) ?_)
                          refine z_aload_n K dX9_rests_212 rfl ?_
                          refine z_dup K dX9_rests_213 rfl ?_
                          refine z_get (k := 39) (v := .int (zi ((zu1 g 31 ((zrc (fun a b => zir (fun k => zg1 n kd al nc an c p q (k / 3) (k % 3)) (fun k => zg2 n kd al nc an c p q (k / 3) (k % 3)) a b 3) k).2)) 30))) K dX9_rests_214 fl_X9_248 rfl rfl rfl ?_
                          rw [show ((zu1 g 31 ((zrc (fun a b => zir (fun k => zg1 n kd al nc an c p q (k / 3) (k % 3)) (fun k => zg2 n kd al nc an c p q (k / 3) (k % 3)) a b 3) k).2)) 30) = (zrc (fun a b => zir (fun k => zg1 n kd al nc an c p q (k / 3) (k % 3)) (fun k => zg2 n kd al nc an c p q (k / 3) (k % 3)) a b 3) k).1 from hg8]
                          refine z_iload K dX9_rests_217 rfl ?_
                          refine z_ifeq (tgt := 226) K dX9_rests_219 (by decide) (by omega) (fun h219 => absurd h219 (by omega)) (fun h219 => ?_)
                          refine z_iconst K dX9_rests_222 ?_
                          refine z_goto (tgt := 227) K dX9_rests_223 (by decide) ?_
                          refine z_iadd K dX9_rests_227 ?_
                          refine z_puti (k := 39) K dX9_rests_228 fp_X9_248 rfl rfl (z_mem (ν := zup (zup (zup (zup μ 54 h) 39 (zu1 (zu1 g 31 ((zrc (fun a b => zir (fun k => zg1 n kd al nc an c p q (k / 3) (k % 3)) (fun k => zg2 n kd al nc an c p q (k / 3) (k % 3)) a b 3) k).2)) 30 (((zrc (fun a b => zir (fun k => zg1 n kd al nc an c p q (k / 3) (k % 3)) (fun k => zg2 n kd al nc an c p q (k / 3) (k % 3)) a b 3) k).1) + (1 : Int)))) 47 t) 53 a) (zup_sw3 _ (by decide) (by decide) _ _ _ _) ?_)
                          refine z_iincN (lv' := [(0, .ref (ad 39)), (1, .int (zi ((p : Nat) : Int))), (2, .int (zi ((q : Nat) : Int))), (3, .int (zi v)), (4, .int (zi ((k + 1 : Nat) : Int))), (5, .int (zi (zir (fun k => zg1 n kd al nc an c p q (k / 3) (k % 3)) (fun k => zg2 n kd al nc an c p q (k / 3) (k % 3)) (k / 3) (k % 3) r))), (6, .int (zi ((r : Nat) : Int)))]) K dX9_rests_231 rfl (by decide) rfl ?_
                          refine z_goto (tgt := 79) K dX9_rests_234 (by decide) ?_
                          refine z_ipick [0, 1, 2, 3, 4] rfl ?_
                          exact ihk (k + 1) (by omega) (by omega) _ (zFh_u (zFh_u hgf (by decide) _) (by decide) _) (by
                            rw [zu1_eq, zrc_s, if_neg (by omega)]
                            all_goals omega) (by
                            rw [zu1_ne _ _ (by decide), zu1_eq, zrc_s, if_neg (by omega)]
                            dsimp only
                            rw [if_neg (by omega)]
                            all_goals omega)
                        · refine z_bipush K dX9_rests_190 (by decide +kernel) ?_
                          refine z_iload K dX9_rests_192 rfl ?_
                          refine z_iconst K dX9_rests_194 ?_
                          refine z_idiv K dX9_rests_195 (by omega) (by omega) ?_
                          refine z_imul K dX9_rests_196 ?_
                          refine z_iload K dX9_rests_197 rfl ?_
                          refine z_iconst K dX9_rests_199 ?_
                          refine z_irem K dX9_rests_200 (by omega) (by omega) ?_
                          refine z_iadd K dX9_rests_201 ?_
                          refine z_goto (tgt := 209) K dX9_rests_202 (by decide) ?_
                          refine z_puti (k := 39) K dX9_rests_209 fp_X9_251 rfl rfl (z_mem (ν := zup (zup (zup (zup μ 54 h) 39 (zu1 g 31 (((10 : Int) * (((k : Nat) : Int) / (3 : Int))) + (((k : Nat) : Int) % (3 : Int))))) 47 t) 53 a) (zup_sw3 _ (by decide) (by decide) _ _ _ _) ?_)
                          refine z_aload_n K dX9_rests_212 rfl ?_
                          refine z_dup K dX9_rests_213 rfl ?_
                          refine z_get (k := 39) (v := .int (zi ((zu1 g 31 (((10 : Int) * (((k : Nat) : Int) / (3 : Int))) + (((k : Nat) : Int) % (3 : Int)))) 30))) K dX9_rests_214 fl_X9_248 rfl rfl rfl ?_
                          rw [show ((zu1 g 31 (((10 : Int) * (((k : Nat) : Int) / (3 : Int))) + (((k : Nat) : Int) % (3 : Int)))) 30) = (zrc (fun a b => zir (fun k => zg1 n kd al nc an c p q (k / 3) (k % 3)) (fun k => zg2 n kd al nc an c p q (k / 3) (k % 3)) a b 3) k).1 from hg8]
                          refine z_iload K dX9_rests_217 rfl ?_
                          refine z_ifeq (tgt := 226) K dX9_rests_219 (by decide) (by omega) (fun h219 => absurd h219 (by omega)) (fun h219 => ?_)
                          refine z_iconst K dX9_rests_222 ?_
                          refine z_goto (tgt := 227) K dX9_rests_223 (by decide) ?_
                          refine z_iadd K dX9_rests_227 ?_
                          refine z_puti (k := 39) K dX9_rests_228 fp_X9_248 rfl rfl (z_mem (ν := zup (zup (zup (zup μ 54 h) 39 (zu1 (zu1 g 31 (((10 : Int) * (((k : Nat) : Int) / (3 : Int))) + (((k : Nat) : Int) % (3 : Int)))) 30 (((zrc (fun a b => zir (fun k => zg1 n kd al nc an c p q (k / 3) (k % 3)) (fun k => zg2 n kd al nc an c p q (k / 3) (k % 3)) a b 3) k).1) + (1 : Int)))) 47 t) 53 a) (zup_sw3 _ (by decide) (by decide) _ _ _ _) ?_)
                          refine z_iincN (lv' := [(0, .ref (ad 39)), (1, .int (zi ((p : Nat) : Int))), (2, .int (zi ((q : Nat) : Int))), (3, .int (zi v)), (4, .int (zi ((k + 1 : Nat) : Int))), (5, .int (zi (zir (fun k => zg1 n kd al nc an c p q (k / 3) (k % 3)) (fun k => zg2 n kd al nc an c p q (k / 3) (k % 3)) (k / 3) (k % 3) r))), (6, .int (zi ((r : Nat) : Int)))]) K dX9_rests_231 rfl (by decide) rfl ?_
                          refine z_goto (tgt := 79) K dX9_rests_234 (by decide) ?_
                          refine z_ipick [0, 1, 2, 3, 4] rfl ?_
                          exact ihk (k + 1) (by omega) (by omega) _ (zFh_u (zFh_u hgf (by decide) _) (by decide) _) (by
                            rw [zu1_eq, zrc_s, if_neg (by omega)]
                            all_goals omega) (by
                            rw [zu1_ne _ _ (by decide), zu1_eq, zrc_s, if_neg (by omega)]
                            dsimp only
                            rw [if_pos (by omega)]
                            all_goals omega)
                    · have hf1 := hfil k (by omega)
                      have hf2 := (hfil (3 * r + k % 3) (by omega)).1
                      have hf3 := (hfil (3 * (k / 3) + r) (by omega)).2
                      have hz1 := zg1_rg hpk c p q (k / 3) (k % 3)
                      have hz2 := zg2_rg hpk c p q (k / 3) (k % 3)
                      have hz3 := zg1_rg hpk c p q ((3 * r + k % 3) / 3) ((3 * r + k % 3) % 3)
                      have hz4 := zg2_rg hpk c p q ((3 * (k / 3) + r) / 3) ((3 * (k / 3) + r) % 3)
                      refine z_iload K dX9_rests_98 rfl ?_
                      refine z_ifeq (tgt := 168) K dX9_rests_100 (by decide) (by omega) (fun h100 => ?_) (fun h100 => ?_)
                      · refine z_iconst K dX9_rests_168 ?_
                        refine z_istore (lv' := [(0, .ref (ad 39)), (1, .int (zi ((p : Nat) : Int))), (2, .int (zi ((q : Nat) : Int))), (3, .int (zi v)), (4, .int (zi ((k : Nat) : Int))), (5, .int (zi (0 : Int))), (6, .int (zi ((r : Nat) : Int)))]) K dX9_rests_169 (by decide) rfl ?_
                        refine z_iincN (lv' := [(0, .ref (ad 39)), (1, .int (zi ((p : Nat) : Int))), (2, .int (zi ((q : Nat) : Int))), (3, .int (zi v)), (4, .int (zi ((k : Nat) : Int))), (5, .int (zi (0 : Int))), (6, .int (zi ((r + 1 : Nat) : Int)))]) K dX9_rests_171 rfl (by decide) rfl ?_
                        refine z_goto (tgt := 92) K dX9_rests_174 (by decide) ?_
                        have e9 : (0 : Int) = zir (fun k => zg1 n kd al nc an c p q (k / 3) (k % 3)) (fun k => zg2 n kd al nc an c p q (k / 3) (k % 3)) (k / 3) (k % 3) (r + 1) := by
                          rw [zir_s]
                          rw [show 3 * (k / 3) + k % 3 = k by omega]
                          rw [if_neg (by omega)]
                        rw [e9]
                        exact ihr (r + 1) (by omega) (by omega)
                      · refine z_aload_n K dX9_rests_103 rfl ?_
                        refine z_get (k := 39) (v := .ref (ad 54)) K dX9_rests_104 fl_X9_53 rfl rfl rfl ?_
                        refine z_iconst K dX9_rests_107 ?_
                        refine z_iconst K dX9_rests_108 ?_
                        refine z_iload K dX9_rests_109 rfl ?_
                        refine z_imul K dX9_rests_111 ?_
                        refine z_iload K dX9_rests_112 rfl ?_
                        refine z_iconst K dX9_rests_114 ?_
                        refine z_irem K dX9_rests_115 (by omega) (by omega) ?_
                        refine z_iadd K dX9_rests_116 ?_
                        refine z_imul K dX9_rests_117 ?_
                        refine z_iald (k := 54) (v := zg1 n kd al nc an c p q ((3 * r + k % 3) / 3) ((3 * r + k % 3) % 3)) K dX9_rests_118 (2 * (3 * r + k % 3)) rfl (by decide) (by omega) (by omega) hf2 ?_
                        refine z_aload_n K dX9_rests_119 rfl ?_
                        refine z_get (k := 39) (v := .ref (ad 54)) K dX9_rests_120 fl_X9_53 rfl rfl rfl ?_
                        refine z_iconst K dX9_rests_123 ?_
                        refine z_iload K dX9_rests_124 rfl ?_
                        refine z_imul K dX9_rests_126 ?_
                        refine z_iald (k := 54) (v := zg1 n kd al nc an c p q (k / 3) (k % 3)) K dX9_rests_127 (2 * k) rfl (by decide) (by omega) (by omega) hf1.1 ?_
                        refine z_icmpgt (tgt := 168) K dX9_rests_128 (by decide) (by omega) (by omega) (fun h128 => ?_) (fun h128 => ?_)
                        · refine z_iconst K dX9_rests_168 ?_
                          refine z_istore (lv' := [(0, .ref (ad 39)), (1, .int (zi ((p : Nat) : Int))), (2, .int (zi ((q : Nat) : Int))), (3, .int (zi v)), (4, .int (zi ((k : Nat) : Int))), (5, .int (zi (0 : Int))), (6, .int (zi ((r : Nat) : Int)))]) K dX9_rests_169 (by decide) rfl ?_
                          refine z_iincN (lv' := [(0, .ref (ad 39)), (1, .int (zi ((p : Nat) : Int))), (2, .int (zi ((q : Nat) : Int))), (3, .int (zi v)), (4, .int (zi ((k : Nat) : Int))), (5, .int (zi (0 : Int))), (6, .int (zi ((r + 1 : Nat) : Int)))]) K dX9_rests_171 rfl (by decide) rfl ?_
                          refine z_goto (tgt := 92) K dX9_rests_174 (by decide) ?_
                          have e9 : (0 : Int) = zir (fun k => zg1 n kd al nc an c p q (k / 3) (k % 3)) (fun k => zg2 n kd al nc an c p q (k / 3) (k % 3)) (k / 3) (k % 3) (r + 1) := by
                            rw [zir_s]
                            rw [show 3 * (k / 3) + k % 3 = k by omega]
                            rw [if_neg (by omega)]
                          rw [e9]
                          exact ihr (r + 1) (by omega) (by omega)
                        · refine z_aload_n K dX9_rests_131 rfl ?_
                          refine z_get (k := 39) (v := .ref (ad 54)) K dX9_rests_132 fl_X9_53 rfl rfl rfl ?_
                          refine z_iconst K dX9_rests_135 ?_
                          refine z_iload K dX9_rests_136 rfl ?_
                          refine z_iload K dX9_rests_138 rfl ?_
                          refine z_iconst K dX9_rests_140 ?_
                          refine z_irem K dX9_rests_141 (by omega) (by omega) ?_
                          refine z_isub K dX9_rests_142 ?_
                          refine z_iload K dX9_rests_143 rfl ?_
                          refine z_iadd K dX9_rests_145 ?_
                          refine z_imul K dX9_rests_146 ?_
                          refine z_iconst K dX9_rests_147 ?_
                          refine z_iadd K dX9_rests_148 ?_
                          refine z_iald (k := 54) (v := zg2 n kd al nc an c p q ((3 * (k / 3) + r) / 3) ((3 * (k / 3) + r) % 3)) K dX9_rests_149 (2 * (3 * (k / 3) + r) + 1) rfl (by decide) (by omega) (by omega) hf3 ?_
                          refine z_aload_n K dX9_rests_150 rfl ?_
                          refine z_get (k := 39) (v := .ref (ad 54)) K dX9_rests_151 fl_X9_53 rfl rfl rfl ?_
                          refine z_iconst K dX9_rests_154 ?_
                          refine z_iload K dX9_rests_155 rfl ?_
                          refine z_imul K dX9_rests_157 ?_
                          refine z_iconst K dX9_rests_158 ?_
                          refine z_iadd K dX9_rests_159 ?_
                          refine z_iald (k := 54) (v := zg2 n kd al nc an c p q (k / 3) (k % 3)) K dX9_rests_160 (2 * k + 1) rfl (by decide) (by omega) (by omega) hf1.2 ?_
                          refine z_icmpgt (tgt := 168) K dX9_rests_161 (by decide) (by omega) (by omega) (fun h161 => ?_) (fun h161 => ?_)
                          · refine z_iconst K dX9_rests_168 ?_
                            refine z_istore (lv' := [(0, .ref (ad 39)), (1, .int (zi ((p : Nat) : Int))), (2, .int (zi ((q : Nat) : Int))), (3, .int (zi v)), (4, .int (zi ((k : Nat) : Int))), (5, .int (zi (0 : Int))), (6, .int (zi ((r : Nat) : Int)))]) K dX9_rests_169 (by decide) rfl ?_
                            refine z_iincN (lv' := [(0, .ref (ad 39)), (1, .int (zi ((p : Nat) : Int))), (2, .int (zi ((q : Nat) : Int))), (3, .int (zi v)), (4, .int (zi ((k : Nat) : Int))), (5, .int (zi (0 : Int))), (6, .int (zi ((r + 1 : Nat) : Int)))]) K dX9_rests_171 rfl (by decide) rfl ?_
                            refine z_goto (tgt := 92) K dX9_rests_174 (by decide) ?_
                            have e9 : (0 : Int) = zir (fun k => zg1 n kd al nc an c p q (k / 3) (k % 3)) (fun k => zg2 n kd al nc an c p q (k / 3) (k % 3)) (k / 3) (k % 3) (r + 1) := by
                              rw [zir_s]
                              rw [show 3 * (k / 3) + k % 3 = k by omega]
                              rw [if_neg (by omega)]
                            rw [e9]
                            exact ihr (r + 1) (by omega) (by omega)
                          · refine z_iconst K dX9_rests_164 ?_
                            refine z_goto (tgt := 169) K dX9_rests_165 (by decide) ?_
                            refine z_istore (lv' := [(0, .ref (ad 39)), (1, .int (zi ((p : Nat) : Int))), (2, .int (zi ((q : Nat) : Int))), (3, .int (zi v)), (4, .int (zi ((k : Nat) : Int))), (5, .int (zi (1 : Int))), (6, .int (zi ((r : Nat) : Int)))]) K dX9_rests_169 (by decide) rfl ?_
                            refine z_iincN (lv' := [(0, .ref (ad 39)), (1, .int (zi ((p : Nat) : Int))), (2, .int (zi ((q : Nat) : Int))), (3, .int (zi v)), (4, .int (zi ((k : Nat) : Int))), (5, .int (zi (1 : Int))), (6, .int (zi ((r + 1 : Nat) : Int)))]) K dX9_rests_171 rfl (by decide) rfl ?_
                            refine z_goto (tgt := 92) K dX9_rests_174 (by decide) ?_
                            have e9 : (1 : Int) = zir (fun k => zg1 n kd al nc an c p q (k / 3) (k % 3)) (fun k => zg2 n kd al nc an c p q (k / 3) (k % 3)) (k / 3) (k % 3) (r + 1) := by
                              rw [zir_s]
                              rw [show 3 * (k / 3) + k % 3 = k by omega]
                              rw [if_pos ⟨by omega, by omega, by omega⟩]
                            rw [e9]
                            exact ihr (r + 1) (by omega) (by omega)
                  exact L92 0 (by omega)
              exact L79 0 (by omega) _ (zFh_u (zFh_u hgf (by decide) _) (by decide) _) rfl rfl
            · refine z_aload_n K dX9_rests_51 rfl ?_
              refine z_iload_n K dX9_rests_52 rfl ?_
              refine z_iload_n K dX9_rests_53 rfl ?_
              refine z_iload K dX9_rests_54 rfl ?_
              refine z_callVv K hl1 hg1 (kb := 39) (As := [.int (zi ((p : Nat) : Int)), .int (zi ((q : Nat) : Int)), .int (zi ((k : Nat) : Int))]) (rest := []) (cm_layGains la g0 ad μ n nc kd al wt an c hm hw hg h g t a hgf p q k (by omega) (by omega) (by omega)) (by decide) lk_X9_244 cd_X9_layGains rfl rfl rfl rfl (Nat.le_of_ble_eq_true rfl) dX9_rests_56 (fun ν h56 => ?_)
              obtain ⟨t2, a2, hν⟩ := h56
              subst hν
              refine z_iincN (lv' := [(0, .ref (ad 39)), (1, .int (zi ((p : Nat) : Int))), (2, .int (zi ((q : Nat) : Int))), (3, .int (zi v)), (4, .int (zi ((k + 1 : Nat) : Int)))]) K dX9_rests_59 rfl (by decide) rfl ?_
              refine z_goto (tgt := 44) K dX9_rests_62 (by decide) ?_
              exact ihk (k + 1) (by omega) (by omega) _ _ t2 a2 (zFh_u hgf (by decide) _) (fun j hj => by
                by_cases e : j = k
                · subst e; exact ⟨by rw [zu1_ne _ _ (by omega), zu1_eq], zu1_eq _ _ _⟩
                · rw [zu1_ne _ _ (by omega), zu1_ne _ _ (by omega), zu1_ne _ _ (by omega), zu1_ne _ _ (by omega)]; exact hfil j (by omega))
          exact L44 0 (by omega) _ _ _ _ (zFh_u (zFh_0 _) (by decide) _) (fun j hj => absurd hj (by omega))
        · refine z_bipush K dX9_rests_38 (by decide +kernel) ?_
          exact z_ireti K T rfl dX9_rests_40 ⟨by unfold zA_rests; rw [if_neg (by omega), if_pos (by omega)], zFr_c (zFr_c (zFr_h (zFr_c (zFr_0 μ) (by decide) _) (zFh_u (zFh_0 _) (by decide) _)) (by decide) _) (by decide) _⟩
    · refine z_iconst K dX9_rests_21 ?_
      exact z_ireti K T rfl dX9_rests_22 ⟨by unfold zA_rests; rw [if_pos (by omega)], zFr_c (zFr_c (zFr_h (zFr_c (zFr_0 μ) (by decide) _) (zFh_u (zFh_0 _) (by decide) _)) (by decide) _) (by decide) _⟩
