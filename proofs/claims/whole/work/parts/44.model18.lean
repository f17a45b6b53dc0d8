def zhw (z : Int) (B m : Nat) : Nat → Int
  | 0 => 0
  | k + 1 => zhw z B m k + (if (m : Int) ≤ (B : Int) - (zpop k : Int) then zpw z (zpop k) * zpw (10 - z) (B - zpop k) else 0)
theorem zpop_b : ∀ B, B ≤ 6 → ∀ k, k < 2 ^ B → zpop k ≤ B := by decide +kernel
theorem zpw_ten : ∀ B, B ≤ 6 → zpw 10 B = ((zten B : Nat) : Int) := by decide +kernel
set_option maxRecDepth 100000 in
theorem zhw_sum : ∀ B, B ≤ 6 → ∀ z, z ≤ 10 → ∀ m, m ≤ 6 → zhw ((z : Nat) : Int) B m (2 ^ B) = zsumr ((z : Nat) : Int) B m (7 - m) := by decide +kernel
set_option maxHeartbeats 4000000 in
set_option maxRecDepth 100000 in
theorem cq_hawks (la : Launch) (g0 : zG) (ad : Nat → Nat) (μ : zMem) (n nc : Nat) (kd al wt an c : Nat → Int) (hm : zMP μ n nc kd al wt an) (hw : zHV n nc c) (hg : zAg n nc 7 (μ 46) c) (x y q : Int) (hx : zR x) (hy : zR y) (hq : q = 0 ∨ q = 1) : zCon la g0 yX9_hawks cX9_hawks 8 (some .int) 3 ad zSH [.ref (ad 39), .int (zi x), .int (zi y), .int (zi q)] μ (zPi (zQm μ (zA_hawks n c x y q))) := by
  refine zCon_of (by decide +kernel) (Nat.le_of_ble_eq_true rfl) ?_
  intro χ K T hl1 hg1
  have K : zOk χ cX9_hawks RX9 8 3 (some .int) := K
  obtain ⟨hn, hnc, hpl, hpa, hpk⟩ := id hm
  have hn6 := hpk.1
  have hnc3 := hpk.2.1
  refine z_mem (ν := zup μ 39 (μ 39)) (zup_id μ 39) ?_
  show zV χ 8 ad zSH 0 0 0 [(0, .ref (ad 39)), (1, .int (zi x)), (2, .int (zi y)), (3, .int (zi q))] [] (zup μ 39 (μ 39))
  refine z_aload_n K dX9_hawks_0 rfl ?_
  refine z_iconst K dX9_hawks_1 ?_
  refine z_puti (k := 39) K dX9_hawks_2 fp_X9_59 rfl rfl (z_mem (ν := zup μ 39 (zu1 (μ 39) 0 (0 : Int))) (zup_same _ _ _ _) ?_)
  refine z_iload_n K dX9_hawks_5 rfl ?_
  refine z_i2l K dX9_hawks_6 (by omega) ?_
  refine z_lconst (z := 0) K dX9_hawks_7 rfl ?_
  refine z_ldc2 (z := 6) K dX9_hawks_8 kc_X9_254 rfl ?_
  refine z_callSd K hl1 hg1 (As := [.long (zl x), .long (zl (0 : Int)), .long (zl (6 : Int))]) (rest := []) (cm_in la g0 ad (zup μ 39 (zu1 (μ 39) 0 (0 : Int))) x (0 : Int) (6 : Int) ⟨by omega, by omega⟩ ⟨by decide, by decide⟩ ⟨by decide, by decide⟩) (by decide) lk_X9_66 cd_X9_in rfl rfl (Nat.le_of_ble_eq_true rfl) dX9_hawks_11 ?_
  show zV χ 8 ad zSH 0 0 14 [(0, .ref (ad 39)), (1, .int (zi x)), (2, .int (zi y)), (3, .int (zi q))] [.int (zi (if (0 : Int) ≤ x ∧ x ≤ (6 : Int) then 1 else 0))] (zup μ 39 (zu1 (μ 39) 0 (0 : Int)))
  refine z_ifeq (tgt := 29) K dX9_hawks_14 (by decide) (by omega) (fun h14 => ?_) (fun h14 => ?_)
  · refine z_bipush K dX9_hawks_29 (by decide +kernel) ?_
    exact z_ireti K T rfl dX9_hawks_31 ⟨by unfold zA_hawks; rw [if_neg (by omega)], (zFr_h (zFr_0 μ) (by repeat (first | exact zFh_0 _ | refine zFh_u ?_ (by decide) _)))⟩
  · refine z_iload_n K dX9_hawks_17 rfl ?_
    refine z_i2l K dX9_hawks_18 (by omega) ?_
    refine z_lconst (z := 0) K dX9_hawks_19 rfl ?_
    refine z_ldc2 (z := 10) K dX9_hawks_20 kc_X9_256 rfl ?_
    refine z_callSd K hl1 hg1 (As := [.long (zl y), .long (zl (0 : Int)), .long (zl (10 : Int))]) (rest := []) (cm_in la g0 ad (zup μ 39 (zu1 (μ 39) 0 (0 : Int))) y (0 : Int) (10 : Int) ⟨by omega, by omega⟩ ⟨by decide, by decide⟩ ⟨by decide, by decide⟩) (by decide) lk_X9_66 cd_X9_in rfl rfl (Nat.le_of_ble_eq_true rfl) dX9_hawks_23 ?_
    show zV χ 8 ad zSH 0 0 26 [(0, .ref (ad 39)), (1, .int (zi x)), (2, .int (zi y)), (3, .int (zi q))] [.int (zi (if (0 : Int) ≤ y ∧ y ≤ (10 : Int) then 1 else 0))] (zup μ 39 (zu1 (μ 39) 0 (0 : Int)))
    refine z_ifne (tgt := 32) K dX9_hawks_26 (by decide) (by omega) (fun h26 => ?_) (fun h26 => ?_)
    · obtain ⟨m, rfl⟩ : ∃ m : Nat, x = (m : Int) := ⟨x.toNat, by omega⟩
      obtain ⟨z, rfl⟩ : ∃ z : Nat, y = (z : Int) := ⟨y.toNat, by omega⟩
      refine z_aload_n K dX9_hawks_32 rfl ?_
      refine z_aload_n K dX9_hawks_33 rfl ?_
      refine z_get (k := 39) (v := .ref (ad 46)) K dX9_hawks_34 fl_X9_28 rfl rfl rfl ?_
      refine z_iconst K dX9_hawks_37 ?_
      refine z_callVd K hl1 hg1 (kb := 39) (As := [.ref (ad 46), .int (zi (2 : Int))]) (rest := []) (cm_thatAre_g la g0 ad (zup μ 39 (zu1 (μ 39) 0 (0 : Int))) n nc 7 kd al wt an c hm hw.1 hg 2 ⟨by decide, by decide⟩) (by decide) lk_X9_122 cd_X9_thatAre rfl rfl rfl rfl (Nat.le_of_ble_eq_true rfl) dX9_hawks_38 ?_
      show zV χ 8 ad zSH 0 0 41 [(0, .ref (ad 39)), (1, .int (zi ((m : Nat) : Int))), (2, .int (zi ((z : Nat) : Int))), (3, .int (zi q))] [.int (zi ((zwho c 2 n : Nat) : Int))] (zup μ 39 (zu1 (μ 39) 0 (0 : Int)))
      refine z_callSd K hl1 hg1 (As := [.int (zi ((zwho c 2 n : Nat) : Int))]) (rest := []) (cm_many la g0 ad (zup μ 39 (zu1 (μ 39) 0 (0 : Int))) (zwho c 2 n) (z64 (zwho_lt _ _ _) hn6)) (by decide) lk_X9_128 cd_X9_many rfl rfl (Nat.le_of_ble_eq_true rfl) dX9_hawks_41 ?_
      show zV χ 8 ad zSH 0 0 44 [(0, .ref (ad 39)), (1, .int (zi ((m : Nat) : Int))), (2, .int (zi ((z : Nat) : Int))), (3, .int (zi q))] [.int (zi ((zpop (zwho c 2 n) : Nat) : Int))] (zup μ 39 (zu1 (μ 39) 0 (0 : Int)))
      obtain ⟨B, hB⟩ : ∃ B, zpop (zwho c 2 n) = B := ⟨_, rfl⟩
      have hB6 : B ≤ 6 := by rw [← hB]; exact zpop_le _
      have h64 : 2 ^ B ≤ 64 := show 2 ^ B ≤ 2 ^ 6 from Nat.pow_le_pow_right (by decide) hB6
      have hsr := zsumr_rg B hB6 z (by omega) m (by omega)
      rw [hB]
      refine z_istore (lv' := [(0, .ref (ad 39)), (1, .int (zi ((m : Nat) : Int))), (2, .int (zi ((z : Nat) : Int))), (3, .int (zi q)), (4, .int (zi ((B : Nat) : Int)))]) K dX9_hawks_44 (by decide) rfl ?_
      refine z_iconst K dX9_hawks_46 ?_
      refine z_istore (lv' := [(0, .ref (ad 39)), (1, .int (zi ((m : Nat) : Int))), (2, .int (zi ((z : Nat) : Int))), (3, .int (zi q)), (4, .int (zi ((B : Nat) : Int))), (5, .int (zi (0 : Int)))]) K dX9_hawks_47 (by decide) rfl ?_
      refine z_iconst K dX9_hawks_49 ?_
      refine z_istore (lv' := [(0, .ref (ad 39)), (1, .int (zi ((m : Nat) : Int))), (2, .int (zi ((z : Nat) : Int))), (3, .int (zi q)), (4, .int (zi ((B : Nat) : Int))), (5, .int (zi (0 : Int))), (6, .int (zi (0 : Int)))]) K dX9_hawks_50 (by decide) rfl ?_
      have L52 : ∀ k, k ≤ 2 ^ B → zV χ 8 ad zSH 0 0 52 [(0, .ref (ad 39)), (1, .int (zi ((m : Nat) : Int))), (2, .int (zi ((z : Nat) : Int))), (3, .int (zi q)), (4, .int (zi ((B : Nat) : Int))), (5, .int (zi (zhw ((z : Nat) : Int) B m k))), (6, .int (zi ((k : Nat) : Int)))] [] (zup μ 39 (zu1 (μ 39) 0 (0 : Int))) := by
        refine zfor ?_
        intro k hk ih
        refine z_iload K dX9_hawks_52 rfl ?_
        refine z_iconst K dX9_hawks_54 ?_
        refine z_iload K dX9_hawks_55 rfl ?_
        refine z_ishlR (z := zi ((2 ^ B : Nat) : Int)) K dX9_hawks_57 (zb_shl B (by omega)) ?_
        refine z_icmpge (tgt := 111) K dX9_hawks_58 (by decide) (by omega) (by omega) (fun h58 => ?_) (fun h58 => ?_)
        · rw [show k = 2 ^ B by omega, zhw_sum B hB6 z (by omega) m (by omega)]
          refine z_iload K dX9_hawks_111 rfl ?_
          refine z_bipush K dX9_hawks_113 (by decide +kernel) ?_
          refine z_iload K dX9_hawks_115 rfl ?_
          refine z_callSd K hl1 hg1 (As := [.int (zi (10 : Int)), .int (zi ((B : Nat) : Int))]) (rest := [.int (zi (zsumr ((z : Nat) : Int) B m (7 - m)))]) (cm_power la g0 ad (zup μ 39 (zu1 (μ 39) 0 (0 : Int))) 10 B (by omega)) (by decide) lk_X9_210 cd_X9_power rfl rfl (Nat.le_of_ble_eq_true rfl) dX9_hawks_117 ?_
          show zV χ 8 ad zSH 0 0 120 [(0, .ref (ad 39)), (1, .int (zi ((m : Nat) : Int))), (2, .int (zi ((z : Nat) : Int))), (3, .int (zi q)), (4, .int (zi ((B : Nat) : Int))), (5, .int (zi (zsumr ((z : Nat) : Int) B m (7 - m)))), (6, .int (zi ((2 ^ B : Nat) : Int)))] [.int (zi (zpw 10 B)), .int (zi (zsumr ((z : Nat) : Int) B m (7 - m)))] (zup μ 39 (zu1 (μ 39) 0 (0 : Int)))
          rw [zpw_ten B hB6]
          refine z_iload_n K dX9_hawks_120 rfl ?_
          refine z_callSd K hl1 hg1 (As := [.int (zi (zsumr ((z : Nat) : Int) B m (7 - m))), .int (zi ((zten B : Nat) : Int)), .int (zi q)]) (rest := []) (cm_fraction la g0 ad (zup μ 39 (zu1 (μ 39) 0 (0 : Int))) (zsumr ((z : Nat) : Int) B m (7 - m)) (zten B) q (by omega) (by omega) hq) (by decide) lk_X9_234 cd_X9_fraction rfl rfl (Nat.le_of_ble_eq_true rfl) dX9_hawks_121 ?_
          show zV χ 8 ad zSH 0 0 124 [(0, .ref (ad 39)), (1, .int (zi ((m : Nat) : Int))), (2, .int (zi ((z : Nat) : Int))), (3, .int (zi q)), (4, .int (zi ((B : Nat) : Int))), (5, .int (zi (zsumr ((z : Nat) : Int) B m (7 - m)))), (6, .int (zi ((2 ^ B : Nat) : Int)))] [.int (zi (zpart (zsumr ((z : Nat) : Int) B m (7 - m)) (zten B) q))] (zup μ 39 (zu1 (μ 39) 0 (0 : Int)))
          exact z_ireti K T rfl dX9_hawks_124 ⟨by unfold zA_hawks; rw [if_pos ⟨⟨by omega, by omega⟩, by omega, by omega⟩, Int.toNat_natCast, hB], (zFr_h (zFr_0 μ) (by repeat (first | exact zFh_0 _ | refine zFh_u ?_ (by decide) _)))⟩
        · have hpk9 := zpop_b B hB6 k (by omega)
          refine z_iload K dX9_hawks_61 rfl ?_
          refine z_callSd K hl1 hg1 (As := [.int (zi ((k : Nat) : Int))]) (rest := []) (cm_many la g0 ad (zup μ 39 (zu1 (μ 39) 0 (0 : Int))) k (by omega)) (by decide) lk_X9_128 cd_X9_many rfl rfl (Nat.le_of_ble_eq_true rfl) dX9_hawks_63 ?_
          show zV χ 8 ad zSH 0 0 66 [(0, .ref (ad 39)), (1, .int (zi ((m : Nat) : Int))), (2, .int (zi ((z : Nat) : Int))), (3, .int (zi q)), (4, .int (zi ((B : Nat) : Int))), (5, .int (zi (zhw ((z : Nat) : Int) B m k))), (6, .int (zi ((k : Nat) : Int)))] [.int (zi ((zpop k : Nat) : Int))] (zup μ 39 (zu1 (μ 39) 0 (0 : Int)))
          refine z_istore (lv' := [(0, .ref (ad 39)), (1, .int (zi ((m : Nat) : Int))), (2, .int (zi ((z : Nat) : Int))), (3, .int (zi q)), (4, .int (zi ((B : Nat) : Int))), (5, .int (zi (zhw ((z : Nat) : Int) B m k))), (6, .int (zi ((k : Nat) : Int))), (7, .int (zi ((zpop k : Nat) : Int)))]) K dX9_hawks_66 (by decide) rfl ?_
          refine z_iload K dX9_hawks_68 rfl ?_
          refine z_iload K dX9_hawks_70 rfl ?_
          refine z_iload K dX9_hawks_72 rfl ?_
          refine z_isub K dX9_hawks_74 ?_
          refine z_iload_n K dX9_hawks_75 rfl ?_
          refine z_icmplt (tgt := 101) K dX9_hawks_76 (by decide) (by omega) (by omega) (fun h76 => ?_) (fun h76 => ?_)
          · refine z_iconst K dX9_hawks_101 ?_
            refine z_iadd K dX9_hawks_102 ?_
            refine z_istore (lv' := [(0, .ref (ad 39)), (1, .int (zi ((m : Nat) : Int))), (2, .int (zi ((z : Nat) : Int))), (3, .int (zi q)), (4, .int (zi ((B : Nat) : Int))), (5, .int (zi ((zhw ((z : Nat) : Int) B m k) + (0 : Int)))), (6, .int (zi ((k : Nat) : Int))), (7, .int (zi ((zpop k : Nat) : Int)))]) K dX9_hawks_103 (by decide) rfl ?_
            refine z_iincN (lv' := [(0, .ref (ad 39)), (1, .int (zi ((m : Nat) : Int))), (2, .int (zi ((z : Nat) : Int))), (3, .int (zi q)), (4, .int (zi ((B : Nat) : Int))), (5, .int (zi ((zhw ((z : Nat) : Int) B m k) + (0 : Int)))), (6, .int (zi ((k + 1 : Nat) : Int))), (7, .int (zi ((zpop k : Nat) : Int)))]) K dX9_hawks_105 rfl (by decide) rfl ?_
            refine z_goto (tgt := 52) K dX9_hawks_108 (by decide) ?_
            refine z_ipick [0, 1, 2, 3, 4, 5, 6] rfl ?_
            have e9 : (zhw ((z : Nat) : Int) B m k) + (0 : Int) = zhw ((z : Nat) : Int) B m (k + 1) := by
              show _ = zhw ((z : Nat) : Int) B m k + _
              rw [if_neg (by omega)]
            rw [e9]
            exact ih (k + 1) (by omega) (by omega)
          · refine z_iload_n K dX9_hawks_79 rfl ?_
            refine z_iload K dX9_hawks_80 rfl ?_
            refine z_callSd K hl1 hg1 (As := [.int (zi ((z : Nat) : Int)), .int (zi ((zpop k : Nat) : Int))]) (rest := [.int (zi (zhw ((z : Nat) : Int) B m k))]) (cm_power la g0 ad (zup μ 39 (zu1 (μ 39) 0 (0 : Int))) ((z : Nat) : Int) (zpop k) (by omega)) (by decide) lk_X9_210 cd_X9_power rfl rfl (Nat.le_of_ble_eq_true rfl) dX9_hawks_82 ?_
            show zV χ 8 ad zSH 0 0 85 [(0, .ref (ad 39)), (1, .int (zi ((m : Nat) : Int))), (2, .int (zi ((z : Nat) : Int))), (3, .int (zi q)), (4, .int (zi ((B : Nat) : Int))), (5, .int (zi (zhw ((z : Nat) : Int) B m k))), (6, .int (zi ((k : Nat) : Int))), (7, .int (zi ((zpop k : Nat) : Int)))] [.int (zi (zpw ((z : Nat) : Int) (zpop k))), .int (zi (zhw ((z : Nat) : Int) B m k))] (zup μ 39 (zu1 (μ 39) 0 (0 : Int)))
            refine z_bipush K dX9_hawks_85 (by decide +kernel) ?_
            refine z_iload_n K dX9_hawks_87 rfl ?_
            refine z_isub K dX9_hawks_88 ?_
            refine z_iload K dX9_hawks_89 rfl ?_
            refine z_iload K dX9_hawks_91 rfl ?_
            refine z_isub K dX9_hawks_93 ?_
            rw [show (((B : Nat) : Int) - ((zpop k : Nat) : Int)) = ((B - zpop k : Nat) : Int) from (by omega)]
            refine z_callSd K hl1 hg1 (As := [.int (zi ((10 : Int) - ((z : Nat) : Int))), .int (zi ((B - zpop k : Nat) : Int))]) (rest := [.int (zi (zpw ((z : Nat) : Int) (zpop k))), .int (zi (zhw ((z : Nat) : Int) B m k))]) (cm_power la g0 ad (zup μ 39 (zu1 (μ 39) 0 (0 : Int))) ((10 : Int) - ((z : Nat) : Int)) (B - zpop k) (by omega)) (by decide) lk_X9_210 cd_X9_power rfl rfl (Nat.le_of_ble_eq_true rfl) dX9_hawks_94 ?_
            show zV χ 8 ad zSH 0 0 97 [(0, .ref (ad 39)), (1, .int (zi ((m : Nat) : Int))), (2, .int (zi ((z : Nat) : Int))), (3, .int (zi q)), (4, .int (zi ((B : Nat) : Int))), (5, .int (zi (zhw ((z : Nat) : Int) B m k))), (6, .int (zi ((k : Nat) : Int))), (7, .int (zi ((zpop k : Nat) : Int)))] [.int (zi (zpw ((10 : Int) - ((z : Nat) : Int)) (B - zpop k))), .int (zi (zpw ((z : Nat) : Int) (zpop k))), .int (zi (zhw ((z : Nat) : Int) B m k))] (zup μ 39 (zu1 (μ 39) 0 (0 : Int)))
            refine z_imul K dX9_hawks_97 ?_
            refine z_goto (tgt := 102) K dX9_hawks_98 (by decide) ?_
            refine z_iadd K dX9_hawks_102 ?_
            refine z_istore (lv' := [(0, .ref (ad 39)), (1, .int (zi ((m : Nat) : Int))), (2, .int (zi ((z : Nat) : Int))), (3, .int (zi q)), (4, .int (zi ((B : Nat) : Int))), (5, .int (zi ((zhw ((z : Nat) : Int) B m k) + ((zpw ((z : Nat) : Int) (zpop k)) * (zpw ((10 : Int) - ((z : Nat) : Int)) (B - zpop k)))))), (6, .int (zi ((k : Nat) : Int))), (7, .int (zi ((zpop k : Nat) : Int)))]) K dX9_hawks_103 (by decide) rfl ?_
            refine z_iincN (lv' := [(0, .ref (ad 39)), (1, .int (zi ((m : Nat) : Int))), (2, .int (zi ((z : Nat) : Int))), (3, .int (zi q)), (4, .int (zi ((B : Nat) : Int))), (5, .int (zi ((zhw ((z : Nat) : Int) B m k) + ((zpw ((z : Nat) : Int) (zpop k)) * (zpw ((10 : Int) - ((z : Nat) : Int)) (B - zpop k)))))), (6, .int (zi ((k + 1 : Nat) : Int))), (7, .int (zi ((zpop k : Nat) : Int)))]) K dX9_hawks_105 rfl (by decide) rfl ?_
            refine z_goto (tgt := 52) K dX9_hawks_108 (by decide) ?_
            refine z_ipick [0, 1, 2, 3, 4, 5, 6] rfl ?_
            have e9 : (zhw ((z : Nat) : Int) B m k) + ((zpw ((z : Nat) : Int) (zpop k)) * (zpw ((10 : Int) - ((z : Nat) : Int)) (B - zpop k))) = zhw ((z : Nat) : Int) B m (k + 1) := by
              show _ = zhw ((z : Nat) : Int) B m k + _
              rw [if_pos (by omega)]
            rw [e9]
            exact ih (k + 1) (by omega) (by omega)
      exact L52 0 (Nat.zero_le _)
    · refine z_bipush K dX9_hawks_29 (by decide +kernel) ?_
      exact z_ireti K T rfl dX9_hawks_31 ⟨by unfold zA_hawks; rw [if_neg (by omega)], (zFr_h (zFr_0 μ) (by repeat (first | exact zFh_0 _ | refine zFh_u ?_ (by decide) _)))⟩
