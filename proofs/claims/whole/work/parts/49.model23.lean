theorem zp3_pos : ∀ k, 1 ≤ zp3 k := by
  intro k
  induction k with
  | zero => decide
  | succ k ih => show 1 ≤ zp3 k * 3; omega
theorem zpw_3 : ∀ k, zpw 3 k = ((zp3 k : Nat) : Int) := by
  intro k
  induction k with
  | zero => rfl
  | succ k ih => show zpw 3 k * 3 = ((zp3 k * 3 : Nat) : Int); rw [ih]; omega
theorem cm_power3 (la : Launch) (g0 : zG) (ad : Nat → Nat) (μ : zMem) (m : Nat) (hm : m ≤ 100) : zCon la g0 yX9_power cX9_power 4 (some .int) 0 ad zSH [.int (zi (3 : Int)), .int (zi ((m : Nat) : Int))] μ (zPd μ ((zp3 m : Nat) : Int)) := by
  have h := cm_power la g0 ad μ 3 m hm
  rw [zpw_3] at h
  exact h
/-- a way's figure for a clerk, and the figures told -/
def zdv (nc w j : Nat) : Nat := w / zp3 (nc - 1 - j)
theorem zdv_le (nc w j : Nat) : zdv nc w j ≤ w := Nat.div_le_self _ _
def zfg (nc w : Nat) : Nat → Nat
  | 0 => 0
  | j + 1 => 10 * zfg nc w j + zdv nc w j % 3 + 1
theorem zfg_s (nc w j : Nat) : zfg nc w (j + 1) = 10 * zfg nc w j + zdv nc w j % 3 + 1 := rfl
theorem zsa_is {nc : Nat} (w : Nat) (hc : nc ≤ 3) (c : Nat → Int) : (zsa nc (c, 0, 1, w)).2.1 = zfg nc w nc ∧ (∀ k, k < nc → (zsa nc (c, 0, 1, w)).1 (18 + k) = ((zdv nc w k % 3 : Nat) : Int)) ∧ ∀ j, j < 18 ∨ 18 + nc ≤ j → (zsa nc (c, 0, 1, w)).1 j = c j := by
  rcases (show nc = 0 ∨ nc = 1 ∨ nc = 2 ∨ nc = 3 by omega) with rfl | rfl | rfl | rfl
  · exact ⟨rfl, fun k hk => absurd hk (by omega), fun _ _ => rfl⟩
  · refine ⟨by simp [zsa, zfg, zdv, zp3] <;> omega, fun k hk => ?_, fun j hj => ?_⟩
    · have : k = 0 := by omega
      subst this
      simp [zsa, zu1, zdv, zp3]
    · simp only [zsa, zu1]
      rw [if_neg (by omega)]
  · refine ⟨by simp [zsa, zfg, zdv, zp3] <;> omega, fun k hk => ?_, fun j hj => ?_⟩
    · rcases (show k = 0 ∨ k = 1 by omega) with rfl | rfl <;> simp [zsa, zu1, zdv, zp3]
    · simp only [zsa, zu1]
      rw [if_neg (by omega), if_neg (by omega)]
  · refine ⟨by simp [zsa, zfg, zdv, zp3] <;> omega, fun k hk => ?_, fun j hj => ?_⟩
    · rcases (show k = 0 ∨ k = 1 ∨ k = 2 by omega) with rfl | rfl | rfl
      · have e : w / 3 / 3 = w / 9 := by omega
        simp [zsa, zu1, zdv, zp3, e]
      · simp [zsa, zu1, zdv, zp3]
      · simp [zsa, zu1, zdv, zp3]
    · simp only [zsa, zu1]
      rw [if_neg (by omega), if_neg (by omega), if_neg (by omega)]
theorem zsa_ag {n nc : Nat} (w : Nat) (hn : n ≤ 6) (hc : nc ≤ 3) {p c t : Nat → Int} (h : zAg n nc 7 p c) (h1 : ∀ i, i < nc → t (18 + i) = ((zdv nc w i % 3 : Nat) : Int)) (h2 : ∀ i, i < 18 ∨ 18 + nc ≤ i → t i = p i) : zAg n nc 7 t (zsa nc (c, 0, 1, w)).1 := by
  obtain ⟨a1, a2, a3⟩ := zsa_is w hc c
  obtain ⟨g1, g2, g3, g4⟩ := h
  refine ⟨fun l hl => ?_, fun k hk => ⟨fun _ => by rw [h1 k hk, a2 k hk], fun h0 => absurd h0 (by rw [zb7 k (by omega)]; decide)⟩, ?_, ?_⟩
  · rw [h2 l (by omega), h2 (6 + l) (by omega), h2 (12 + l) (by omega), a3 l (by omega), a3 (6 + l) (by omega), a3 (12 + l) (by omega)]
    exact g1 l hl
  · rw [h2 21 (by omega), a3 21 (by omega)]; exact g3
  · rw [h2 22 (by omega), a3 22 (by omega)]; exact g4
set_option maxHeartbeats 4000000 in
set_option maxRecDepth 100000 in
theorem cq_rows (la : Launch) (g0 : zG) (ad : Nat → Nat) (μ : zMem) (n nc : Nat) (kd al wt an c : Nat → Int) (hm : zMP μ n nc kd al wt an) (hw : zHV n nc c) (hg : zAg n nc 7 (μ 46) c) (q : Int) (hq : q = 0 ∨ q = 1) : zCon la g0 yX9_rows cX9_rows 6 (some .int) 7 ad zSH [.ref (ad 39), .int (zi q)] μ (zPi (zQm μ (if q = 0 then (zbr n kd al nc an c (zp3 nc)).2 else (zbr n kd al nc an c (zp3 nc)).1))) := by
  refine zCon_of (by decide +kernel) (Nat.le_of_ble_eq_true rfl) ?_
  intro χ K T hl1 hg1
  have K : zOk χ cX9_rows RX9 6 7 (some .int) := K
  obtain ⟨hn, hnc, hpl, hpa, hpk⟩ := id hm
  have hn6 := hpk.1
  have hnc3 := hpk.2.1
  have h27 := zp3_le nc hnc3
  refine z_mem (ν := zup (zup (zup μ 39 (μ 39)) 47 (μ 47)) 53 (μ 53)) (zup_id3 μ 39 47 53 (by decide) (by decide) (by decide)) ?_
  show zV χ 6 ad zSH 0 0 0 [(0, .ref (ad 39)), (1, .int (zi q))] [] (zup (zup (zup μ 39 (μ 39)) 47 (μ 47)) 53 (μ 53))
  refine z_aload_n K dX9_rows_0 rfl ?_
  refine z_iconst K dX9_rows_1 ?_
  refine z_puti (k := 39) K dX9_rows_2 fp_X9_59 rfl rfl (z_mem (ν := zup (zup (zup μ 39 (zu1 (μ 39) 0 (0 : Int))) 47 (μ 47)) 53 (μ 53)) (zup_sw3 _ (by decide) (by decide) _ _ _ _) ?_)
  refine z_aload_n K dX9_rows_5 rfl ?_
  refine z_bipush K dX9_rows_6 (by decide +kernel) ?_
  refine z_puti (k := 39) K dX9_rows_8 fp_X9_204 rfl rfl (z_mem (ν := zup (zup (zup μ 39 (zu1 (zu1 (μ 39) 0 (0 : Int)) 27 (-9 : Int))) 47 (μ 47)) 53 (μ 53)) (zup_sw3 _ (by decide) (by decide) _ _ _ _) ?_)
  refine z_aload_n K dX9_rows_11 rfl ?_
  refine z_iconst K dX9_rows_12 ?_
  refine z_puti (k := 39) K dX9_rows_13 fp_X9_207 rfl rfl (z_mem (ν := zup (zup (zup μ 39 (zu1 (zu1 (zu1 (μ 39) 0 (0 : Int)) 27 (-9 : Int)) 26 (0 : Int))) 47 (μ 47)) 53 (μ 53)) (zup_sw3 _ (by decide) (by decide) _ _ _ _) ?_)
  refine z_iconst K dX9_rows_16 ?_
  refine z_istore_n (lv' := [(0, .ref (ad 39)), (1, .int (zi q)), (2, .int (zi (0 : Int)))]) K dX9_rows_17 (by decide) rfl ?_
  have L18 : ∀ w, w ≤ zp3 nc → ∀ (g t a : Nat → Int), zFh (μ 39) g → g 27 = (zbr n kd al nc an c w).2 → g 26 = (zbr n kd al nc an c w).1 → zV χ 6 ad zSH 0 0 18 [(0, .ref (ad 39)), (1, .int (zi q)), (2, .int (zi ((w : Nat) : Int)))] [] (zup (zup (zup μ 39 g) 47 t) 53 a) := by
    refine zfor ?_
    intro w hw9 ih g t a hgf hg27 hg26
    have hnc9 : g 7 = (nc : Int) := (hgf 7 (by decide)).trans hnc
    have hbr := zbr_rg n kd al nc an c w
    refine z_iload_n K dX9_rows_18 rfl ?_
    refine z_iconst K dX9_rows_19 ?_
    refine z_aload_n K dX9_rows_20 rfl ?_
    refine z_get (k := 39) (v := .int (zi (g 7))) K dX9_rows_21 fl_X9_70 rfl rfl rfl ?_
    rw [show (g 7) = ((nc : Nat) : Int) from hnc9]
    refine z_callSd K hl1 hg1 (As := [.int (zi (3 : Int)), .int (zi ((nc : Nat) : Int))]) (rest := [.int (zi ((w : Nat) : Int))]) (cm_power3 la g0 ad (zup (zup (zup μ 39 g) 47 t) 53 a) nc (by omega)) (by decide) lk_X9_210 cd_X9_power rfl rfl (Nat.le_of_ble_eq_true rfl) dX9_rows_24 ?_
    show zV χ 6 ad zSH 0 0 27 [(0, .ref (ad 39)), (1, .int (zi q)), (2, .int (zi ((w : Nat) : Int)))] [.int (zi ((zp3 nc : Nat) : Int)), .int (zi ((w : Nat) : Int))] (zup (zup (zup μ 39 g) 47 t) 53 a)
    refine z_icmpge (tgt := 149) K dX9_rows_27 (by decide) (by omega) (by omega) (fun h27 => ?_) (fun h27 => ?_)
    · refine z_iload_n K dX9_rows_149 rfl ?_
      refine z_ifeq (tgt := 160) K dX9_rows_150 (by decide) (by omega) (fun h150 => ?_) (fun h150 => ?_)
      · refine z_aload_n K dX9_rows_160 rfl ?_
        refine z_get (k := 39) (v := .int (zi (g 27))) K dX9_rows_161 fl_X9_204 rfl rfl rfl ?_
        rw [show (g 27) = (zbr n kd al nc an c w).2 from hg27]
        exact z_ireti K T rfl dX9_rows_164 ⟨by rw [if_pos (by omega), show w = zp3 nc by omega], (zFr_c (zFr_c (zFr_h (zFr_0 μ) hgf) (by decide) _) (by decide) _)⟩
      · refine z_aload_n K dX9_rows_153 rfl ?_
        refine z_get (k := 39) (v := .int (zi (g 26))) K dX9_rows_154 fl_X9_207 rfl rfl rfl ?_
        rw [show (g 26) = (zbr n kd al nc an c w).1 from hg26]
        refine z_goto (tgt := 164) K dX9_rows_157 (by decide) ?_
        exact z_ireti K T rfl dX9_rows_164 ⟨by rw [if_neg (by omega), show w = zp3 nc by omega], (zFr_c (zFr_c (zFr_h (zFr_0 μ) hgf) (by decide) _) (by decide) _)⟩
    · refine z_aload_n K dX9_rows_30 rfl ?_
      refine z_callVm K hl1 hg1 (kb := 39) (As := []) (rest := []) (cm_begin la g0 ad μ g t a) (by decide) lk_X9_191 cd_X9_begin rfl rfl rfl rfl (Nat.le_of_ble_eq_true rfl) dX9_rows_31 ?_
      refine z_iconst K dX9_rows_34 ?_
      refine z_istore_n (lv' := [(0, .ref (ad 39)), (1, .int (zi q)), (2, .int (zi ((w : Nat) : Int))), (3, .int (zi (0 : Int)))]) K dX9_rows_35 (by decide) rfl ?_
      refine z_iconst K dX9_rows_36 ?_
      refine z_istore (lv' := [(0, .ref (ad 39)), (1, .int (zi q)), (2, .int (zi ((w : Nat) : Int))), (3, .int (zi (0 : Int))), (4, .int (zi (0 : Int)))]) K dX9_rows_37 (by decide) rfl ?_
      have L39 : ∀ j, j ≤ nc → ∀ (t2 : Nat → Int), (∀ i, i < j → t2 (18 + i) = ((zdv nc w i % 3 : Nat) : Int)) → (∀ i, i < 18 ∨ 18 + j ≤ i → t2 i = μ 46 i) → zV χ 6 ad zSH 0 0 39 [(0, .ref (ad 39)), (1, .int (zi q)), (2, .int (zi ((w : Nat) : Int))), (3, .int (zi ((zfg nc w j : Nat) : Int))), (4, .int (zi ((j : Nat) : Int)))] [] (zup (zup (zup μ 39 (zu1 g 24 (7 : Int))) 47 t2) 53 a) := by
        refine zfor ?_
        intro j hj9 ihj t2 ht1 ht2
        refine z_iload K dX9_rows_39 rfl ?_
        refine z_aload_n K dX9_rows_41 rfl ?_
        refine z_get (k := 39) (v := .int (zi ((zu1 g 24 (7 : Int)) 7))) K dX9_rows_42 fl_X9_70 rfl rfl rfl ?_
        rw [show ((zu1 g 24 (7 : Int)) 7) = ((nc : Nat) : Int) from hnc9]
        refine z_icmpge (tgt := 95) K dX9_rows_45 (by decide) (by omega) (by omega) (fun h45 => ?_) (fun h45 => ?_)
        · have hj : j = nc := by omega
          have hag := zsa_ag w hn6 hnc3 hg (fun i hi => ht1 i (by omega)) (fun i hi => ht2 i (by omega))
          have hzv := zsa_ok hn6 hnc3 nc (Nat.le_refl _) (c, 0, 1, w) hw
          have hm9 : zMP (zup μ 39 (zu1 g 24 (7 : Int))) n nc kd al wt an := zMP_fr hm (zFr_h (zFr_0 μ) (zFh_u hgf (by decide) _))
          refine z_aload_n K dX9_rows_95 rfl ?_
          refine z_bipush K dX9_rows_96 (by decide +kernel) ?_
          refine z_callVv K hl1 hg1 (kb := 39) (As := [.int (zi (9 : Int))]) (rest := []) (cm_goDays la g0 ad (zup μ 39 (zu1 g 24 (7 : Int))) n nc 7 kd al wt an t2 (zsa nc (c, 0, 1, w)).1 a hm9 hzv hag rfl (by decide) 9 (by decide)) (by decide) lk_X9_194 cd_X9_goDays rfl rfl rfl rfl (Nat.le_of_ble_eq_true rfl) dX9_rows_98 (fun ν h98 => ?_)
          obtain ⟨q2, hν, hag2⟩ := h98
          subst hν
          have hdo := zdays_ok hpk (s := ((zsa nc (c, 0, 1, w)).1, a)) hzv 9
          have hb2 : zwho (zdays n kd al nc an 9 ((zsa nc (c, 0, 1, w)).1, a)).1 2 n ||| zwho (zdays n kd al nc an 9 ((zsa nc (c, 0, 1, w)).1, a)).1 3 n < 64 := Nat.or_lt_two_pow (n := 6) (Nat.lt_of_lt_of_le (zwho_lt _ 2 n) (Nat.pow_le_pow_right (by decide) hn6)) (Nat.lt_of_lt_of_le (zwho_lt _ 3 n) (Nat.pow_le_pow_right (by decide) hn6))
          have hvl : zlost n (zdays n kd al nc an 9 ((zsa nc (c, 0, 1, w)).1, a)).1 = zval n kd al nc an c w := by
            unfold zval
            rw [zdays_fst n kd al nc an ((zsa nc (c, 0, 1, w)).1, a) ((zsa nc (c, 0, 1, w)).1, zz0) rfl]
          have hv6 : zval n kd al nc an c w ≤ 6 := zpop_le _
          refine z_aload_n K dX9_rows_101 rfl ?_
          refine z_aload_n K dX9_rows_102 rfl ?_
          refine z_get (k := 39) (v := .ref (ad 47)) K dX9_rows_103 fl_X9_31 rfl rfl rfl ?_
          refine z_callVd K hl1 hg1 (kb := 39) (As := [.ref (ad 47)]) (rest := []) (cm_lost_r la g0 ad (zup (zup (zup μ 39 (zu1 g 24 (7 : Int))) 47 q2) 53 ((zdays n kd al nc an 9 ((zsa nc (c, 0, 1, w)).1, a)).2)) n nc 7 kd al wt an (zdays n kd al nc an 9 ((zsa nc (c, 0, 1, w)).1, a)).1 hm9 hdo.1 hag2) (by decide) lk_X9_198 cd_X9_lost rfl rfl rfl rfl (Nat.le_of_ble_eq_true rfl) dX9_rows_106 ?_
          show zV χ 6 ad zSH 0 0 109 [(0, .ref (ad 39)), (1, .int (zi q)), (2, .int (zi ((w : Nat) : Int))), (3, .int (zi ((zfg nc w j : Nat) : Int))), (4, .int (zi ((j : Nat) : Int)))] [.int (zi ((zwho (zdays n kd al nc an 9 ((zsa nc (c, 0, 1, w)).1, a)).1 2 n ||| zwho (zdays n kd al nc an 9 ((zsa nc (c, 0, 1, w)).1, a)).1 3 n : Nat) : Int))] (zup (zup (zup μ 39 (zu1 g 24 (7 : Int))) 47 q2) 53 ((zdays n kd al nc an 9 ((zsa nc (c, 0, 1, w)).1, a)).2))
          refine z_callSd K hl1 hg1 (As := [.int (zi ((zwho (zdays n kd al nc an 9 ((zsa nc (c, 0, 1, w)).1, a)).1 2 n ||| zwho (zdays n kd al nc an 9 ((zsa nc (c, 0, 1, w)).1, a)).1 3 n : Nat) : Int))]) (rest := []) (cm_many la g0 ad (zup (zup (zup μ 39 (zu1 g 24 (7 : Int))) 47 q2) 53 ((zdays n kd al nc an 9 ((zsa nc (c, 0, 1, w)).1, a)).2)) (zwho (zdays n kd al nc an 9 ((zsa nc (c, 0, 1, w)).1, a)).1 2 n ||| zwho (zdays n kd al nc an 9 ((zsa nc (c, 0, 1, w)).1, a)).1 3 n) hb2) (by decide) lk_X9_128 cd_X9_many rfl rfl (Nat.le_of_ble_eq_true rfl) dX9_rows_109 ?_
          show zV χ 6 ad zSH 0 0 112 [(0, .ref (ad 39)), (1, .int (zi q)), (2, .int (zi ((w : Nat) : Int))), (3, .int (zi ((zfg nc w j : Nat) : Int))), (4, .int (zi ((j : Nat) : Int)))] [.int (zi ((zlost n (zdays n kd al nc an 9 ((zsa nc (c, 0, 1, w)).1, a)).1 : Nat) : Int))] (zup (zup (zup μ 39 (zu1 g 24 (7 : Int))) 47 q2) 53 ((zdays n kd al nc an 9 ((zsa nc (c, 0, 1, w)).1, a)).2))
          rw [show ((zlost n (zdays n kd al nc an 9 ((zsa nc (c, 0, 1, w)).1, a)).1 : Nat) : Int) = ((zval n kd al nc an c w : Nat) : Int) from (by rw [hvl])]
          refine z_istore (lv' := [(0, .ref (ad 39)), (1, .int (zi q)), (2, .int (zi ((w : Nat) : Int))), (3, .int (zi ((zfg nc w j : Nat) : Int))), (4, .int (zi ((zval n kd al nc an c w : Nat) : Int)))]) K dX9_rows_112 (by decide) rfl ?_
          refine z_aload_n K dX9_rows_114 rfl ?_
          refine z_get (k := 39) (v := .int (zi ((zu1 g 24 (7 : Int)) 27))) K dX9_rows_115 fl_X9_204 rfl rfl rfl ?_
          rw [show ((zu1 g 24 (7 : Int)) 27) = (zbr n kd al nc an c w).2 from hg27]
          refine z_bipush K dX9_rows_118 (by decide +kernel) ?_
          refine z_icmpeq (tgt := 132) K dX9_rows_120 (by decide) (by omega) ⟨by decide, by decide⟩ (fun h120 => ?_) (fun h120 => ?_)
          · refine z_aload_n K dX9_rows_132 rfl ?_
            refine z_iload K dX9_rows_133 rfl ?_
            refine z_puti (k := 39) K dX9_rows_135 fp_X9_204 rfl rfl (z_mem (ν := zup (zup (zup μ 39 (zu1 (zu1 g 24 (7 : Int)) 27 ((zval n kd al nc an c w : Nat) : Int))) 47 q2) 53 ((zdays n kd al nc an 9 ((zsa nc (c, 0, 1, w)).1, a)).2)) (zup_sw3 _ (by decide) (by decide) _ _ _ _) ?_)
            refine z_aload_n K dX9_rows_138 rfl ?_
            refine z_iload_n K dX9_rows_139 rfl ?_
            refine z_puti (k := 39) K dX9_rows_140 fp_X9_207 rfl rfl (z_mem (ν := zup (zup (zup μ 39 (zu1 (zu1 (zu1 g 24 (7 : Int)) 27 ((zval n kd al nc an c w : Nat) : Int)) 26 ((zfg nc w j : Nat) : Int))) 47 q2) 53 ((zdays n kd al nc an 9 ((zsa nc (c, 0, 1, w)).1, a)).2)) (zup_sw3 _ (by decide) (by decide) _ _ _ _) ?_)
            refine z_iincN (lv' := [(0, .ref (ad 39)), (1, .int (zi q)), (2, .int (zi ((w + 1 : Nat) : Int))), (3, .int (zi ((zfg nc w j : Nat) : Int))), (4, .int (zi ((zval n kd al nc an c w : Nat) : Int)))]) K dX9_rows_143 rfl (by decide) rfl ?_
            refine z_goto (tgt := 18) K dX9_rows_146 (by decide) ?_
            refine z_ipick [0, 1, 2] rfl ?_
            exact ih (w + 1) (by omega) (by omega) _ _ _ (zFh_u (zFh_u (zFh_u hgf (by decide) _) (by decide) _) (by decide) _) (by rw [zbr_s, if_pos (by omega)]; rfl) (by rw [zbr_s, if_pos (by omega)]; show ((zfg nc w j : Nat) : Int) = (((zsa nc (c, 0, 1, w)).2.1 : Nat) : Int); rw [hj, (zsa_is w hnc3 c).1])
          · refine z_iload K dX9_rows_123 rfl ?_
            refine z_aload_n K dX9_rows_125 rfl ?_
            refine z_get (k := 39) (v := .int (zi ((zu1 g 24 (7 : Int)) 27))) K dX9_rows_126 fl_X9_204 rfl rfl rfl ?_
            rw [show ((zu1 g 24 (7 : Int)) 27) = (zbr n kd al nc an c w).2 from hg27]
            refine z_icmpge (tgt := 143) K dX9_rows_129 (by decide) (by omega) (by omega) (fun h129 => ?_) (fun h129 => ?_)
            · refine z_iincN (lv' := [(0, .ref (ad 39)), (1, .int (zi q)), (2, .int (zi ((w + 1 : Nat) : Int))), (3, .int (zi ((zfg nc w j : Nat) : Int))), (4, .int (zi ((zval n kd al nc an c w : Nat) : Int)))]) K dX9_rows_143 rfl (by decide) rfl ?_
              refine z_goto (tgt := 18) K dX9_rows_146 (by decide) ?_
              refine z_ipick [0, 1, 2] rfl ?_
              exact ih (w + 1) (by omega) (by omega) _ _ _ (zFh_u hgf (by decide) _) (by show g 27 = _; rw [zbr_s, if_neg (by omega)]; exact hg27) (by show g 26 = _; rw [zbr_s, if_neg (by omega)]; exact hg26)
            · refine z_aload_n K dX9_rows_132 rfl ?_
              refine z_iload K dX9_rows_133 rfl ?_
              refine z_puti (k := 39) K dX9_rows_135 fp_X9_204 rfl rfl (z_mem (ν := zup (zup (zup μ 39 (zu1 (zu1 g 24 (7 : Int)) 27 ((zval n kd al nc an c w : Nat) : Int))) 47 q2) 53 ((zdays n kd al nc an 9 ((zsa nc (c, 0, 1, w)).1, a)).2)) (zup_sw3 _ (by decide) (by decide) _ _ _ _) ?_)
              refine z_aload_n K dX9_rows_138 rfl ?_
              refine z_iload_n K dX9_rows_139 rfl ?_
              refine z_puti (k := 39) K dX9_rows_140 fp_X9_207 rfl rfl (z_mem (ν := zup (zup (zup μ 39 (zu1 (zu1 (zu1 g 24 (7 : Int)) 27 ((zval n kd al nc an c w : Nat) : Int)) 26 ((zfg nc w j : Nat) : Int))) 47 q2) 53 ((zdays n kd al nc an 9 ((zsa nc (c, 0, 1, w)).1, a)).2)) (zup_sw3 _ (by decide) (by decide) _ _ _ _) ?_)
              refine z_iincN (lv' := [(0, .ref (ad 39)), (1, .int (zi q)), (2, .int (zi ((w + 1 : Nat) : Int))), (3, .int (zi ((zfg nc w j : Nat) : Int))), (4, .int (zi ((zval n kd al nc an c w : Nat) : Int)))]) K dX9_rows_143 rfl (by decide) rfl ?_
              refine z_goto (tgt := 18) K dX9_rows_146 (by decide) ?_
              refine z_ipick [0, 1, 2] rfl ?_
              exact ih (w + 1) (by omega) (by omega) _ _ _ (zFh_u (zFh_u (zFh_u hgf (by decide) _) (by decide) _) (by decide) _) (by rw [zbr_s, if_pos (by omega)]; rfl) (by rw [zbr_s, if_pos (by omega)]; show ((zfg nc w j : Nat) : Int) = (((zsa nc (c, 0, 1, w)).2.1 : Nat) : Int); rw [hj, (zsa_is w hnc3 c).1])
        · have hp3 := zp3_pos (nc - 1 - j)
          have hp4 := zp3_le (nc - 1 - j) (by omega)
          have hdl := zdv_le nc w j
          refine z_iload_n K dX9_rows_48 rfl ?_
          refine z_iconst K dX9_rows_49 ?_
          refine z_aload_n K dX9_rows_50 rfl ?_
          refine z_get (k := 39) (v := .int (zi ((zu1 g 24 (7 : Int)) 7))) K dX9_rows_51 fl_X9_70 rfl rfl rfl ?_
          rw [show ((zu1 g 24 (7 : Int)) 7) = ((nc : Nat) : Int) from hnc9]
          refine z_iconst K dX9_rows_54 ?_
          refine z_isub K dX9_rows_55 ?_
          refine z_iload K dX9_rows_56 rfl ?_
          refine z_isub K dX9_rows_58 ?_
          rw [show ((((nc : Nat) : Int) - (1 : Int)) - ((j : Nat) : Int)) = ((nc - 1 - j : Nat) : Int) from (by omega)]
          refine z_callSd K hl1 hg1 (As := [.int (zi (3 : Int)), .int (zi ((nc - 1 - j : Nat) : Int))]) (rest := [.int (zi ((w : Nat) : Int))]) (cm_power3 la g0 ad (zup (zup (zup μ 39 (zu1 g 24 (7 : Int))) 47 t2) 53 a) (nc - 1 - j) (by omega)) (by decide) lk_X9_210 cd_X9_power rfl rfl (Nat.le_of_ble_eq_true rfl) dX9_rows_59 ?_
          show zV χ 6 ad zSH 0 0 62 [(0, .ref (ad 39)), (1, .int (zi q)), (2, .int (zi ((w : Nat) : Int))), (3, .int (zi ((zfg nc w j : Nat) : Int))), (4, .int (zi ((j : Nat) : Int)))] [.int (zi ((zp3 (nc - 1 - j) : Nat) : Int)), .int (zi ((w : Nat) : Int))] (zup (zup (zup μ 39 (zu1 g 24 (7 : Int))) 47 t2) 53 a)
          refine z_idiv K dX9_rows_62 (by omega) (by omega) ?_
          rw [show (((w : Nat) : Int) / ((zp3 (nc - 1 - j) : Nat) : Int)) = ((zdv nc w j : Nat) : Int) from rfl]
          refine z_iconst K dX9_rows_63 ?_
          refine z_irem K dX9_rows_64 (by omega) (by omega) ?_
          rw [show (((zdv nc w j : Nat) : Int) % (3 : Int)) = ((zdv nc w j % 3 : Nat) : Int) from (by omega)]
          refine z_istore (lv' := [(0, .ref (ad 39)), (1, .int (zi q)), (2, .int (zi ((w : Nat) : Int))), (3, .int (zi ((zfg nc w j : Nat) : Int))), (4, .int (zi ((j : Nat) : Int))), (5, .int (zi ((zdv nc w j % 3 : Nat) : Int)))]) K dX9_rows_65 (by decide) rfl ?_
          refine z_aload_n K dX9_rows_67 rfl ?_
          refine z_get (k := 39) (v := .ref (ad 47)) K dX9_rows_68 fl_X9_31 rfl rfl rfl ?_
          refine z_bipush K dX9_rows_71 (by decide +kernel) ?_
          refine z_iload K dX9_rows_73 rfl ?_
          refine z_iadd K dX9_rows_75 ?_
          refine z_iload K dX9_rows_76 rfl ?_
          refine z_iast (k := 47) K dX9_rows_78 (18 + j) rfl (by decide) (by omega) (by omega) (z_mem (ν := zup (zup (zup μ 39 (zu1 g 24 (7 : Int))) 47 (zu1 t2 (18 + j) ((zdv nc w j % 3 : Nat) : Int))) 53 a) (zup_sw _ (by decide) _ _ _) ?_)
          refine z_bipush K dX9_rows_79 (by decide +kernel) ?_
          refine z_iload_n K dX9_rows_81 rfl ?_
          refine z_imul K dX9_rows_82 ?_
          refine z_iload K dX9_rows_83 rfl ?_
          refine z_iadd K dX9_rows_85 ?_
          refine z_iconst K dX9_rows_86 ?_
          refine z_iadd K dX9_rows_87 ?_
          rw [show ((((10 : Int) * ((zfg nc w j : Nat) : Int)) + ((zdv nc w j % 3 : Nat) : Int)) + (1 : Int)) = ((zfg nc w (j + 1) : Nat) : Int) from (by rw [zfg_s]; omega)]
          refine z_istore_n (lv' := [(0, .ref (ad 39)), (1, .int (zi q)), (2, .int (zi ((w : Nat) : Int))), (3, .int (zi ((zfg nc w (j + 1) : Nat) : Int))), (4, .int (zi ((j : Nat) : Int))), (5, .int (zi ((zdv nc w j % 3 : Nat) : Int)))]) K dX9_rows_88 (by decide) rfl ?_
          refine z_iincN (lv' := [(0, .ref (ad 39)), (1, .int (zi q)), (2, .int (zi ((w : Nat) : Int))), (3, .int (zi ((zfg nc w (j + 1) : Nat) : Int))), (4, .int (zi ((j + 1 : Nat) : Int))), (5, .int (zi ((zdv nc w j % 3 : Nat) : Int)))]) K dX9_rows_89 rfl (by decide) rfl ?_
          refine z_goto (tgt := 39) K dX9_rows_92 (by decide) ?_
          refine z_ipick [0, 1, 2, 3, 4] rfl ?_
          exact ihj (j + 1) (by omega) (by omega) _ (fun i hi => by
            by_cases e : i = j
            · subst e; exact zu1_eq _ _ _
            · rw [zu1_ne _ _ (by omega)]; exact ht1 i (by omega)) (fun i hi => by
            rw [zu1_ne _ _ (by omega)]; exact ht2 i (by omega))
      exact L39 0 (Nat.zero_le _) (μ 46) (fun i hi => absurd hi (by omega)) (fun _ _ => rfl)
  exact L18 0 (Nat.zero_le _) _ _ _ (zFh_u (zFh_u (zFh_u (zFh_0 _) (by decide) _) (by decide) _) (by decide) _) rfl rfl
