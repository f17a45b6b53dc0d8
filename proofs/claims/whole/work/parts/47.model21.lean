set_option maxHeartbeats 4000000 in
set_option maxRecDepth 100000 in
theorem cm_layGains (la : Launch) (g0 : zG) (ad : Nat → Nat) (μ : zMem) (n nc : Nat) (kd al wt an c : Nat → Int) (hm : zMP μ n nc kd al wt an) (hw : zHV n nc c) (hg : zAg n nc 7 (μ 46) c) (h g t a : Nat → Int) (hgf : zFh (μ 39) g) (p q k : Nat) (hp : p < nc) (hq : q < nc) (hk : k < 9) : zCon la g0 yX9_layGains cX9_layGains 5 none 7 ad zSH [.ref (ad 39), .int (zi ((p : Nat) : Int)), .int (zi ((q : Nat) : Int)), .int (zi ((k : Nat) : Int))] (zup (zup (zup (zup μ 54 h) 39 g) 47 t) 53 a) (zPv (fun ν => ∃ t2 a2, ν = zup (zup (zup (zup μ 54 (zu1 (zu1 h (2 * k) (zg1 n kd al nc an c p q (k / 3) (k % 3))) (2 * k + 1) (zg2 n kd al nc an c p q (k / 3) (k % 3)))) 39 (zu1 g 24 (7 : Int))) 47 t2) 53 a2)) := by
  refine zCon_of (by decide +kernel) (Nat.le_of_ble_eq_true rfl) ?_
  intro χ K T hl1 hg1
  have K : zOk χ cX9_layGains RX9 5 7 none := K
  obtain ⟨hn, hnc, hpl, hpa, hpk⟩ := id hm
  have hn6 := hpk.1
  have hnc3 := hpk.2.1
  have hm9 : zMP (zup (zup μ 54 h) 39 (zu1 g 24 (7 : Int))) n nc kd al wt an := zMP_fr hm (zFr_h (zFr_c (zFr_0 μ) (by decide) h) (zFh_u hgf (by decide) _))
  have hrp := (hg.2.1 p hp).1 (zb7 p (by omega))
  have hrq := (hg.2.1 q hq).1 (zb7 q (by omega))
  have hvp := hw.1.2.1 p hp
  have hvq := hw.1.2.1 q hq
  show zV χ 5 ad zSH 0 0 0 [(0, .ref (ad 39)), (1, .int (zi ((p : Nat) : Int))), (2, .int (zi ((q : Nat) : Int))), (3, .int (zi ((k : Nat) : Int)))] [] (zup (zup (zup (zup μ 54 h) 39 g) 47 t) 53 a)
  refine z_aload_n K dX9_layGains_0 rfl ?_
  refine z_callVm K hl1 hg1 (kb := 39) (As := []) (rest := []) (cm_begin la g0 ad (zup μ 54 h) g t a) (by decide) lk_X9_191 cd_X9_begin rfl rfl rfl rfl (Nat.le_of_ble_eq_true rfl) dX9_layGains_1 ?_
  refine z_aload_n K dX9_layGains_4 rfl ?_
  refine z_get (k := 39) (v := .ref (ad 47)) K dX9_layGains_5 fl_X9_31 rfl rfl rfl ?_
  refine z_bipush K dX9_layGains_8 (by decide +kernel) ?_
  refine z_iload_n K dX9_layGains_10 rfl ?_
  refine z_iadd K dX9_layGains_11 ?_
  refine z_iload_n K dX9_layGains_12 rfl ?_
  refine z_iconst K dX9_layGains_13 ?_
  refine z_idiv K dX9_layGains_14 (by omega) (by omega) ?_
  refine z_iast (k := 47) K dX9_layGains_15 (18 + p) rfl (by decide) (by omega) (by omega) (z_mem (ν := zup (zup (zup (zup μ 54 h) 39 (zu1 g 24 (7 : Int))) 47 (zu1 (μ 46) (18 + p) (((k : Nat) : Int) / (3 : Int)))) 53 a) (zup_sw _ (by decide) _ _ _) ?_)
  refine z_aload_n K dX9_layGains_16 rfl ?_
  refine z_get (k := 39) (v := .ref (ad 47)) K dX9_layGains_17 fl_X9_31 rfl rfl rfl ?_
  refine z_bipush K dX9_layGains_20 (by decide +kernel) ?_
  refine z_iload_n K dX9_layGains_22 rfl ?_
  refine z_iadd K dX9_layGains_23 ?_
  refine z_iload_n K dX9_layGains_24 rfl ?_
  refine z_iconst K dX9_layGains_25 ?_
  refine z_irem K dX9_layGains_26 (by omega) (by omega) ?_
  refine z_iast (k := 47) K dX9_layGains_27 (18 + q) rfl (by decide) (by omega) (by omega) (z_mem (ν := zup (zup (zup (zup μ 54 h) 39 (zu1 g 24 (7 : Int))) 47 (zu1 (zu1 (μ 46) (18 + p) (((k : Nat) : Int) / (3 : Int))) (18 + q) (((k : Nat) : Int) % (3 : Int)))) 53 a) (zup_sw _ (by decide) _ _ _) ?_)
  refine z_iconst K dX9_layGains_28 ?_
  refine z_istore (lv' := [(0, .ref (ad 39)), (1, .int (zi ((p : Nat) : Int))), (2, .int (zi ((q : Nat) : Int))), (3, .int (zi ((k : Nat) : Int))), (4, .int (zi (0 : Int)))]) K dX9_layGains_29 (by decide) rfl ?_
  have L31 : ∀ i, i ≤ 3 → ∀ (b : Nat → Int), (∀ j, j < i → b j = 0) → zV χ 5 ad zSH 0 0 31 [(0, .ref (ad 39)), (1, .int (zi ((p : Nat) : Int))), (2, .int (zi ((q : Nat) : Int))), (3, .int (zi ((k : Nat) : Int))), (4, .int (zi ((i : Nat) : Int)))] [] (zup (zup (zup (zup μ 54 h) 39 (zu1 g 24 (7 : Int))) 47 (zu1 (zu1 (μ 46) (18 + p) ((k / 3 : Nat) : Int)) (18 + q) ((k % 3 : Nat) : Int))) 53 b) := by
    refine zfor ?_
    intro i hi ih b hb
    refine z_iload K dX9_layGains_31 rfl ?_
    refine z_iconst K dX9_layGains_33 ?_
    refine z_icmpge (tgt := 51) K dX9_layGains_34 (by decide) (by omega) ⟨by decide, by decide⟩ (fun h34 => ?_) (fun h34 => ?_)
    · refine z_eqv (k := 53) (n := 3) (b := false) (ν := zup (zup (zup (zup μ 54 h) 39 (zu1 g 24 (7 : Int))) 47 (zu1 (zu1 (μ 46) (18 + p) ((k / 3 : Nat) : Int)) (18 + q) ((k % 3 : Nat) : Int))) 53 zz0) rfl (fun q hq => ?_) (fun j hj => ?_) ?_
      · unfold zup; simp [hq]
      · exact hb j (by omega)
      refine z_aload_n K dX9_layGains_51 rfl ?_
      refine z_iconst K dX9_layGains_52 ?_
      refine z_callVv K hl1 hg1 (kb := 39) (As := [.int (zi (3 : Int))]) (rest := []) (cm_goDays la g0 ad (zup (zup μ 54 h) 39 (zu1 g 24 (7 : Int))) n nc 7 kd al wt an (zu1 (zu1 (μ 46) (18 + p) ((k / 3 : Nat) : Int)) (18 + q) ((k % 3 : Nat) : Int)) (zu1 (zu1 c (18 + p) ((k / 3 : Nat) : Int)) (18 + q) ((k % 3 : Nat) : Int)) zz0 hm9 (zHV_row hn6 hnc3 (zHV_row hn6 hnc3 hw hp (by omega)) hq (by omega)) (zAg_row hn6 hnc3 (zAg_row hn6 hnc3 hg hp _ (zb7 p (by omega))) hq _ (zb7 q (by omega))) rfl (by decide) 3 (by decide)) (by decide) lk_X9_194 cd_X9_goDays rfl rfl rfl rfl (Nat.le_of_ble_eq_true rfl) dX9_layGains_53 (fun ν h53 => ?_)
      obtain ⟨q2, hν, hag2⟩ := h53
      subst hν
      have hd1 : zg1 n kd al nc an c p q (k / 3) (k % 3) = (zrs n kd al nc an c p q (k / 3) (k % 3)).2 p - (if ((k / 3 : Nat) : Int) = c (18 + p) then 0 else 1) := rfl
      have hd2 : zg2 n kd al nc an c p q (k / 3) (k % 3) = (zrs n kd al nc an c p q (k / 3) (k % 3)).2 q - (if ((k % 3 : Nat) : Int) = c (18 + q) then 0 else 1) := rfl
      refine z_aload_n K dX9_layGains_56 rfl ?_
      refine z_get (k := 39) (v := .ref (ad 54)) K dX9_layGains_57 fl_X9_53 rfl rfl rfl ?_
      refine z_iconst K dX9_layGains_60 ?_
      refine z_iload_n K dX9_layGains_61 rfl ?_
      refine z_imul K dX9_layGains_62 ?_
      refine z_aload_n K dX9_layGains_63 rfl ?_
      refine z_get (k := 39) (v := .ref (ad 53)) K dX9_layGains_64 fl_X9_50 rfl rfl rfl ?_
      refine z_iload_n K dX9_layGains_67 rfl ?_
      refine z_iald (k := 53) (v := (zrs n kd al nc an c p q (k / 3) (k % 3)).2 p) K dX9_layGains_68 p rfl (by decide) (by omega) (by omega) rfl ?_
      refine z_aload_n K dX9_layGains_69 rfl ?_
      refine z_get (k := 39) (v := .ref (ad 46)) K dX9_layGains_70 fl_X9_28 rfl rfl rfl ?_
      refine z_bipush K dX9_layGains_73 (by decide +kernel) ?_
      refine z_iload_n K dX9_layGains_75 rfl ?_
      refine z_iadd K dX9_layGains_76 ?_
      refine z_iald (k := 46) (v := c (18 + p)) K dX9_layGains_77 (18 + p) rfl (by decide) (by omega) (by omega) hrp ?_
      refine z_iload_n K dX9_layGains_78 rfl ?_
      refine z_iconst K dX9_layGains_79 ?_
      refine z_idiv K dX9_layGains_80 (by omega) (by omega) ?_
      refine z_icmpne (tgt := 88) K dX9_layGains_81 (by decide) (by omega) (by omega) (fun h81 => ?_) (fun h81 => ?_)
      · refine z_iconst K dX9_layGains_88 ?_
        refine z_isub K dX9_layGains_89 ?_
        refine z_iast (k := 54) K dX9_layGains_90 (2 * k) rfl (by decide) (by omega) (by omega) (z_mem (ν := zup (zup (zup (zup μ 54 (zu1 h (2 * k) (((zrs n kd al nc an c p q (k / 3) (k % 3)).2 p) - (1 : Int)))) 39 (zu1 g 24 (7 : Int))) 47 q2) 53 ((zrs n kd al nc an c p q (k / 3) (k % 3)).2)) (zup_sw4 _ (by decide) (by decide) (by decide) _ _ _ _ _) ?_)
        refine z_aload_n K dX9_layGains_91 rfl ?_
        refine z_get (k := 39) (v := .ref (ad 54)) K dX9_layGains_92 fl_X9_53 rfl rfl rfl ?_
        refine z_iconst K dX9_layGains_95 ?_
        refine z_iload_n K dX9_layGains_96 rfl ?_
        refine z_imul K dX9_layGains_97 ?_
        refine z_iconst K dX9_layGains_98 ?_
        refine z_iadd K dX9_layGains_99 ?_
        refine z_aload_n K dX9_layGains_100 rfl ?_
        refine z_get (k := 39) (v := .ref (ad 53)) K dX9_layGains_101 fl_X9_50 rfl rfl rfl ?_
        refine z_iload_n K dX9_layGains_104 rfl ?_
        refine z_iald (k := 53) (v := (zrs n kd al nc an c p q (k / 3) (k % 3)).2 q) K dX9_layGains_105 q rfl (by decide) (by omega) (by omega) rfl ?_
        refine z_aload_n K dX9_layGains_106 rfl ?_
        refine z_get (k := 39) (v := .ref (ad 46)) K dX9_layGains_107 fl_X9_28 rfl rfl rfl ?_
        refine z_bipush K dX9_layGains_110 (by decide +kernel) ?_
        refine z_iload_n K dX9_layGains_112 rfl ?_
        refine z_iadd K dX9_layGains_113 ?_
        refine z_iald (k := 46) (v := c (18 + q)) K dX9_layGains_114 (18 + q) rfl (by decide) (by omega) (by omega) hrq ?_
        refine z_iload_n K dX9_layGains_115 rfl ?_
        refine z_iconst K dX9_layGains_116 ?_
        refine z_irem K dX9_layGains_117 (by omega) (by omega) ?_
        refine z_icmpne (tgt := 125) K dX9_layGains_118 (by decide) (by omega) (by omega) (fun h118 => ?_) (fun h118 => ?_)
        · refine z_iconst K dX9_layGains_125 ?_
          refine z_isub K dX9_layGains_126 ?_
          refine z_iast (k := 54) K dX9_layGains_127 (2 * k + 1) rfl (by decide) (by omega) (by omega) (z_mem (ν := zup (zup (zup (zup μ 54 (zu1 (zu1 h (2 * k) (((zrs n kd al nc an c p q (k / 3) (k % 3)).2 p) - (1 : Int))) (2 * k + 1) (((zrs n kd al nc an c p q (k / 3) (k % 3)).2 q) - (1 : Int)))) 39 (zu1 g 24 (7 : Int))) 47 q2) 53 ((zrs n kd al nc an c p q (k / 3) (k % 3)).2)) (zup_sw4 _ (by decide) (by decide) (by decide) _ _ _ _ _) ?_)
          exact z_vreti K T rfl dX9_layGains_128 ⟨q2, _, by rw [show zg1 n kd al nc an c p q (k / 3) (k % 3) = (zrs n kd al nc an c p q (k / 3) (k % 3)).2 p - (1 : Int) by omega, show zg2 n kd al nc an c p q (k / 3) (k % 3) = (zrs n kd al nc an c p q (k / 3) (k % 3)).2 q - (1 : Int) by omega]⟩
        · refine z_iconst K dX9_layGains_121 ?_
          refine z_goto (tgt := 126) K dX9_layGains_122 (by decide) ?_
          refine z_isub K dX9_layGains_126 ?_
          refine z_iast (k := 54) K dX9_layGains_127 (2 * k + 1) rfl (by decide) (by omega) (by omega) (z_mem (ν := zup (zup (zup (zup μ 54 (zu1 (zu1 h (2 * k) (((zrs n kd al nc an c p q (k / 3) (k % 3)).2 p) - (1 : Int))) (2 * k + 1) (((zrs n kd al nc an c p q (k / 3) (k % 3)).2 q) - (0 : Int)))) 39 (zu1 g 24 (7 : Int))) 47 q2) 53 ((zrs n kd al nc an c p q (k / 3) (k % 3)).2)) (zup_sw4 _ (by decide) (by decide) (by decide) _ _ _ _ _) ?_)
          exact z_vreti K T rfl dX9_layGains_128 ⟨q2, _, by rw [show zg1 n kd al nc an c p q (k / 3) (k % 3) = (zrs n kd al nc an c p q (k / 3) (k % 3)).2 p - (1 : Int) by omega, show zg2 n kd al nc an c p q (k / 3) (k % 3) = (zrs n kd al nc an c p q (k / 3) (k % 3)).2 q - (0 : Int) by omega]⟩
      · refine z_iconst K dX9_layGains_84 ?_
        refine z_goto (tgt := 89) K dX9_layGains_85 (by decide) ?_
        refine z_isub K dX9_layGains_89 ?_
        refine z_iast (k := 54) K dX9_layGains_90 (2 * k) rfl (by decide) (by omega) (by omega) (z_mem (ν := zup (zup (zup (zup μ 54 (zu1 h (2 * k) (((zrs n kd al nc an c p q (k / 3) (k % 3)).2 p) - (0 : Int)))) 39 (zu1 g 24 (7 : Int))) 47 q2) 53 ((zrs n kd al nc an c p q (k / 3) (k % 3)).2)) (zup_sw4 _ (by decide) (by decide) (by decide) _ _ _ _ _) ?_)
        refine z_aload_n K dX9_layGains_91 rfl ?_
        refine z_get (k := 39) (v := .ref (ad 54)) K dX9_layGains_92 fl_X9_53 rfl rfl rfl ?_
        refine z_iconst K dX9_layGains_95 ?_
        refine z_iload_n K dX9_layGains_96 rfl ?_
        refine z_imul K dX9_layGains_97 ?_
        refine z_iconst K dX9_layGains_98 ?_
        refine z_iadd K dX9_layGains_99 ?_
        refine z_aload_n K dX9_layGains_100 rfl ?_
        refine z_get (k := 39) (v := .ref (ad 53)) K dX9_layGains_101 fl_X9_50 rfl rfl rfl ?_
        refine z_iload_n K dX9_layGains_104 rfl ?_
        refine z_iald (k := 53) (v := (zrs n kd al nc an c p q (k / 3) (k % 3)).2 q) K dX9_layGains_105 q rfl (by decide) (by omega) (by omega) rfl ?_
        refine z_aload_n K dX9_layGains_106 rfl ?_
        refine z_get (k := 39) (v := .ref (ad 46)) K dX9_layGains_107 fl_X9_28 rfl rfl rfl ?_
        refine z_bipush K dX9_layGains_110 (by decide +kernel) ?_
        refine z_iload_n K dX9_layGains_112 rfl ?_
        refine z_iadd K dX9_layGains_113 ?_
        refine z_iald (k := 46) (v := c (18 + q)) K dX9_layGains_114 (18 + q) rfl (by decide) (by omega) (by omega) hrq ?_
        refine z_iload_n K dX9_layGains_115 rfl ?_
        refine z_iconst K dX9_layGains_116 ?_
        refine z_irem K dX9_layGains_117 (by omega) (by omega) ?_
        refine z_icmpne (tgt := 125) K dX9_layGains_118 (by decide) (by omega) (by omega) (fun h118 => ?_) (fun h118 => ?_)
        · refine z_iconst K dX9_layGains_125 ?_
          refine z_isub K dX9_layGains_126 ?_
          refine z_iast (k := 54) K dX9_layGains_127 (2 * k + 1) rfl (by decide) (by omega) (by omega) (z_mem (ν := zup (zup (zup (zup μ 54 (zu1 (zu1 h (2 * k) (((zrs n kd al nc an c p q (k / 3) (k % 3)).2 p) - (0 : Int))) (2 * k + 1) (((zrs n kd al nc an c p q (k / 3) (k % 3)).2 q) - (1 : Int)))) 39 (zu1 g 24 (7 : Int))) 47 q2) 53 ((zrs n kd al nc an c p q (k / 3) (k % 3)).2)) (zup_sw4 _ (by decide) (by decide) (by decide) _ _ _ _ _) ?_)
          exact z_vreti K T rfl dX9_layGains_128 ⟨q2, _, by rw [show zg1 n kd al nc an c p q (k / 3) (k % 3) = (zrs n kd al nc an c p q (k / 3) (k % 3)).2 p - (0 : Int) by omega, show zg2 n kd al nc an c p q (k / 3) (k % 3) = (zrs n kd al nc an c p q (k / 3) (k % 3)).2 q - (1 : Int) by omega]⟩
        · refine z_iconst K dX9_layGains_121 ?_
          refine z_goto (tgt := 126) K dX9_layGains_122 (by decide) ?_
          refine z_isub K dX9_layGains_126 ?_
          refine z_iast (k := 54) K dX9_layGains_127 (2 * k + 1) rfl (by decide) (by omega) (by omega) (z_mem (ν := zup (zup (zup (zup μ 54 (zu1 (zu1 h (2 * k) (((zrs n kd al nc an c p q (k / 3) (k % 3)).2 p) - (0 : Int))) (2 * k + 1) (((zrs n kd al nc an c p q (k / 3) (k % 3)).2 q) - (0 : Int)))) 39 (zu1 g 24 (7 : Int))) 47 q2) 53 ((zrs n kd al nc an c p q (k / 3) (k % 3)).2)) (zup_sw4 _ (by decide) (by decide) (by decide) _ _ _ _ _) ?_)
          exact z_vreti K T rfl dX9_layGains_128 ⟨q2, _, by rw [show zg1 n kd al nc an c p q (k / 3) (k % 3) = (zrs n kd al nc an c p q (k / 3) (k % 3)).2 p - (0 : Int) by omega, show zg2 n kd al nc an c p q (k / 3) (k % 3) = (zrs n kd al nc an c p q (k / 3) (k % 3)).2 q - (0 : Int) by omega]⟩
    · refine z_aload_n K dX9_layGains_37 rfl ?_
      refine z_get (k := 39) (v := .ref (ad 53)) K dX9_layGains_38 fl_X9_50 rfl rfl rfl ?_
      refine z_iload K dX9_layGains_41 rfl ?_
      refine z_iconst K dX9_layGains_43 ?_
      refine z_iast (k := 53) K dX9_layGains_44 i rfl (by decide) (by omega) (by omega) (z_mem (ν := zup (zup (zup (zup μ 54 h) 39 (zu1 g 24 (7 : Int))) 47 (zu1 (zu1 (μ 46) (18 + p) ((k / 3 : Nat) : Int)) (18 + q) ((k % 3 : Nat) : Int))) 53 (zu1 b i (0 : Int))) (zup_same _ _ _ _) ?_)
      refine z_iincN (lv' := [(0, .ref (ad 39)), (1, .int (zi ((p : Nat) : Int))), (2, .int (zi ((q : Nat) : Int))), (3, .int (zi ((k : Nat) : Int))), (4, .int (zi ((i + 1 : Nat) : Int)))]) K dX9_layGains_45 rfl (by decide) rfl ?_
      refine z_goto (tgt := 31) K dX9_layGains_48 (by decide) ?_
      exact ih (i + 1) (by omega) (by omega) _ (fun j hj => by
        simp only [zu1]
        split
        · rfl
        · exact hb j (by omega))
  exact L31 0 (by omega) _ (fun j hj => absurd hj (by omega))
