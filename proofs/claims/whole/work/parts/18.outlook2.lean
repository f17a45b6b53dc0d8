theorem ct_moveTo3 (la : Launch) (g0 : zG) (ad : Nat → Nat) (μ : zMem) (x y : Nat → Int) (z : Int) (hz : 0 ≤ z ∧ z < 6) (v : Int) : zCon la g0 yX1_moveTo cX1_moveTo 3 none 0 ad zSH [.ref (ad 25), .int (zi z), .int (zi v)] (zup (zup μ 26 x) 27 y) (zPm (zup (zup μ 26 (zu1 x z.toNat v)) 27 y)) := by
  have h := ct_moveTo2 la g0 ad μ x y z.toNat (by omega) v
  rw [show ((z.toNat : Nat) : Int) = z by omega] at h
  exact h
theorem ct_sendTo3 (la : Launch) (g0 : zG) (ad : Nat → Nat) (μ : zMem) (x y : Nat → Int) (z : Int) (hz : 0 ≤ z ∧ z < 3) (v : Int) : zCon la g0 yX1_sendTo cX1_sendTo 3 none 0 ad zSH [.ref (ad 25), .int (zi z), .int (zi v)] (zup (zup μ 26 x) 27 y) (zPm (zup (zup μ 26 (zu1 x (18 + z.toNat) v)) 27 y)) := by
  have h := ct_sendTo2 la g0 ad μ x y z.toNat (by omega) v
  rw [show ((z.toNat : Nat) : Int) = z by omega] at h
  exact h
set_option maxHeartbeats 4000000 in
set_option maxRecDepth 100000 in
theorem ct_putIfCan (la : Launch) (g0 : zG) (ad : Nat → Nat) (μ : zMem) (n nc : Nat) (hp : zPlan μ n nc) (c a : Nat → Int) (hv : zHV n nc c) (v w : Int) (hvr : zR v) (hwr : zR w) : zCon la g0 yX2_putIfCan cX2_putIfCan 4 (some .boolean) 2 ad zSH [.ref (ad 20), .int (zi v), .int (zi w)] (zup (zup μ 26 c) 27 a) (zPd (zup (zup μ 26 (zputC n c v w)) 27 a) (zcpI n c v w)) := by
  refine zCon_of (by decide +kernel) (Nat.le_of_ble_eq_true rfl) ?_
  intro χ K T hl1 hg1
  have K : zOk χ cX2_putIfCan RX2 4 2 (some .boolean) := K
  obtain ⟨hn, hn6, hnc, hnc3, hpl, hpk⟩ := id hp
  have hrg := zcpI_rg n c v w
  show zV χ 4 ad zSH 0 0 0 [(0, .ref (ad 20)), (1, .int (zi v)), (2, .int (zi w))] [] (zup (zup μ 26 c) 27 a)
  refine z_aload_n K dX2_putIfCan_0 rfl ?_
  refine z_get (k := 20) (v := .ref (ad 25)) K dX2_putIfCan_1 fl_X2_37 rfl rfl rfl ?_
  refine z_iload_n K dX2_putIfCan_4 rfl ?_
  refine z_iload_n K dX2_putIfCan_5 rfl ?_
  refine z_callVd K hl1 hg1 (kb := 25) (As := [.int (zi v), .int (zi w)]) (rest := []) (ct_canPut_t la g0 ad (zup (zup μ 26 c) 27 a) n nc hp hv.1 v w hvr hwr) (by decide) lk_X2_77 cd_X1_canPut rfl rfl rfl rfl (Nat.le_of_ble_eq_true rfl) dX2_putIfCan_6 ?_
  show zV χ 4 ad zSH 0 0 9 [(0, .ref (ad 20)), (1, .int (zi v)), (2, .int (zi w))] [.int (zi (zcpI n c v w))] (zup (zup μ 26 c) 27 a)
  refine z_istore_n (lv' := [(0, .ref (ad 20)), (1, .int (zi v)), (2, .int (zi w)), (3, .int (zi (zcpI n c v w)))]) K dX2_putIfCan_9 (by decide) rfl ?_
  refine z_iload_n K dX2_putIfCan_10 rfl ?_
  refine z_ifeq (tgt := 23) K dX2_putIfCan_11 (by decide) (by omega) (fun h11 => ?_) (fun h11 => ?_)
  · refine z_iload_n K dX2_putIfCan_23 rfl ?_
    exact z_zretd K T rfl dX2_putIfCan_24 (by omega) rfl (by unfold zputC; rw [if_pos h11])
  · have hne := zcpI_ne h11
    refine z_aload_n K dX2_putIfCan_14 rfl ?_
    refine z_get (k := 20) (v := .ref (ad 25)) K dX2_putIfCan_15 fl_X2_37 rfl rfl rfl ?_
    refine z_iload_n K dX2_putIfCan_18 rfl ?_
    refine z_iload_n K dX2_putIfCan_19 rfl ?_
    refine z_callVm K hl1 hg1 (kb := 25) (As := [.int (zi v), .int (zi w)]) (rest := []) (ct_moveTo3 la g0 ad μ c a v (by omega) w) (by decide) lk_X2_52 cd_X1_moveTo rfl rfl rfl rfl (Nat.le_of_ble_eq_true rfl) dX2_putIfCan_20 ?_
    refine z_iload_n K dX2_putIfCan_23 rfl ?_
    exact z_zretd K T rfl dX2_putIfCan_24 (by omega) rfl (by unfold zputC; rw [if_neg h11])
set_option maxHeartbeats 4000000 in
set_option maxRecDepth 100000 in
theorem ct_sendIfCan (la : Launch) (g0 : zG) (ad : Nat → Nat) (μ : zMem) (n nc : Nat) (hp : zPlan μ n nc) (c a : Nat → Int) (hv : zHV n nc c) (v w : Int) (hvr : zR v) (hwr : zR w) : zCon la g0 yX2_sendIfCan cX2_sendIfCan 4 (some .boolean) 2 ad zSH [.ref (ad 20), .int (zi v), .int (zi w)] (zup (zup μ 26 c) 27 a) (zPd (zup (zup μ 26 (zsndC nc c v w)) 27 a) (zcsI nc c v w)) := by
  refine zCon_of (by decide +kernel) (Nat.le_of_ble_eq_true rfl) ?_
  intro χ K T hl1 hg1
  have K : zOk χ cX2_sendIfCan RX2 4 2 (some .boolean) := K
  obtain ⟨hn, hn6, hnc, hnc3, hpl, hpk⟩ := id hp
  have hrg := zcsI_rg nc c v w
  show zV χ 4 ad zSH 0 0 0 [(0, .ref (ad 20)), (1, .int (zi v)), (2, .int (zi w))] [] (zup (zup μ 26 c) 27 a)
  refine z_aload_n K dX2_sendIfCan_0 rfl ?_
  refine z_get (k := 20) (v := .ref (ad 25)) K dX2_sendIfCan_1 fl_X2_37 rfl rfl rfl ?_
  refine z_iload_n K dX2_sendIfCan_4 rfl ?_
  refine z_iload_n K dX2_sendIfCan_5 rfl ?_
  refine z_callVd K hl1 hg1 (kb := 25) (As := [.int (zi v), .int (zi w)]) (rest := []) (ct_canSend_t la g0 ad (zup (zup μ 26 c) 27 a) n nc hp hv.1 v w hvr hwr) (by decide) lk_X2_123 cd_X1_canSend rfl rfl rfl rfl (Nat.le_of_ble_eq_true rfl) dX2_sendIfCan_6 ?_
  show zV χ 4 ad zSH 0 0 9 [(0, .ref (ad 20)), (1, .int (zi v)), (2, .int (zi w))] [.int (zi (zcsI nc c v w))] (zup (zup μ 26 c) 27 a)
  refine z_istore_n (lv' := [(0, .ref (ad 20)), (1, .int (zi v)), (2, .int (zi w)), (3, .int (zi (zcsI nc c v w)))]) K dX2_sendIfCan_9 (by decide) rfl ?_
  refine z_iload_n K dX2_sendIfCan_10 rfl ?_
  refine z_ifeq (tgt := 23) K dX2_sendIfCan_11 (by decide) (by omega) (fun h11 => ?_) (fun h11 => ?_)
  · refine z_iload_n K dX2_sendIfCan_23 rfl ?_
    exact z_zretd K T rfl dX2_sendIfCan_24 (by omega) rfl (by unfold zsndC; rw [if_pos h11])
  · have hne := zcsI_ne h11
    refine z_aload_n K dX2_sendIfCan_14 rfl ?_
    refine z_get (k := 20) (v := .ref (ad 25)) K dX2_sendIfCan_15 fl_X2_37 rfl rfl rfl ?_
    refine z_iload_n K dX2_sendIfCan_18 rfl ?_
    refine z_iload_n K dX2_sendIfCan_19 rfl ?_
    refine z_callVm K hl1 hg1 (kb := 25) (As := [.int (zi v), .int (zi w)]) (rest := []) (ct_sendTo3 la g0 ad μ c a v (by omega) w) (by decide) lk_X2_71 cd_X1_sendTo rfl rfl rfl rfl (Nat.le_of_ble_eq_true rfl) dX2_sendIfCan_20 ?_
    refine z_iload_n K dX2_sendIfCan_23 rfl ?_
    exact z_zretd K T rfl dX2_sendIfCan_24 (by omega) rfl (by unfold zsndC; rw [if_neg h11])
set_option maxHeartbeats 4000000 in
set_option maxRecDepth 100000 in
theorem ct_doIfCan (la : Launch) (g0 : zG) (ad : Nat → Nat) (μ : zMem) (n nc : Nat) (hp : zPlan μ n nc) (c a : Nat → Int) (hv : zHV n nc c) (D : Nat) (hD : D ≤ 9999) : zCon la g0 yX2_doIfCan cX2_doIfCan 5 (some .boolean) 4 ad zSH [.ref (ad 20), .int (zi ((D : Nat) : Int))] (zup (zup μ 26 c) 27 a) (zPd (zup (zup μ 26 ((zdo n (μ 13) (μ 14) nc (μ 16) D (c, a)).1.1)) 27 ((zdo n (μ 13) (μ 14) nc (μ 16) D (c, a)).1.2)) (zdo n (μ 13) (μ 14) nc (μ 16) D (c, a)).2) := by
  refine zCon_of (by decide +kernel) (Nat.le_of_ble_eq_true rfl) ?_
  intro χ K T hl1 hg1
  have K : zOk χ cX2_doIfCan RX2 5 4 (some .boolean) := K
  obtain ⟨hn, hn6, hnc, hnc3, hpl, hpk⟩ := id hp
  have hv21 := hv.1.2.2
  show zV χ 5 ad zSH 0 0 0 [(0, .ref (ad 20)), (1, .int (zi ((D : Nat) : Int)))] [] (zup (zup μ 26 c) 27 a)
  refine z_iload_n K dX2_doIfCan_0 rfl ?_
  refine z_bipush K dX2_doIfCan_1 (by decide +kernel) ?_
  refine z_idiv K dX2_doIfCan_3 (by omega) (by omega) ?_
  refine z_bipush K dX2_doIfCan_4 (by decide +kernel) ?_
  refine z_irem K dX2_doIfCan_6 (by omega) (by omega) ?_
  rw [show ((((D : Nat) : Int) / (100 : Int)) % (10 : Int)) = ((D / 100 % 10 : Nat) : Int) from (by omega)]
  refine z_istore_n (lv' := [(0, .ref (ad 20)), (1, .int (zi ((D : Nat) : Int))), (2, .int (zi ((D / 100 % 10 : Nat) : Int)))]) K dX2_doIfCan_7 (by decide) rfl ?_
  refine z_iload_n K dX2_doIfCan_8 rfl ?_
  refine z_bipush K dX2_doIfCan_9 (by decide +kernel) ?_
  refine z_idiv K dX2_doIfCan_11 (by omega) (by omega) ?_
  refine z_bipush K dX2_doIfCan_12 (by decide +kernel) ?_
  refine z_irem K dX2_doIfCan_14 (by omega) (by omega) ?_
  rw [show ((((D : Nat) : Int) / (10 : Int)) % (10 : Int)) = ((D / 10 % 10 : Nat) : Int) from (by omega)]
  refine z_istore_n (lv' := [(0, .ref (ad 20)), (1, .int (zi ((D : Nat) : Int))), (2, .int (zi ((D / 100 % 10 : Nat) : Int))), (3, .int (zi ((D / 10 % 10 : Nat) : Int)))]) K dX2_doIfCan_15 (by decide) rfl ?_
  refine z_iload_n K dX2_doIfCan_16 rfl ?_
  refine z_bipush K dX2_doIfCan_17 (by decide +kernel) ?_
  refine z_irem K dX2_doIfCan_19 (by omega) (by omega) ?_
  rw [show (((D : Nat) : Int) % (10 : Int)) = ((D % 10 : Nat) : Int) from (by omega)]
  refine z_istore (lv' := [(0, .ref (ad 20)), (1, .int (zi ((D : Nat) : Int))), (2, .int (zi ((D / 100 % 10 : Nat) : Int))), (3, .int (zi ((D / 10 % 10 : Nat) : Int))), (4, .int (zi ((D % 10 : Nat) : Int)))]) K dX2_doIfCan_20 (by decide) rfl ?_
  refine z_iload_n K dX2_doIfCan_22 rfl ?_
  refine z_sipush K dX2_doIfCan_23 (by decide +kernel) ?_
  refine z_idiv K dX2_doIfCan_26 (by omega) (by omega) ?_
  rw [show (((D : Nat) : Int) / (1000 : Int)) = ((D / 1000 : Nat) : Int) from (by omega)]
  rcases (show ((D / 1000 : Nat) : Int) = 0 ∨ ((D / 1000 : Nat) : Int) = 1 ∨ ((D / 1000 : Nat) : Int) = 2 ∨ ((D / 1000 : Nat) : Int) = 3 ∨ ((D / 1000 : Nat) : Int) = 4 ∨ (((D / 1000 : Nat) : Int) < 0 ∨ 4 < ((D / 1000 : Nat) : Int)) by omega) with hsw | hsw | hsw | hsw | hsw | hsw
  · refine z_tableIn (off := 33) (tgt := 60) K dX2_doIfCan_27 (by omega) (by omega) (by omega) (by rw [hsw]; rfl) (by decide) ?_
    refine z_iload_n K dX2_doIfCan_60 rfl ?_
    refine z_ifne (tgt := 72) K dX2_doIfCan_61 (by decide) (by omega) (fun h61 => ?_) (fun h61 => ?_)
    · refine z_iload_n K dX2_doIfCan_72 rfl ?_
      refine z_ifne (tgt := 80) K dX2_doIfCan_73 (by decide) (by omega) (fun h73 => ?_) (fun h73 => absurd h73 (by omega))
      refine z_iconst K dX2_doIfCan_80 ?_
      exact z_zretd K T rfl dX2_doIfCan_81 (Or.inl rfl) (by unfold zdo; rw [if_neg (by omega), if_neg (by omega), if_neg (by omega), if_neg (by omega), if_neg (by omega)]) (by unfold zdo; rw [if_neg (by omega), if_neg (by omega), if_neg (by omega), if_neg (by omega), if_neg (by omega)])
    · refine z_aload_n K dX2_doIfCan_64 rfl ?_
      refine z_get (k := 20) (v := .ref (ad 25)) K dX2_doIfCan_65 fl_X2_37 rfl rfl rfl ?_
      refine z_callVd K hl1 hg1 (kb := 25) (As := []) (rest := []) (ct_passDay_t la g0 ad μ n nc hp c a hv) (by decide) lk_X2_44 cd_X1_passDay rfl rfl rfl rfl (Nat.le_of_ble_eq_true rfl) dX2_doIfCan_68 ?_
      show zV χ 5 ad zSH 0 0 71 [(0, .ref (ad 20)), (1, .int (zi ((D : Nat) : Int))), (2, .int (zi ((D / 100 % 10 : Nat) : Int))), (3, .int (zi ((D / 10 % 10 : Nat) : Int))), (4, .int (zi ((D % 10 : Nat) : Int)))] [.int (zi ((zdayM n (μ 13) (μ 14) nc (μ 16) (c, a) : Nat) : Int))] (zup (zup μ 26 ((zday n (μ 13) (μ 14) nc (μ 16) (c, a)).1)) 27 ((zday n (μ 13) (μ 14) nc (μ 16) (c, a)).2))
      refine z_pop K dX2_doIfCan_71 rfl ?_
      refine z_iload_n K dX2_doIfCan_72 rfl ?_
      refine z_ifne (tgt := 80) K dX2_doIfCan_73 (by decide) (by omega) (fun h73 => absurd h73 (by omega)) (fun h73 => ?_)
      refine z_iconst K dX2_doIfCan_76 ?_
      refine z_goto (tgt := 81) K dX2_doIfCan_77 (by decide) ?_
      exact z_zretd K T rfl dX2_doIfCan_81 (Or.inr rfl) (by unfold zdo; rw [if_pos (by omega)]) (by unfold zdo; rw [if_pos (by omega)])
  · refine z_tableIn (off := 55) (tgt := 82) K dX2_doIfCan_27 (by omega) (by omega) (by omega) (by rw [hsw]; rfl) (by decide) ?_
    refine z_aload_n K dX2_doIfCan_82 rfl ?_
    refine z_iload_n K dX2_doIfCan_83 rfl ?_
    refine z_iload_n K dX2_doIfCan_84 rfl ?_
    refine z_bipush K dX2_doIfCan_85 (by decide +kernel) ?_
    refine z_irem K dX2_doIfCan_87 (by omega) (by omega) ?_
    rw [show (((D : Nat) : Int) % (100 : Int)) = ((D % 100 : Nat) : Int) from (by omega)]
    refine z_callVd K hl1 hg1 (kb := 20) (As := [.int (zi ((D / 100 % 10 : Nat) : Int)), .int (zi ((D % 100 : Nat) : Int))]) (rest := []) (ct_putIfCan la g0 ad μ n nc hp c a hv ((D / 100 % 10 : Nat) : Int) ((D % 100 : Nat) : Int) ⟨by omega, by omega⟩ ⟨by omega, by omega⟩) (by decide) lk_X2_111 cd_X2_putIfCan rfl rfl rfl rfl (Nat.le_of_ble_eq_true rfl) dX2_doIfCan_88 ?_
    show zV χ 5 ad zSH 0 0 91 [(0, .ref (ad 20)), (1, .int (zi ((D : Nat) : Int))), (2, .int (zi ((D / 100 % 10 : Nat) : Int))), (3, .int (zi ((D / 10 % 10 : Nat) : Int))), (4, .int (zi ((D % 10 : Nat) : Int)))] [.int (zi (zcpI n c ((D / 100 % 10 : Nat) : Int) ((D % 100 : Nat) : Int)))] (zup (zup μ 26 (zputC n c ((D / 100 % 10 : Nat) : Int) ((D % 100 : Nat) : Int))) 27 a)
    exact z_zretd K T rfl dX2_doIfCan_91 (zcpI_rg _ _ _ _) (by unfold zdo; rw [if_neg (by omega), if_pos (by omega)]) (by unfold zdo; rw [if_neg (by omega), if_pos (by omega)])
  · refine z_tableIn (off := 65) (tgt := 92) K dX2_doIfCan_27 (by omega) (by omega) (by omega) (by rw [hsw]; rfl) (by decide) ?_
    refine z_iload_n K dX2_doIfCan_92 rfl ?_
    refine z_ifne (tgt := 105) K dX2_doIfCan_93 (by decide) (by omega) (fun h93 => ?_) (fun h93 => ?_)
    · refine z_iconst K dX2_doIfCan_105 ?_
      exact z_zretd K T rfl dX2_doIfCan_106 (Or.inl rfl) (by unfold zdo; rw [if_neg (by omega), if_neg (by omega), if_pos (by omega), if_neg (by omega)]) (by unfold zdo; rw [if_neg (by omega), if_neg (by omega), if_pos (by omega), if_neg (by omega)])
    · refine z_iload_n K dX2_doIfCan_96 rfl ?_
      refine z_ifne (tgt := 105) K dX2_doIfCan_97 (by decide) (by omega) (fun h97 => ?_) (fun h97 => ?_)
      · refine z_iconst K dX2_doIfCan_105 ?_
        exact z_zretd K T rfl dX2_doIfCan_106 (Or.inl rfl) (by unfold zdo; rw [if_neg (by omega), if_neg (by omega), if_pos (by omega), if_neg (by omega)]) (by unfold zdo; rw [if_neg (by omega), if_neg (by omega), if_pos (by omega), if_neg (by omega)])
      · refine z_iload K dX2_doIfCan_100 rfl ?_
        refine z_ifne (tgt := 107) K dX2_doIfCan_102 (by decide) (by omega) (fun h102 => ?_) (fun h102 => ?_)
        · refine z_aload_n K dX2_doIfCan_107 rfl ?_
          refine z_get (k := 20) (v := .ref (ad 25)) K dX2_doIfCan_108 fl_X2_37 rfl rfl rfl ?_
          refine z_iload K dX2_doIfCan_111 rfl ?_
          refine z_callVm K hl1 hg1 (kb := 25) (As := [.int (zi ((D % 10 : Nat) : Int))]) (rest := []) (ct_addGrain2 la g0 ad μ c a ((D % 10 : Nat) : Int) ⟨by omega, by omega⟩ hv21) (by decide) lk_X2_114 cd_X1_addGrain rfl rfl rfl rfl (Nat.le_of_ble_eq_true rfl) dX2_doIfCan_113 ?_
          refine z_iconst K dX2_doIfCan_116 ?_
          exact z_zretd K T rfl dX2_doIfCan_117 (Or.inr rfl) (by unfold zdo; rw [if_neg (by omega), if_neg (by omega), if_pos (by omega), if_pos ⟨by omega, by omega, by omega⟩]) (by unfold zdo; rw [if_neg (by omega), if_neg (by omega), if_pos (by omega), if_pos ⟨by omega, by omega, by omega⟩])
        · refine z_iconst K dX2_doIfCan_105 ?_
          exact z_zretd K T rfl dX2_doIfCan_106 (Or.inl rfl) (by unfold zdo; rw [if_neg (by omega), if_neg (by omega), if_pos (by omega), if_neg (by omega)]) (by unfold zdo; rw [if_neg (by omega), if_neg (by omega), if_pos (by omega), if_neg (by omega)])
  · refine z_tableIn (off := 91) (tgt := 118) K dX2_doIfCan_27 (by omega) (by omega) (by omega) (by rw [hsw]; rfl) (by decide) ?_
    refine z_iload_n K dX2_doIfCan_118 rfl ?_
    refine z_ifne (tgt := 136) K dX2_doIfCan_119 (by decide) (by omega) (fun h119 => ?_) (fun h119 => ?_)
    · refine z_iconst K dX2_doIfCan_136 ?_
      exact z_zretd K T rfl dX2_doIfCan_137 (Or.inl rfl) (by unfold zdo; rw [if_neg (by omega), if_neg (by omega), if_neg (by omega), if_pos (by omega), if_neg (by omega)]) (by unfold zdo; rw [if_neg (by omega), if_neg (by omega), if_neg (by omega), if_pos (by omega), if_neg (by omega)])
    · refine z_aload_n K dX2_doIfCan_122 rfl ?_
      refine z_iload_n K dX2_doIfCan_123 rfl ?_
      refine z_iload K dX2_doIfCan_124 rfl ?_
      have hrg := zcsI_rg nc c ((D / 100 % 10 : Nat) : Int) ((D % 10 : Nat) : Int)
      refine z_callVd K hl1 hg1 (kb := 20) (As := [.int (zi ((D / 100 % 10 : Nat) : Int)), .int (zi ((D % 10 : Nat) : Int))]) (rest := []) (ct_sendIfCan la g0 ad μ n nc hp c a hv ((D / 100 % 10 : Nat) : Int) ((D % 10 : Nat) : Int) ⟨by omega, by omega⟩ ⟨by omega, by omega⟩) (by decide) lk_X2_117 cd_X2_sendIfCan rfl rfl rfl rfl (Nat.le_of_ble_eq_true rfl) dX2_doIfCan_126 ?_
      show zV χ 5 ad zSH 0 0 129 [(0, .ref (ad 20)), (1, .int (zi ((D : Nat) : Int))), (2, .int (zi ((D / 100 % 10 : Nat) : Int))), (3, .int (zi ((D / 10 % 10 : Nat) : Int))), (4, .int (zi ((D % 10 : Nat) : Int)))] [.int (zi (zcsI nc c ((D / 100 % 10 : Nat) : Int) ((D % 10 : Nat) : Int)))] (zup (zup μ 26 (zsndC nc c ((D / 100 % 10 : Nat) : Int) ((D % 10 : Nat) : Int))) 27 a)
      refine z_ifeq (tgt := 136) K dX2_doIfCan_129 (by decide) (by omega) (fun h129 => ?_) (fun h129 => ?_)
      · refine z_iconst K dX2_doIfCan_136 ?_
        exact z_zretd K T rfl dX2_doIfCan_137 (Or.inl rfl) (by unfold zdo; rw [if_neg (by omega), if_neg (by omega), if_neg (by omega), if_pos (by omega), if_pos (by omega)]; dsimp only; omega) (by unfold zdo; rw [if_neg (by omega), if_neg (by omega), if_neg (by omega), if_pos (by omega), if_pos (by omega)])
      · refine z_iconst K dX2_doIfCan_132 ?_
        refine z_goto (tgt := 137) K dX2_doIfCan_133 (by decide) ?_
        exact z_zretd K T rfl dX2_doIfCan_137 (Or.inr rfl) (by unfold zdo; rw [if_neg (by omega), if_neg (by omega), if_neg (by omega), if_pos (by omega), if_pos (by omega)]; dsimp only; omega) (by unfold zdo; rw [if_neg (by omega), if_neg (by omega), if_neg (by omega), if_pos (by omega), if_pos (by omega)])
  · refine z_tableIn (off := 111) (tgt := 138) K dX2_doIfCan_27 (by omega) (by omega) (by omega) (by rw [hsw]; rfl) (by decide) ?_
    refine z_iload_n K dX2_doIfCan_138 rfl ?_
    refine z_ifne (tgt := 170) K dX2_doIfCan_139 (by decide) (by omega) (fun h139 => ?_) (fun h139 => ?_)
    · refine z_iconst K dX2_doIfCan_170 ?_
      exact z_zretd K T rfl dX2_doIfCan_171 (Or.inl rfl) (by unfold zdo; rw [if_neg (by omega), if_neg (by omega), if_neg (by omega), if_neg (by omega), if_pos (by omega)]; dsimp only; rw [if_neg (by omega)]) (by unfold zdo; rw [if_neg (by omega), if_neg (by omega), if_neg (by omega), if_neg (by omega), if_pos (by omega)])
    · refine z_aload_n K dX2_doIfCan_142 rfl ?_
      refine z_get (k := 20) (v := .ref (ad 10)) K dX2_doIfCan_143 fl_X2_24 rfl rfl rfl ?_
      refine z_iload_n K dX2_doIfCan_146 rfl ?_
      refine z_callVd K hl1 hg1 (kb := 10) (As := [.int (zi ((D / 100 % 10 : Nat) : Int))]) (rest := []) (ct_hasLetter la g0 ad (zup (zup μ 26 c) 27 a) n nc hp ((D / 100 % 10 : Nat) : Int) ⟨by omega, by omega⟩) (by decide) lk_X2_120 cd_X4_hasLetter rfl rfl rfl rfl (Nat.le_of_ble_eq_true rfl) dX2_doIfCan_147 ?_
      show zV χ 5 ad zSH 0 0 150 [(0, .ref (ad 20)), (1, .int (zi ((D : Nat) : Int))), (2, .int (zi ((D / 100 % 10 : Nat) : Int))), (3, .int (zi ((D / 10 % 10 : Nat) : Int))), (4, .int (zi ((D % 10 : Nat) : Int)))] [.int (zi (if 0 ≤ ((D / 100 % 10 : Nat) : Int) ∧ ((D / 100 % 10 : Nat) : Int) < (n : Int) then 1 else 0))] (zup (zup μ 26 c) 27 a)
      refine z_ifeq (tgt := 170) K dX2_doIfCan_150 (by decide) (by omega) (fun h150 => ?_) (fun h150 => ?_)
      · refine z_iconst K dX2_doIfCan_170 ?_
        exact z_zretd K T rfl dX2_doIfCan_171 (Or.inl rfl) (by unfold zdo; rw [if_neg (by omega), if_neg (by omega), if_neg (by omega), if_neg (by omega), if_pos (by omega)]; dsimp only; rw [if_neg (by omega)]) (by unfold zdo; rw [if_neg (by omega), if_neg (by omega), if_neg (by omega), if_neg (by omega), if_pos (by omega)])
      · refine z_aload_n K dX2_doIfCan_153 rfl ?_
        refine z_get (k := 20) (v := .ref (ad 25)) K dX2_doIfCan_154 fl_X2_37 rfl rfl rfl ?_
        refine z_iload_n K dX2_doIfCan_157 rfl ?_
        have hfl := hv.1.1 (D / 100 % 10) (by omega)
        refine z_callVd K hl1 hg1 (kb := 25) (As := [.int (zi ((D / 100 % 10 : Nat) : Int))]) (rest := []) (ct_fateOf_t la g0 ad (zup (zup μ 26 c) 27 a) n nc hp hv.1 (D / 100 % 10) (by omega)) (by decide) lk_X2_56 cd_X1_fateOf rfl rfl rfl rfl (Nat.le_of_ble_eq_true rfl) dX2_doIfCan_158 ?_
        show zV χ 5 ad zSH 0 0 161 [(0, .ref (ad 20)), (1, .int (zi ((D : Nat) : Int))), (2, .int (zi ((D / 100 % 10 : Nat) : Int))), (3, .int (zi ((D / 10 % 10 : Nat) : Int))), (4, .int (zi ((D % 10 : Nat) : Int)))] [.int (zi (c (12 + D / 100 % 10)))] (zup (zup μ 26 c) 27 a)
        refine z_iload K dX2_doIfCan_161 rfl ?_
        refine z_icmpne (tgt := 170) K dX2_doIfCan_163 (by decide) (by omega) (by omega) (fun h163 => ?_) (fun h163 => ?_)
        · refine z_iconst K dX2_doIfCan_170 ?_
          exact z_zretd K T rfl dX2_doIfCan_171 (Or.inl rfl) (by unfold zdo; rw [if_neg (by omega), if_neg (by omega), if_neg (by omega), if_neg (by omega), if_pos (by omega)]; dsimp only; rw [if_neg (by omega)]) (by unfold zdo; rw [if_neg (by omega), if_neg (by omega), if_neg (by omega), if_neg (by omega), if_pos (by omega)])
        · refine z_iconst K dX2_doIfCan_166 ?_
          refine z_goto (tgt := 171) K dX2_doIfCan_167 (by decide) ?_
          exact z_zretd K T rfl dX2_doIfCan_171 (Or.inr rfl) (by unfold zdo; rw [if_neg (by omega), if_neg (by omega), if_neg (by omega), if_neg (by omega), if_pos (by omega)]; dsimp only; rw [if_pos ⟨by omega, by omega, by omega⟩]) (by unfold zdo; rw [if_neg (by omega), if_neg (by omega), if_neg (by omega), if_neg (by omega), if_pos (by omega)])
  · refine z_tableOut (tgt := 172) K dX2_doIfCan_27 (by omega) hsw (by decide) ?_
    refine z_iconst K dX2_doIfCan_172 ?_
    exact z_zretd K T rfl dX2_doIfCan_173 (Or.inl rfl) (by unfold zdo; rw [if_neg (by omega), if_neg (by omega), if_neg (by omega), if_neg (by omega), if_neg (by omega)]) (by unfold zdo; rw [if_neg (by omega), if_neg (by omega), if_neg (by omega), if_neg (by omega), if_neg (by omega)])
def zSc3 (μ : zMem) (k : Nat) (X : Int) : Int → zMem → Prop := fun r ν => r = X ∧ ∃ f x y, ν = zup (zup (zup μ k f) 26 x) 27 y
theorem zfd_rg : ∀ (i : Nat) (s : (Nat → Int) × Nat) (j : Nat), (j < i ∨ (0 ≤ s.1 j ∧ s.1 j ≤ 9999)) → 0 ≤ (zfd i s).1 j ∧ (zfd i s).1 j ≤ 9999 := by
  intro i
  induction i with
  | zero => intro s j h; rcases h with h | h; exact absurd h (by omega); exact h
  | succ i ih =>
    intro s j h
    rw [zfd_s]
    apply ih
    by_cases e : j = i
    · subst e
      right
      show 0 ≤ zu1 s.1 j _ j ∧ zu1 s.1 j _ j ≤ 9999
      rw [zu1_eq]
      omega
    · rcases h with h | h
      · left; omega
      · right
        show 0 ≤ zu1 s.1 i _ j ∧ zu1 s.1 i _ j ≤ 9999
        rw [zu1_ne _ _ e]
        exact h
set_option maxHeartbeats 4000000 in
set_option maxRecDepth 100000 in
theorem ct_first (la : Launch) (g0 : zG) (ad : Nat → Nat) (μ : zMem) (n nc : Nat) (hp : zPlan μ n nc) (hv : zHV n nc (μ 18)) (x y : Nat → Int) (f : Nat → Int) (m R : Nat) (hm : 1 ≤ m ∧ m ≤ 4) (hR : R < 9223372036854775808) : zCon la g0 yX2_firstThatCanNotBe cX2_firstThatCanNotBe 8 (some .int) 5 ad zSH [.ref (ad 20), .int (zi ((m : Nat) : Int)), .long (zl ((R : Nat) : Int))] (zup (zup (zup μ 21 f) 26 x) 27 y) (zPi (zSc3 μ 21 (if (zfd m (f, R)).2 = 0 then zju n (μ 13) (μ 14) nc (μ 16) (zfd m (f, R)).1 m 0 (μ 18, zz0) else -2))) := by
  refine zCon_of (by decide +kernel) (Nat.le_of_ble_eq_true rfl) ?_
  intro χ K T hl1 hg1
  have K : zOk χ cX2_firstThatCanNotBe RX2 8 5 (some .int) := K
  obtain ⟨hn, hn6, hnc, hnc3, hpl, hpk⟩ := id hp
  show zV χ 8 ad zSH 0 0 0 [(0, .ref (ad 20)), (1, .int (zi ((m : Nat) : Int))), (2, .long (zl ((R : Nat) : Int)))] [] (zup (zup (zup μ 21 f) 26 x) 27 y)
  refine z_iload_n K dX2_firstThatCanNotBe_0 rfl ?_
  refine z_iconst K dX2_firstThatCanNotBe_1 ?_
  refine z_min K dX2_firstThatCanNotBe_2 lk_X2_101 (by decide) (by omega) ⟨by decide, by decide⟩ (Nat.le_of_ble_eq_true rfl) ?_
  rw [show (min ((m : Nat) : Int) (4 : Int)) = ((m : Nat) : Int) from (by omega)]
  refine z_istore (lv' := [(0, .ref (ad 20)), (1, .int (zi ((m : Nat) : Int))), (2, .long (zl ((R : Nat) : Int))), (4, .int (zi ((m : Nat) : Int)))]) K dX2_firstThatCanNotBe_5 (by decide) rfl ?_
  refine z_lload_n K dX2_firstThatCanNotBe_7 rfl ?_
  refine z_lstore (lv' := [(0, .ref (ad 20)), (1, .int (zi ((m : Nat) : Int))), (2, .long (zl ((R : Nat) : Int))), (4, .int (zi ((m : Nat) : Int))), (5, .long (zl ((R : Nat) : Int)))]) K dX2_firstThatCanNotBe_8 (by decide) rfl ?_
  refine z_iload K dX2_firstThatCanNotBe_10 rfl ?_
  refine z_iconst K dX2_firstThatCanNotBe_12 ?_
  refine z_isub K dX2_firstThatCanNotBe_13 ?_
  refine z_istore (lv' := [(0, .ref (ad 20)), (1, .int (zi ((m : Nat) : Int))), (2, .long (zl ((R : Nat) : Int))), (4, .int (zi ((m : Nat) : Int))), (5, .long (zl ((R : Nat) : Int))), (7, .int (zi (((m : Nat) : Int) - (1 : Int))))]) K dX2_firstThatCanNotBe_14 (by decide) rfl ?_
  have L16 : ∀ j, ∀ (h : Nat → Int) (r : Nat), j ≤ m → zfd j (h, r) = zfd m (f, R) → r < 9223372036854775808 → zV χ 8 ad zSH 0 0 16 [(0, .ref (ad 20)), (1, .int (zi ((m : Nat) : Int))), (2, .long (zl ((R : Nat) : Int))), (4, .int (zi ((m : Nat) : Int))), (5, .long (zl ((r : Nat) : Int))), (7, .int (zi (((j : Nat) : Int) + (-1 : Int))))] [] (zup (zup (zup μ 21 h) 26 x) 27 y) := by
    refine zdown ?_
    intro j ih h r hj hF hr
    refine z_iload K dX2_firstThatCanNotBe_16 rfl ?_
    refine z_iflt (tgt := 49) K dX2_firstThatCanNotBe_18 (by decide) (by omega) (fun h18 => ?_) (fun h18 => ?_)
    · have hj0 : j = 0 := by omega
      subst hj0
      have hF : (h, r) = zfd m (f, R) := hF
      refine z_lload K dX2_firstThatCanNotBe_49 rfl ?_
      refine z_lconst (z := 0) K dX2_firstThatCanNotBe_51 rfl ?_
      refine z_lcmp K dX2_firstThatCanNotBe_52 (by omega) (by omega) ?_
      refine z_ifeq (tgt := 59) K dX2_firstThatCanNotBe_53 (by decide) (zc_rg _ _) (fun h53 => ?_) (fun h53 => ?_)
      · have hr0 : r = 0 := by unfold zc at h53; omega
        have hrg := zfd_rg m (f, R)
        rw [← hF] at hrg
        refine z_aload_n K dX2_firstThatCanNotBe_59 rfl ?_
        refine z_get (k := 20) (v := .ref (ad 25)) K dX2_firstThatCanNotBe_60 fl_X2_37 rfl rfl rfl ?_
        refine z_aload_n K dX2_firstThatCanNotBe_63 rfl ?_
        refine z_get (k := 20) (v := .ref (ad 17)) K dX2_firstThatCanNotBe_64 fl_X2_28 rfl rfl rfl ?_
        refine z_callVm K hl1 hg1 (kb := 25) (As := [.ref (ad 17)]) (rest := []) (ct_beLike2 la g0 ad (zup μ 21 h) x y) (by decide) lk_X2_40 cd_X1_beLike rfl rfl rfl rfl (Nat.le_of_ble_eq_true rfl) dX2_firstThatCanNotBe_67 ?_
        refine z_iconst K dX2_firstThatCanNotBe_70 ?_
        refine z_istore (lv' := [(0, .ref (ad 20)), (1, .int (zi ((m : Nat) : Int))), (2, .long (zl ((R : Nat) : Int))), (4, .int (zi ((m : Nat) : Int))), (5, .long (zl ((r : Nat) : Int))), (7, .int (zi (0 : Int)))]) K dX2_firstThatCanNotBe_71 (by decide) rfl ?_
        have L73 : ∀ i, i ≤ m → ∀ (d b : Nat → Int), zHV n nc d → zju n (μ 13) (μ 14) nc (μ 16) h (m - i) i (d, b) = zju n (μ 13) (μ 14) nc (μ 16) h m 0 (μ 18, zz0) → zV χ 8 ad zSH 0 0 73 [(0, .ref (ad 20)), (1, .int (zi ((m : Nat) : Int))), (2, .long (zl ((R : Nat) : Int))), (4, .int (zi ((m : Nat) : Int))), (5, .long (zl ((r : Nat) : Int))), (7, .int (zi ((i : Nat) : Int)))] [] (zup (zup (zup μ 21 h) 26 d) 27 b) := by
          refine zfor ?_
          intro i hi ih2 d b hdv hG
          refine z_iload K dX2_firstThatCanNotBe_73 rfl ?_
          refine z_iload K dX2_firstThatCanNotBe_75 rfl ?_
          refine z_icmpge (tgt := 103) K dX2_firstThatCanNotBe_77 (by decide) (by omega) (by omega) (fun h77 => ?_) (fun h77 => ?_)
          · refine z_bipush K dX2_firstThatCanNotBe_103 (by decide +kernel) ?_
            exact z_ireti K T rfl dX2_firstThatCanNotBe_105 ⟨(by rw [← hF, if_pos hr0, ← hG, show m - i = 0 by omega]; rfl), _, _, _, rfl⟩
          · have hhi := hrg i (Or.inl (by omega))
            dsimp only at hhi
            have hdo := (zdo_ok hp.pk (h i).toNat (s := (d, b)) hdv).2
            refine z_aload_n K dX2_firstThatCanNotBe_80 rfl ?_
            refine z_aload_n K dX2_firstThatCanNotBe_81 rfl ?_
            refine z_get (k := 20) (v := .ref (ad 21)) K dX2_firstThatCanNotBe_82 fl_X2_9 rfl rfl rfl ?_
            refine z_iload K dX2_firstThatCanNotBe_85 rfl ?_
            refine z_iald (k := 21) (v := h i) K dX2_firstThatCanNotBe_87 i rfl (by decide) (by omega) (by omega) rfl ?_
            rw [show h i = (((h i).toNat : Nat) : Int) by omega]
            refine z_callVd K hl1 hg1 (kb := 20) (As := [.int (zi (((h i).toNat : Nat) : Int))]) (rest := []) (ct_doIfCan la g0 ad (zup μ 21 h) n nc hp d b hdv (h i).toNat (by omega)) (by decide) lk_X2_108 cd_X2_doIfCan rfl rfl rfl rfl (Nat.le_of_ble_eq_true rfl) dX2_firstThatCanNotBe_88 ?_
            show zV χ 8 ad zSH 0 0 91 [(0, .ref (ad 20)), (1, .int (zi ((m : Nat) : Int))), (2, .long (zl ((R : Nat) : Int))), (4, .int (zi ((m : Nat) : Int))), (5, .long (zl ((r : Nat) : Int))), (7, .int (zi ((i : Nat) : Int)))] [.int (zi ((zdo n (μ 13) (μ 14) nc (μ 16) (h i).toNat (d, b)).2))] (zup (zup (zup μ 21 h) 26 ((zdo n (μ 13) (μ 14) nc (μ 16) (h i).toNat (d, b)).1.1)) 27 ((zdo n (μ 13) (μ 14) nc (μ 16) (h i).toNat (d, b)).1.2))
            refine z_ifne (tgt := 97) K dX2_firstThatCanNotBe_91 (by decide) (by omega) (fun h91 => ?_) (fun h91 => ?_)
            · refine z_iincN (lv' := [(0, .ref (ad 20)), (1, .int (zi ((m : Nat) : Int))), (2, .long (zl ((R : Nat) : Int))), (4, .int (zi ((m : Nat) : Int))), (5, .long (zl ((r : Nat) : Int))), (7, .int (zi ((i + 1 : Nat) : Int)))]) K dX2_firstThatCanNotBe_97 rfl (by decide) rfl ?_
              refine z_goto (tgt := 73) K dX2_firstThatCanNotBe_100 (by decide) ?_
              exact ih2 (i + 1) (by omega) (by omega) _ _ (zdo_ok hp.pk _ hdv).1 (by rw [show m - i = (m - (i + 1)) + 1 by omega, zju_s, if_neg h91] at hG; exact hG)
            · refine z_iload K dX2_firstThatCanNotBe_94 rfl ?_
              exact z_ireti K T rfl dX2_firstThatCanNotBe_96 ⟨(by rw [← hF, if_pos hr0, ← hG, show m - i = (m - (i + 1)) + 1 by omega, zju_s, if_pos h91]), _, _, _, rfl⟩
        exact L73 0 (by omega) _ _ hv rfl
      · refine z_bipush K dX2_firstThatCanNotBe_56 (by decide +kernel) ?_
        exact z_ireti K T rfl dX2_firstThatCanNotBe_58 ⟨(by rw [← hF, if_neg (by show ¬ r = 0; unfold zc at h53; omega)]), _, _, _, rfl⟩
    · obtain ⟨k, rfl⟩ : ∃ k, j = k + 1 := ⟨j - 1, by omega⟩
      rw [show ((k + 1 : Nat) : Int) + (-1 : Int) = ((k : Nat) : Int) by omega]
      refine z_aload_n K dX2_firstThatCanNotBe_21 rfl ?_
      refine z_get (k := 20) (v := .ref (ad 21)) K dX2_firstThatCanNotBe_22 fl_X2_9 rfl rfl rfl ?_
      refine z_iload K dX2_firstThatCanNotBe_25 rfl ?_
      refine z_lload K dX2_firstThatCanNotBe_27 rfl ?_
      refine z_ldc2 (z := 10000) K dX2_firstThatCanNotBe_29 kc_X2_106 rfl ?_
      refine z_lrem K dX2_firstThatCanNotBe_32 (by omega) (by omega) ?_
      refine z_l2i K dX2_firstThatCanNotBe_33 ?_
      rw [show (((r : Nat) : Int) % (10000 : Int)) = ((r % 10000 : Nat) : Int) from (by omega)]
      refine z_iast (k := 21) K dX2_firstThatCanNotBe_34 k rfl (by decide) (by omega) (by omega) (z_mem (ν := zup (zup (zup μ 21 (zu1 h k ((r % 10000 : Nat) : Int))) 26 x) 27 y) (zup_sw3 _ (by decide) (by decide) _ _ _ _) ?_)
      refine z_lload K dX2_firstThatCanNotBe_35 rfl ?_
      refine z_ldc2 (z := 10000) K dX2_firstThatCanNotBe_37 kc_X2_106 rfl ?_
      refine z_ldiv K dX2_firstThatCanNotBe_40 (by omega) (by omega) ?_
      refine z_lstore (lv' := [(0, .ref (ad 20)), (1, .int (zi ((m : Nat) : Int))), (2, .long (zl ((R : Nat) : Int))), (4, .int (zi ((m : Nat) : Int))), (5, .long (zl ((r / 10000 : Nat) : Int))), (7, .int (zi ((k : Nat) : Int)))]) K dX2_firstThatCanNotBe_41 (by decide) rfl ?_
      refine z_iinc (lv' := [(0, .ref (ad 20)), (1, .int (zi ((m : Nat) : Int))), (2, .long (zl ((R : Nat) : Int))), (4, .int (zi ((m : Nat) : Int))), (5, .long (zl ((r / 10000 : Nat) : Int))), (7, .int (zi (((k : Nat) : Int) + (-1 : Int))))]) K dX2_firstThatCanNotBe_43 rfl (by decide) rfl ?_
      refine z_goto (tgt := 16) K dX2_firstThatCanNotBe_46 (by decide) ?_
      exact ih k (by omega) (zu1 h k ((r % 10000 : Nat) : Int)) (r / 10000) (by omega) (by rw [← hF, zfd_s]) (by omega)
  rw [show ((m : Nat) : Int) - (1 : Int) = ((m : Nat) : Int) + (-1 : Int) from rfl]
  exact L16 m f R (Nat.le_refl _) rfl hR
set_option maxHeartbeats 4000000 in
set_option maxRecDepth 100000 in
theorem ct_happen (la : Launch) (g0 : zG) (ad : Nat → Nat) (μ : zMem) (n nc : Nat) (hp : zPlan μ n nc) (c a : Nat → Int) (hv : zHV n nc c) (w : Nat) (hw : w < 24) : zCon la g0 yX2_happen cX2_happen 2 none 4 ad zSH [.ref (ad 20), .int (zi ((w : Nat) : Int))] (zup (zup μ 26 c) 27 a) (zPm (zup (zup μ 26 ((zhap n (μ 13) (μ 14) nc (μ 16) w (c, a)).1)) 27 ((zhap n (μ 13) (μ 14) nc (μ 16) w (c, a)).2))) := by
  refine zCon_of (by decide +kernel) (Nat.le_of_ble_eq_true rfl) ?_
  intro χ K T hl1 hg1
  have K : zOk χ cX2_happen RX2 2 4 none := K
  obtain ⟨hn, hn6, hnc, hnc3, hpl, hpk⟩ := id hp
  have hv21 := hv.1.2.2
  show zV χ 2 ad zSH 0 0 0 [(0, .ref (ad 20)), (1, .int (zi ((w : Nat) : Int)))] [] (zup (zup μ 26 c) 27 a)
  refine z_iload_n K dX2_happen_0 rfl ?_
  refine z_bipush K dX2_happen_1 (by decide +kernel) ?_
  refine z_icmpge (tgt := 16) K dX2_happen_3 (by decide) (by omega) ⟨by decide, by decide⟩ (fun h3 => ?_) (fun h3 => ?_)
  · refine z_iload_n K dX2_happen_16 rfl ?_
    refine z_bipush K dX2_happen_17 (by decide +kernel) ?_
    refine z_icmpge (tgt := 35) K dX2_happen_19 (by decide) (by omega) ⟨by decide, by decide⟩ (fun h19 => ?_) (fun h19 => ?_)
    · refine z_iload_n K dX2_happen_35 rfl ?_
      refine z_bipush K dX2_happen_36 (by decide +kernel) ?_
      refine z_icmpne (tgt := 52) K dX2_happen_38 (by decide) (by omega) ⟨by decide, by decide⟩ (fun h38 => ?_) (fun h38 => ?_)
      · refine z_aload_n K dX2_happen_52 rfl ?_
        refine z_get (k := 20) (v := .ref (ad 25)) K dX2_happen_53 fl_X2_37 rfl rfl rfl ?_
        refine z_callVd K hl1 hg1 (kb := 25) (As := []) (rest := []) (ct_passDay_t la g0 ad μ n nc hp c a hv) (by decide) lk_X2_44 cd_X1_passDay rfl rfl rfl rfl (Nat.le_of_ble_eq_true rfl) dX2_happen_56 ?_
        show zV χ 2 ad zSH 0 0 59 [(0, .ref (ad 20)), (1, .int (zi ((w : Nat) : Int)))] [.int (zi ((zdayM n (μ 13) (μ 14) nc (μ 16) (c, a) : Nat) : Int))] (zup (zup μ 26 ((zday n (μ 13) (μ 14) nc (μ 16) (c, a)).1)) 27 ((zday n (μ 13) (μ 14) nc (μ 16) (c, a)).2))
        refine z_pop K dX2_happen_59 rfl ?_
        exact z_vretd K T rfl dX2_happen_60 (by unfold zhap; rw [if_neg (by omega), if_neg (by omega), if_neg (by omega)])
      · refine z_aload_n K dX2_happen_41 rfl ?_
        refine z_get (k := 20) (v := .ref (ad 25)) K dX2_happen_42 fl_X2_37 rfl rfl rfl ?_
        refine z_iconst K dX2_happen_45 ?_
        refine z_callVm K hl1 hg1 (kb := 25) (As := [.int (zi (1 : Int))]) (rest := []) (ct_addGrain2 la g0 ad μ c a 1 ⟨by decide, by decide⟩ hv21) (by decide) lk_X2_114 cd_X1_addGrain rfl rfl rfl rfl (Nat.le_of_ble_eq_true rfl) dX2_happen_46 ?_
        refine z_goto (tgt := 60) K dX2_happen_49 (by decide) ?_
        exact z_vretd K T rfl dX2_happen_60 (by unfold zhap; rw [if_neg (by omega), if_neg (by omega), if_pos (by omega)])
    · refine z_aload_n K dX2_happen_22 rfl ?_
      refine z_iconst K dX2_happen_23 ?_
      refine z_iload_n K dX2_happen_24 rfl ?_
      refine z_bipush K dX2_happen_25 (by decide +kernel) ?_
      refine z_isub K dX2_happen_27 ?_
      refine z_callVd K hl1 hg1 (kb := 20) (As := [.int (zi (0 : Int)), .int (zi (((w : Nat) : Int) - (12 : Int)))]) (rest := []) (ct_sendIfCan la g0 ad μ n nc hp c a hv 0 (((w : Nat) : Int) - 12) ⟨by decide, by decide⟩ ⟨by omega, by omega⟩) (by decide) lk_X2_117 cd_X2_sendIfCan rfl rfl rfl rfl (Nat.le_of_ble_eq_true rfl) dX2_happen_28 ?_
      show zV χ 2 ad zSH 0 0 31 [(0, .ref (ad 20)), (1, .int (zi ((w : Nat) : Int)))] [.int (zi (zcsI nc c 0 (((w : Nat) : Int) - 12)))] (zup (zup μ 26 (zsndC nc c 0 (((w : Nat) : Int) - 12))) 27 a)
      refine z_pop K dX2_happen_31 rfl ?_
      refine z_goto (tgt := 60) K dX2_happen_32 (by decide) ?_
      exact z_vretd K T rfl dX2_happen_60 (by unfold zhap; rw [if_neg (by omega), if_pos (by omega)])
  · refine z_aload_n K dX2_happen_6 rfl ?_
    refine z_iconst K dX2_happen_7 ?_
    refine z_iload_n K dX2_happen_8 rfl ?_
    refine z_callVd K hl1 hg1 (kb := 20) (As := [.int (zi (0 : Int)), .int (zi ((w : Nat) : Int))]) (rest := []) (ct_putIfCan la g0 ad μ n nc hp c a hv 0 ((w : Nat) : Int) ⟨by decide, by decide⟩ ⟨by omega, by omega⟩) (by decide) lk_X2_111 cd_X2_putIfCan rfl rfl rfl rfl (Nat.le_of_ble_eq_true rfl) dX2_happen_9 ?_
    show zV χ 2 ad zSH 0 0 12 [(0, .ref (ad 20)), (1, .int (zi ((w : Nat) : Int)))] [.int (zi (zcpI n c 0 ((w : Nat) : Int)))] (zup (zup μ 26 (zputC n c 0 ((w : Nat) : Int))) 27 a)
    refine z_pop K dX2_happen_12 rfl ?_
    refine z_goto (tgt := 60) K dX2_happen_13 (by decide) ?_
    exact z_vretd K T rfl dX2_happen_60 (by unfold zhap; rw [if_pos (by omega)])
def zScY (μ : zMem) (X z : Int) : Int → zMem → Prop := fun r ν => r = X ∧ ∃ x y, ν = zup (zup (zup μ 20 (zu1 (μ 20) 7 z)) 26 x) 27 y
theorem zup_20 (μ : zMem) (x y g : Nat → Int) : zup (zup (zup μ 26 x) 27 y) 20 g = zup (zup (zup μ 20 g) 26 x) 27 y := by
  funext q
  unfold zup
  by_cases h : q = 20
  · subst h; rfl
  · simp [h]
theorem zpick_lt (x : Int) : zpick x < 24 := by unfold zpick; omega
set_option maxHeartbeats 4000000 in
set_option maxRecDepth 100000 in
theorem ct_birdsOfYears (la : Launch) (g0 : zG) (ad : Nat → Nat) (μ : zMem) (n nc : Nat) (hp : zPlan μ n nc) (hv : zHV n nc (μ 18)) (x y : Nat → Int) (m : Nat) (hm : m ≤ 30) (u : Int) : zCon la g0 yX2_birdsOfYears cX2_birdsOfYears 8 (some .int) 5 ad zSH [.ref (ad 20), .int (zi ((m : Nat) : Int)), .long (zl u)] (zup (zup μ 26 x) 27 y) (zPi (zScY μ (((zyr n (μ 13) (μ 14) nc (μ 16) (μ 18, zz0) u m).2.2 : Nat) : Int) (zyr n (μ 13) (μ 14) nc (μ 16) (μ 18, zz0) u m).2.1)) := by
  refine zCon_of (by decide +kernel) (Nat.le_of_ble_eq_true rfl) ?_
  intro χ K T hl1 hg1
  have K : zOk χ cX2_birdsOfYears RX2 8 5 (some .int) := K
  obtain ⟨hn, hn6, hnc, hnc3, hpl, hpk⟩ := id hp
  show zV χ 8 ad zSH 0 0 0 [(0, .ref (ad 20)), (1, .int (zi ((m : Nat) : Int))), (2, .long (zl u))] [] (zup (zup μ 26 x) 27 y)
  refine z_aload_n K dX2_birdsOfYears_0 rfl ?_
  refine z_get (k := 20) (v := .ref (ad 25)) K dX2_birdsOfYears_1 fl_X2_37 rfl rfl rfl ?_
  refine z_aload_n K dX2_birdsOfYears_4 rfl ?_
  refine z_get (k := 20) (v := .ref (ad 17)) K dX2_birdsOfYears_5 fl_X2_28 rfl rfl rfl ?_
  refine z_callVm K hl1 hg1 (kb := 25) (As := [.ref (ad 17)]) (rest := []) (ct_beLike2 la g0 ad μ x y) (by decide) lk_X2_40 cd_X1_beLike rfl rfl rfl rfl (Nat.le_of_ble_eq_true rfl) dX2_birdsOfYears_8 ?_
  refine z_iconst K dX2_birdsOfYears_11 ?_
  refine z_istore (lv' := [(0, .ref (ad 20)), (1, .int (zi ((m : Nat) : Int))), (2, .long (zl u)), (4, .int (zi (0 : Int)))]) K dX2_birdsOfYears_12 (by decide) rfl ?_
  refine z_lload_n K dX2_birdsOfYears_14 rfl ?_
  refine z_lstore (lv' := [(0, .ref (ad 20)), (1, .int (zi ((m : Nat) : Int))), (2, .long (zl u)), (4, .int (zi (0 : Int))), (5, .long (zl u))]) K dX2_birdsOfYears_15 (by decide) rfl ?_
  refine z_iconst K dX2_birdsOfYears_17 ?_
  refine z_istore (lv' := [(0, .ref (ad 20)), (1, .int (zi ((m : Nat) : Int))), (2, .long (zl u)), (4, .int (zi (0 : Int))), (5, .long (zl u)), (7, .int (zi (0 : Int)))]) K dX2_birdsOfYears_18 (by decide) rfl ?_
  have L20 : ∀ i, i ≤ m → ∀ (d b : Nat → Int) (z : Int) (t : Nat), zyr n (μ 13) (μ 14) nc (μ 16) (μ 18, zz0) u i = ((d, b), z, t) → t ≤ 6 * i → zV χ 8 ad zSH 0 0 20 [(0, .ref (ad 20)), (1, .int (zi ((m : Nat) : Int))), (2, .long (zl u)), (4, .int (zi ((t : Nat) : Int))), (5, .long (zl z)), (7, .int (zi ((i : Nat) : Int)))] [] (zup (zup μ 26 d) 27 b) := by
    refine zfor ?_
    intro i hi ih d b z t hF ht
    have hdv := zyr_ok hp.pk (s := (μ 18, zz0)) hv u i
    rw [hF] at hdv
    dsimp only at hdv
    refine z_iload K dX2_birdsOfYears_20 rfl ?_
    refine z_iload_n K dX2_birdsOfYears_22 rfl ?_
    refine z_icmpge (tgt := 74) K dX2_birdsOfYears_23 (by decide) (by omega) (by omega) (fun h23 => ?_) (fun h23 => ?_)
    · refine z_aload_n K dX2_birdsOfYears_74 rfl ?_
      refine z_lload K dX2_birdsOfYears_75 rfl ?_
      refine z_putl (k := 20) K dX2_birdsOfYears_77 fp_X2_160 rfl rfl ?_
      refine z_iload K dX2_birdsOfYears_80 rfl ?_
      exact z_ireti K T rfl dX2_birdsOfYears_82 ⟨(by rw [show m = i by omega, hF]), _, _, (by rw [show m = i by omega, hF]; exact zup_20 _ _ _ _)⟩
    · refine z_lload K dX2_birdsOfYears_26 rfl ?_
      refine z_ldc2 (z := 6364136223846793005) K dX2_birdsOfYears_28 kc_X2_151 rfl ?_
      refine z_lmul K dX2_birdsOfYears_31 ?_
      refine z_ldc2 (z := 1442695040888963407) K dX2_birdsOfYears_32 kc_X2_153 rfl ?_
      refine z_ladd K dX2_birdsOfYears_35 ?_
      show zV χ 8 ad zSH 0 0 36 [(0, .ref (ad 20)), (1, .int (zi ((m : Nat) : Int))), (2, .long (zl u)), (4, .int (zi ((t : Nat) : Int))), (5, .long (zl z)), (7, .int (zi ((i : Nat) : Int)))] [.long (zl (zrnd z))] (zup (zup μ 26 d) 27 b)
      refine z_lstore (lv' := [(0, .ref (ad 20)), (1, .int (zi ((m : Nat) : Int))), (2, .long (zl u)), (4, .int (zi ((t : Nat) : Int))), (5, .long (zl (zrnd z))), (7, .int (zi ((i : Nat) : Int)))]) K dX2_birdsOfYears_36 (by decide) rfl ?_
      refine z_aload_n K dX2_birdsOfYears_38 rfl ?_
      refine z_lload K dX2_birdsOfYears_39 rfl ?_
      refine z_bipush K dX2_birdsOfYears_41 (by decide +kernel) ?_
      refine z_lushrR (z := zl (zrnd z % 18446744073709551616 / 8589934592)) K dX2_birdsOfYears_43 (zl_ushr _) ?_
      refine z_ldc2 (z := 24) K dX2_birdsOfYears_44 kc_X2_155 rfl ?_
      refine z_lrem K dX2_birdsOfYears_47 (by omega) (by omega) ?_
      refine z_l2i K dX2_birdsOfYears_48 ?_
      rw [show zrnd z % 18446744073709551616 / 8589934592 % (24 : Int) = ((zpick (zrnd z) : Nat) : Int) by unfold zpick; omega]
      refine z_callVm K hl1 hg1 (kb := 20) (As := [.int (zi ((zpick (zrnd z) : Nat) : Int))]) (rest := []) (ct_happen la g0 ad μ n nc hp d b hdv (zpick (zrnd z)) (zpick_lt _)) (by decide) lk_X2_157 cd_X2_happen rfl rfl rfl rfl (Nat.le_of_ble_eq_true rfl) dX2_birdsOfYears_49 ?_
      refine z_iload K dX2_birdsOfYears_52 rfl ?_
      refine z_aload_n K dX2_birdsOfYears_54 rfl ?_
      refine z_get (k := 20) (v := .ref (ad 25)) K dX2_birdsOfYears_55 fl_X2_37 rfl rfl rfl ?_
      refine z_iconst K dX2_birdsOfYears_58 ?_
      refine z_callVd K hl1 hg1 (kb := 25) (As := [.int (zi (2 : Int))]) (rest := [.int (zi ((t : Nat) : Int))]) (ct_who_t la g0 ad (zup (zup μ 26 ((zhap n (μ 13) (μ 14) nc (μ 16) (zpick (zrnd z)) (d, b)).1)) 27 ((zhap n (μ 13) (μ 14) nc (μ 16) (zpick (zrnd z)) (d, b)).2)) n nc hp (zhap_ok hp.pk _ (s := (d, b)) hdv).1 2 ⟨by decide, by decide⟩) (by decide) lk_X2_48 cd_X1_who rfl rfl rfl rfl (Nat.le_of_ble_eq_true rfl) dX2_birdsOfYears_59 ?_
      show zV χ 8 ad zSH 0 0 62 [(0, .ref (ad 20)), (1, .int (zi ((m : Nat) : Int))), (2, .long (zl u)), (4, .int (zi ((t : Nat) : Int))), (5, .long (zl (zrnd z))), (7, .int (zi ((i : Nat) : Int)))] [.int (zi ((zwho (zhap n (μ 13) (μ 14) nc (μ 16) (zpick (zrnd z)) (d, b)).1 2 n : Nat) : Int)), .int (zi ((t : Nat) : Int))] (zup (zup μ 26 ((zhap n (μ 13) (μ 14) nc (μ 16) (zpick (zrnd z)) (d, b)).1)) 27 ((zhap n (μ 13) (μ 14) nc (μ 16) (zpick (zrnd z)) (d, b)).2))
      have hz6 := hn6
      refine z_callSd K hl1 hg1 (As := [.int (zi ((zwho (zhap n (μ 13) (μ 14) nc (μ 16) (zpick (zrnd z)) (d, b)).1 2 n : Nat) : Int))]) (rest := [.int (zi ((t : Nat) : Int))]) (ct_bitCount la g0 ad (zup (zup μ 26 ((zhap n (μ 13) (μ 14) nc (μ 16) (zpick (zrnd z)) (d, b)).1)) 27 ((zhap n (μ 13) (μ 14) nc (μ 16) (zpick (zrnd z)) (d, b)).2)) (zwho (zhap n (μ 13) (μ 14) nc (μ 16) (zpick (zrnd z)) (d, b)).1 2 n) (z64 (zwho_lt _ _ _) hn6)) (by decide) lk_X2_85 cd_J6_bitCount_0f7a4 rfl rfl (Nat.le_of_ble_eq_true rfl) dX2_birdsOfYears_62 ?_
      show zV χ 8 ad zSH 0 0 65 [(0, .ref (ad 20)), (1, .int (zi ((m : Nat) : Int))), (2, .long (zl u)), (4, .int (zi ((t : Nat) : Int))), (5, .long (zl (zrnd z))), (7, .int (zi ((i : Nat) : Int)))] [.int (zi ((zpop (zwho (zhap n (μ 13) (μ 14) nc (μ 16) (zpick (zrnd z)) (d, b)).1 2 n) : Nat) : Int)), .int (zi ((t : Nat) : Int))] (zup (zup μ 26 ((zhap n (μ 13) (μ 14) nc (μ 16) (zpick (zrnd z)) (d, b)).1)) 27 ((zhap n (μ 13) (μ 14) nc (μ 16) (zpick (zrnd z)) (d, b)).2))
      refine z_iadd K dX2_birdsOfYears_65 ?_
      rw [show (((t : Nat) : Int) + ((zpop (zwho (zhap n (μ 13) (μ 14) nc (μ 16) (zpick (zrnd z)) (d, b)).1 2 n) : Nat) : Int)) = ((t + zpop (zwho (zhap n (μ 13) (μ 14) nc (μ 16) (zpick (zrnd z)) (d, b)).1 2 n) : Nat) : Int) from (by omega)]
      refine z_istore (lv' := [(0, .ref (ad 20)), (1, .int (zi ((m : Nat) : Int))), (2, .long (zl u)), (4, .int (zi ((t + zpop (zwho (zhap n (μ 13) (μ 14) nc (μ 16) (zpick (zrnd z)) (d, b)).1 2 n) : Nat) : Int))), (5, .long (zl (zrnd z))), (7, .int (zi ((i : Nat) : Int)))]) K dX2_birdsOfYears_66 (by decide) rfl ?_
      refine z_iincN (lv' := [(0, .ref (ad 20)), (1, .int (zi ((m : Nat) : Int))), (2, .long (zl u)), (4, .int (zi ((t + zpop (zwho (zhap n (μ 13) (μ 14) nc (μ 16) (zpick (zrnd z)) (d, b)).1 2 n) : Nat) : Int))), (5, .long (zl (zrnd z))), (7, .int (zi ((i + 1 : Nat) : Int)))]) K dX2_birdsOfYears_68 rfl (by decide) rfl ?_
      refine z_goto (tgt := 20) K dX2_birdsOfYears_71 (by decide) ?_
      exact ih (i + 1) (by omega) (by omega) _ _ _ _ (by rw [zyr_s, hF]) (by have := zpop_le (zwho (zhap n (μ 13) (μ 14) nc (μ 16) (zpick (zrnd z)) (d, b)).1 2 n); omega)
  exact L20 0 (by omega) _ _ u 0 rfl (by omega)
set_option maxHeartbeats 4000000 in
set_option maxRecDepth 100000 in
theorem ct_part (la : Launch) (g0 : zG) (ad : Nat → Nat) (μ : zMem) (U : Int) (W : Nat) (q : Int) (hU : zR U ∧ -2147483648 < U) (hW : 1 ≤ W ∧ W < 2147483648) (hq : q = 0 ∨ q = 1) : zCon la g0 yX8_part cX8_part 7 (some .int) 1 ad zSH [.int (zi U), .int (zi ((W : Nat) : Int)), .int (zi q)] μ (zPd μ (zpart U W q)) := by
  refine zCon_of (by decide +kernel) (Nat.le_of_ble_eq_true rfl) ?_
  intro χ K T hl1 hg1
  have K : zOk χ cX8_part RX8 7 1 (some .int) := K
  have hg0 : 0 < Nat.gcd U.natAbs W := Nat.gcd_pos_of_pos_right _ (by omega)
  have hgW : Nat.gcd U.natAbs W ≤ W := Nat.gcd_le_right _ (by omega)
  show zV χ 7 ad zSH 0 0 0 [(0, .int (zi U)), (1, .int (zi ((W : Nat) : Int))), (2, .int (zi q))] [] μ
  refine z_iload_n K dX8_part_0 rfl ?_
  refine z_abs K dX8_part_1 lk_X8_258 (by decide) (by omega) (Nat.le_of_ble_eq_true rfl) ?_
  refine z_istore_n (lv' := [(0, .int (zi U)), (1, .int (zi ((W : Nat) : Int))), (2, .int (zi q)), (3, .int (zi ((U.natAbs : Nat) : Int)))]) K dX8_part_4 (by decide) rfl ?_
  refine z_iload_n K dX8_part_5 rfl ?_
  refine z_istore (lv' := [(0, .int (zi U)), (1, .int (zi ((W : Nat) : Int))), (2, .int (zi q)), (3, .int (zi ((U.natAbs : Nat) : Int))), (4, .int (zi ((W : Nat) : Int)))]) K dX8_part_6 (by decide) rfl ?_
  refine z_iconst K dX8_part_8 ?_
  refine z_istore (lv' := [(0, .int (zi U)), (1, .int (zi ((W : Nat) : Int))), (2, .int (zi q)), (3, .int (zi ((U.natAbs : Nat) : Int))), (4, .int (zi ((W : Nat) : Int))), (5, .int (zi (0 : Int)))]) K dX8_part_9 (by decide) rfl ?_
  have L11 : ∀ i, i ≤ 64 → ∀ (s t : Nat), zeu (64 - i) s t = (Nat.gcd U.natAbs W, 0) → s < 2147483648 → t < 2147483648 → zV χ 7 ad zSH 0 0 11 [(0, .int (zi U)), (1, .int (zi ((W : Nat) : Int))), (2, .int (zi q)), (3, .int (zi ((s : Nat) : Int))), (4, .int (zi ((t : Nat) : Int))), (5, .int (zi ((i : Nat) : Int)))] [] μ := by
    refine zfor ?_
    intro i hi ih s t hF hs ht
    refine z_iload K dX8_part_11 rfl ?_
    refine z_bipush K dX8_part_13 (by decide +kernel) ?_
    refine z_icmpge (tgt := 42) K dX8_part_15 (by decide) (by omega) ⟨by decide, by decide⟩ (fun h15 => ?_) (fun h15 => ?_)
    · have hs : s = Nat.gcd U.natAbs W := by
        by_cases e : i = 64
        · subst e; exact congrArg Prod.fst hF
        · rw [show 64 - i = (64 - (i + 1)) + 1 by omega, zeu_s, if_pos (by omega)] at hF; exact congrArg Prod.fst hF
      refine z_iload_n K dX8_part_42 rfl ?_
      refine z_ifne (tgt := 56) K dX8_part_43 (by decide) (by omega) (fun h43 => ?_) (fun h43 => absurd h43 (by omega))
      refine z_iload_n K dX8_part_56 rfl ?_
      refine z_ifeq (tgt := 64) K dX8_part_57 (by decide) (by omega) (fun h57 => ?_) (fun h57 => ?_)
      · refine z_iload_n K dX8_part_64 rfl ?_
        refine z_iload_n K dX8_part_65 rfl ?_
        refine z_idivT K dX8_part_66 (by omega) (by omega) (by omega) ?_
        exact z_iretd K T rfl dX8_part_67 (by unfold zpart; rw [if_pos h57, hs]) rfl
      · refine z_iload_n K dX8_part_60 rfl ?_
        refine z_goto (tgt := 65) K dX8_part_61 (by decide) ?_
        refine z_iload_n K dX8_part_65 rfl ?_
        refine z_idivT K dX8_part_66 (by omega) (by omega) (by omega) ?_
        exact z_iretd K T rfl dX8_part_67 (by unfold zpart; rw [if_neg h57, hs]) rfl
    · refine z_iload K dX8_part_18 rfl ?_
      refine z_ifeq (tgt := 42) K dX8_part_20 (by decide) (by omega) (fun h20 => ?_) (fun h20 => ?_)
      · have hs : s = Nat.gcd U.natAbs W := by
          by_cases e : i = 64
          · subst e; exact congrArg Prod.fst hF
          · rw [show 64 - i = (64 - (i + 1)) + 1 by omega, zeu_s, if_pos (by omega)] at hF; exact congrArg Prod.fst hF
        refine z_iload_n K dX8_part_42 rfl ?_
        refine z_ifne (tgt := 56) K dX8_part_43 (by decide) (by omega) (fun h43 => ?_) (fun h43 => absurd h43 (by omega))
        refine z_iload_n K dX8_part_56 rfl ?_
        refine z_ifeq (tgt := 64) K dX8_part_57 (by decide) (by omega) (fun h57 => ?_) (fun h57 => ?_)
        · refine z_iload_n K dX8_part_64 rfl ?_
          refine z_iload_n K dX8_part_65 rfl ?_
          refine z_idivT K dX8_part_66 (by omega) (by omega) (by omega) ?_
          exact z_iretd K T rfl dX8_part_67 (by unfold zpart; rw [if_pos h57, hs]) rfl
        · refine z_iload_n K dX8_part_60 rfl ?_
          refine z_goto (tgt := 65) K dX8_part_61 (by decide) ?_
          refine z_iload_n K dX8_part_65 rfl ?_
          refine z_idivT K dX8_part_66 (by omega) (by omega) (by omega) ?_
          exact z_iretd K T rfl dX8_part_67 (by unfold zpart; rw [if_neg h57, hs]) rfl
      · refine z_iload_n K dX8_part_23 rfl ?_
        refine z_iload K dX8_part_24 rfl ?_
        refine z_irem K dX8_part_26 ⟨by omega, by omega⟩ ⟨by omega, by omega⟩ ?_
        rw [show (((s : Nat) : Int) % ((t : Nat) : Int)) = ((s % t : Nat) : Int) from rfl]
        refine z_istore (lv' := [(0, .int (zi U)), (1, .int (zi ((W : Nat) : Int))), (2, .int (zi q)), (3, .int (zi ((s : Nat) : Int))), (4, .int (zi ((t : Nat) : Int))), (5, .int (zi ((i : Nat) : Int))), (6, .int (zi ((s % t : Nat) : Int)))]) K dX8_part_27 (by decide) rfl ?_
        refine z_iload K dX8_part_29 rfl ?_
        refine z_istore_n (lv' := [(0, .int (zi U)), (1, .int (zi ((W : Nat) : Int))), (2, .int (zi q)), (3, .int (zi ((t : Nat) : Int))), (4, .int (zi ((t : Nat) : Int))), (5, .int (zi ((i : Nat) : Int))), (6, .int (zi ((s % t : Nat) : Int)))]) K dX8_part_31 (by decide) rfl ?_
        refine z_iload K dX8_part_32 rfl ?_
        refine z_istore (lv' := [(0, .int (zi U)), (1, .int (zi ((W : Nat) : Int))), (2, .int (zi q)), (3, .int (zi ((t : Nat) : Int))), (4, .int (zi ((s % t : Nat) : Int))), (5, .int (zi ((i : Nat) : Int))), (6, .int (zi ((s % t : Nat) : Int)))]) K dX8_part_34 (by decide) rfl ?_
        refine z_iincN (lv' := [(0, .int (zi U)), (1, .int (zi ((W : Nat) : Int))), (2, .int (zi q)), (3, .int (zi ((t : Nat) : Int))), (4, .int (zi ((s % t : Nat) : Int))), (5, .int (zi ((i + 1 : Nat) : Int))), (6, .int (zi ((s % t : Nat) : Int)))]) K dX8_part_36 rfl (by decide) rfl ?_
        refine z_goto (tgt := 11) K dX8_part_39 (by decide) ?_
        refine z_ipick [0, 1, 2, 3, 4, 5] rfl ?_
        exact ih (i + 1) (by omega) (by omega) t (s % t) (by rw [show 64 - i = (64 - (i + 1)) + 1 by omega, zeu_s, if_neg (by omega)] at hF; exact hF) (by omega) (by have := Nat.mod_lt s (y := t) (by omega); omega)
  exact L11 0 (by omega) _ _ (zeu_64 (by omega)) (by omega) (by omega)
