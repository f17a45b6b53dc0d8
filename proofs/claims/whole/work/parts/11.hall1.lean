set_option maxHeartbeats 4000000 in
set_option maxRecDepth 100000 in
theorem ct_isHole (la : Launch) (g0 : zG) (ad : Nat → Nat) (μ : zMem) (x : Int) (hx : zR x) : zCon la g0 yX8_isHole cX8_isHole 1 (some .boolean) 0 ad zSH [.int (zi x)] μ (zPd μ (if 0 ≤ x ∧ x < 12 then 1 else 0)) := by
  refine zCon_of (by decide +kernel) (Nat.le_of_ble_eq_true rfl) ?_
  intro χ K T hl1 hg1
  have K : zOk χ cX8_isHole RX8 1 0 (some .boolean) := K
  show zV χ 1 ad zSH 0 0 0 [(0, .int (zi x))] [] μ
  refine z_iload_n K dX8_isHole_0 rfl ?_
  refine z_iflt (tgt := 14) K dX8_isHole_1 (by decide) (by omega) (fun h1 => ?_) (fun h1 => ?_)
  · refine z_iconst K dX8_isHole_14 ?_
    exact z_zretd K T rfl dX8_isHole_15 (Or.inl rfl) (if_neg (by omega)).symm rfl
  · refine z_iload_n K dX8_isHole_4 rfl ?_
    refine z_bipush K dX8_isHole_5 (by decide +kernel) ?_
    refine z_icmpge (tgt := 14) K dX8_isHole_7 (by decide) (by omega) ⟨by decide, by decide⟩ (fun h7 => ?_) (fun h7 => ?_)
    · refine z_iconst K dX8_isHole_14 ?_
      exact z_zretd K T rfl dX8_isHole_15 (Or.inl rfl) (if_neg (by omega)).symm rfl
    · refine z_iconst K dX8_isHole_10 ?_
      refine z_goto (tgt := 15) K dX8_isHole_11 (by decide) ?_
      exact z_zretd K T rfl dX8_isHole_15 (Or.inr rfl) (if_pos (by omega)).symm rfl
set_option maxHeartbeats 4000000 in
set_option maxRecDepth 100000 in
theorem ct_isRow (la : Launch) (g0 : zG) (ad : Nat → Nat) (μ : zMem) (x : Int) (hx : zR x) : zCon la g0 yX8_isRow cX8_isRow 1 (some .boolean) 0 ad zSH [.int (zi x)] μ (zPd μ (if 0 ≤ x ∧ x < 3 then 1 else 0)) := by
  refine zCon_of (by decide +kernel) (Nat.le_of_ble_eq_true rfl) ?_
  intro χ K T hl1 hg1
  have K : zOk χ cX8_isRow RX8 1 0 (some .boolean) := K
  show zV χ 1 ad zSH 0 0 0 [(0, .int (zi x))] [] μ
  refine z_iload_n K dX8_isRow_0 rfl ?_
  refine z_iflt (tgt := 13) K dX8_isRow_1 (by decide) (by omega) (fun h1 => ?_) (fun h1 => ?_)
  · refine z_iconst K dX8_isRow_13 ?_
    exact z_zretd K T rfl dX8_isRow_14 (Or.inl rfl) (if_neg (by omega)).symm rfl
  · refine z_iload_n K dX8_isRow_4 rfl ?_
    refine z_iconst K dX8_isRow_5 ?_
    refine z_icmpge (tgt := 13) K dX8_isRow_6 (by decide) (by omega) ⟨by decide, by decide⟩ (fun h6 => ?_) (fun h6 => ?_)
    · refine z_iconst K dX8_isRow_13 ?_
      exact z_zretd K T rfl dX8_isRow_14 (Or.inl rfl) (if_neg (by omega)).symm rfl
    · refine z_iconst K dX8_isRow_9 ?_
      refine z_goto (tgt := 14) K dX8_isRow_10 (by decide) ?_
      exact z_zretd K T rfl dX8_isRow_14 (Or.inr rfl) (if_pos (by omega)).symm rfl
set_option maxHeartbeats 4000000 in
set_option maxRecDepth 100000 in
theorem ct_hasLetter (la : Launch) (g0 : zG) (ad : Nat → Nat) (μ : zMem) (n nc : Nat) (hp : zPlan μ n nc) (x : Int) (hx : zR x) : zCon la g0 yX4_hasLetter cX4_hasLetter 2 (some .boolean) 0 ad zSH [.ref (ad 10), .int (zi x)] μ (zPd μ (if 0 ≤ x ∧ x < (n : Int) then 1 else 0)) := by
  refine zCon_of (by decide +kernel) (Nat.le_of_ble_eq_true rfl) ?_
  intro χ K T hl1 hg1
  have K : zOk χ cX4_hasLetter RX4 2 0 (some .boolean) := K
  obtain ⟨hn, hn6, hnc, hnc3, hpl, hpk⟩ := id hp
  show zV χ 2 ad zSH 0 0 0 [(0, .ref (ad 10)), (1, .int (zi x))] [] μ
  refine z_iload_n K dX4_hasLetter_0 rfl ?_
  refine z_iflt (tgt := 16) K dX4_hasLetter_1 (by decide) (by omega) (fun h1 => ?_) (fun h1 => ?_)
  · refine z_iconst K dX4_hasLetter_16 ?_
    exact z_zretd K T rfl dX4_hasLetter_17 (Or.inl rfl) (if_neg (by omega)).symm rfl
  · refine z_iload_n K dX4_hasLetter_4 rfl ?_
    refine z_aload_n K dX4_hasLetter_5 rfl ?_
    refine z_get (k := 10) (v := .int (zi (μ 10 0))) K dX4_hasLetter_6 fl_X4_30 rfl rfl rfl ?_
    refine z_icmpge (tgt := 16) K dX4_hasLetter_9 (by decide) (by omega) (by omega) (fun h9 => ?_) (fun h9 => ?_)
    · refine z_iconst K dX4_hasLetter_16 ?_
      exact z_zretd K T rfl dX4_hasLetter_17 (Or.inl rfl) (if_neg (by omega)).symm rfl
    · refine z_iconst K dX4_hasLetter_12 ?_
      refine z_goto (tgt := 17) K dX4_hasLetter_13 (by decide) ?_
      exact z_zretd K T rfl dX4_hasLetter_17 (Or.inr rfl) (if_pos (by omega)).symm rfl
set_option maxHeartbeats 4000000 in
set_option maxRecDepth 100000 in
theorem ct_hasClerk (la : Launch) (g0 : zG) (ad : Nat → Nat) (μ : zMem) (n nc : Nat) (hp : zPlan μ n nc) (x : Int) (hx : zR x) : zCon la g0 yX4_hasClerk cX4_hasClerk 2 (some .boolean) 0 ad zSH [.ref (ad 10), .int (zi x)] μ (zPd μ (if 0 ≤ x ∧ x < (nc : Int) then 1 else 0)) := by
  refine zCon_of (by decide +kernel) (Nat.le_of_ble_eq_true rfl) ?_
  intro χ K T hl1 hg1
  have K : zOk χ cX4_hasClerk RX4 2 0 (some .boolean) := K
  obtain ⟨hn, hn6, hnc, hnc3, hpl, hpk⟩ := id hp
  show zV χ 2 ad zSH 0 0 0 [(0, .ref (ad 10)), (1, .int (zi x))] [] μ
  refine z_iload_n K dX4_hasClerk_0 rfl ?_
  refine z_iflt (tgt := 16) K dX4_hasClerk_1 (by decide) (by omega) (fun h1 => ?_) (fun h1 => ?_)
  · refine z_iconst K dX4_hasClerk_16 ?_
    exact z_zretd K T rfl dX4_hasClerk_17 (Or.inl rfl) (if_neg (by omega)).symm rfl
  · refine z_iload_n K dX4_hasClerk_4 rfl ?_
    refine z_aload_n K dX4_hasClerk_5 rfl ?_
    refine z_get (k := 10) (v := .int (zi (μ 10 1))) K dX4_hasClerk_6 fl_X4_34 rfl rfl rfl ?_
    refine z_icmpge (tgt := 16) K dX4_hasClerk_9 (by decide) (by omega) (by omega) (fun h9 => ?_) (fun h9 => ?_)
    · refine z_iconst K dX4_hasClerk_16 ?_
      exact z_zretd K T rfl dX4_hasClerk_17 (Or.inl rfl) (if_neg (by omega)).symm rfl
    · refine z_iconst K dX4_hasClerk_12 ?_
      refine z_goto (tgt := 17) K dX4_hasClerk_13 (by decide) ?_
      exact z_zretd K T rfl dX4_hasClerk_17 (Or.inr rfl) (if_pos (by omega)).symm rfl
def zbc0 (x : Int32) : Int32 := x - ((x.toUInt32 >>> ((zi 1).toUInt32 &&& Int32.toUInt32 31)).toInt32 &&& 1431655765)
def zbc1 (x : Int32) : Int32 := (x &&& 858993459) + ((x.toUInt32 >>> ((zi 2).toUInt32 &&& Int32.toUInt32 31)).toInt32 &&& 858993459)
def zbc2 (x : Int32) : Int32 := (x + (x.toUInt32 >>> ((zi 4).toUInt32 &&& Int32.toUInt32 31)).toInt32) &&& 252645135
def zbc3 (x : Int32) : Int32 := x + (x.toUInt32 >>> ((zi 8).toUInt32 &&& Int32.toUInt32 31)).toInt32
def zbc4 (x : Int32) : Int32 := x + (x.toUInt32 >>> ((zi 16).toUInt32 &&& Int32.toUInt32 31)).toInt32
theorem zbc_ok : ∀ x : Nat, x < 64 → (zbc4 (zbc3 (zbc2 (zbc1 (zbc0 (zi (x : Int))))))) &&& zi 63 = zi ((zpop x : Nat) : Int) := by decide +kernel
set_option maxHeartbeats 4000000 in
set_option maxRecDepth 100000 in
theorem ct_bitCount (la : Launch) (g0 : zG) (ad : Nat → Nat) (μ : zMem) (x : Nat) (hx : x < 64) : zCon la g0 yJ6_bitCount_0f7a4 cJ6_bitCount_0f7a4 1 (some .int) 0 ad zSH [.int (zi ((x : Nat) : Int))] μ (zPd μ ((zpop x : Nat) : Int)) := by
  refine zCon_of (by decide +kernel) (Nat.le_of_ble_eq_true rfl) ?_
  intro χ K T hl1 hg1
  have K : zOk χ cJ6_bitCount_0f7a4 RJ6 1 0 (some .int) := K
  show zV χ 1 ad zSH 0 0 0 [(0, .int (zi ((x : Nat) : Int)))] [] μ
  refine z_iload_n K dJ6_bitCount_0f7a4_0 rfl ?_
  refine z_iload_n K dJ6_bitCount_0f7a4_1 rfl ?_
  refine z_iconst K dJ6_bitCount_0f7a4_2 ?_
  refine z_iushrR (z := ((zi ((x : Nat) : Int)).toUInt32 >>> ((zi (1 : Int)).toUInt32 &&& Int32.toUInt32 31)).toInt32) K dJ6_bitCount_0f7a4_3 rfl ?_
  refine z_ldcw K dJ6_bitCount_0f7a4_4 kc_J6_265 ?_
  refine z_iandR (z := (((zi ((x : Nat) : Int)).toUInt32 >>> ((zi (1 : Int)).toUInt32 &&& Int32.toUInt32 31)).toInt32) &&& (1431655765 : Int32)) K dJ6_bitCount_0f7a4_7 rfl ?_
  refine z_isubR (z := (zi ((x : Nat) : Int)) - ((((zi ((x : Nat) : Int)).toUInt32 >>> ((zi (1 : Int)).toUInt32 &&& Int32.toUInt32 31)).toInt32) &&& (1431655765 : Int32))) K dJ6_bitCount_0f7a4_8 rfl ?_
  refine z_istore_n (lv' := [(0, .int ((zi ((x : Nat) : Int)) - ((((zi ((x : Nat) : Int)).toUInt32 >>> ((zi (1 : Int)).toUInt32 &&& Int32.toUInt32 31)).toInt32) &&& (1431655765 : Int32))))]) K dJ6_bitCount_0f7a4_9 (by decide) rfl ?_
  show zV χ 1 ad zSH 0 0 10 [(0, .int (zbc0 (zi ((x : Nat) : Int))))] [] μ
  refine z_iload_n K dJ6_bitCount_0f7a4_10 rfl ?_
  refine z_ldcw K dJ6_bitCount_0f7a4_11 kc_J6_266 ?_
  refine z_iandR (z := (zbc0 (zi ((x : Nat) : Int))) &&& (858993459 : Int32)) K dJ6_bitCount_0f7a4_14 rfl ?_
  refine z_iload_n K dJ6_bitCount_0f7a4_15 rfl ?_
  refine z_iconst K dJ6_bitCount_0f7a4_16 ?_
  refine z_iushrR (z := ((zbc0 (zi ((x : Nat) : Int))).toUInt32 >>> ((zi (2 : Int)).toUInt32 &&& Int32.toUInt32 31)).toInt32) K dJ6_bitCount_0f7a4_17 rfl ?_
  refine z_ldcw K dJ6_bitCount_0f7a4_18 kc_J6_266 ?_
  refine z_iandR (z := (((zbc0 (zi ((x : Nat) : Int))).toUInt32 >>> ((zi (2 : Int)).toUInt32 &&& Int32.toUInt32 31)).toInt32) &&& (858993459 : Int32)) K dJ6_bitCount_0f7a4_21 rfl ?_
  refine z_iaddR (z := ((zbc0 (zi ((x : Nat) : Int))) &&& (858993459 : Int32)) + ((((zbc0 (zi ((x : Nat) : Int))).toUInt32 >>> ((zi (2 : Int)).toUInt32 &&& Int32.toUInt32 31)).toInt32) &&& (858993459 : Int32))) K dJ6_bitCount_0f7a4_22 rfl ?_
  refine z_istore_n (lv' := [(0, .int (((zbc0 (zi ((x : Nat) : Int))) &&& (858993459 : Int32)) + ((((zbc0 (zi ((x : Nat) : Int))).toUInt32 >>> ((zi (2 : Int)).toUInt32 &&& Int32.toUInt32 31)).toInt32) &&& (858993459 : Int32))))]) K dJ6_bitCount_0f7a4_23 (by decide) rfl ?_
  show zV χ 1 ad zSH 0 0 24 [(0, .int (zbc1 (zbc0 (zi ((x : Nat) : Int)))))] [] μ
  refine z_iload_n K dJ6_bitCount_0f7a4_24 rfl ?_
  refine z_iload_n K dJ6_bitCount_0f7a4_25 rfl ?_
  refine z_iconst K dJ6_bitCount_0f7a4_26 ?_
  refine z_iushrR (z := ((zbc1 (zbc0 (zi ((x : Nat) : Int)))).toUInt32 >>> ((zi (4 : Int)).toUInt32 &&& Int32.toUInt32 31)).toInt32) K dJ6_bitCount_0f7a4_27 rfl ?_
  refine z_iaddR (z := (zbc1 (zbc0 (zi ((x : Nat) : Int)))) + (((zbc1 (zbc0 (zi ((x : Nat) : Int)))).toUInt32 >>> ((zi (4 : Int)).toUInt32 &&& Int32.toUInt32 31)).toInt32)) K dJ6_bitCount_0f7a4_28 rfl ?_
  refine z_ldcw K dJ6_bitCount_0f7a4_29 kc_J6_267 ?_
  refine z_iandR (z := ((zbc1 (zbc0 (zi ((x : Nat) : Int)))) + (((zbc1 (zbc0 (zi ((x : Nat) : Int)))).toUInt32 >>> ((zi (4 : Int)).toUInt32 &&& Int32.toUInt32 31)).toInt32)) &&& (252645135 : Int32)) K dJ6_bitCount_0f7a4_32 rfl ?_
  refine z_istore_n (lv' := [(0, .int (((zbc1 (zbc0 (zi ((x : Nat) : Int)))) + (((zbc1 (zbc0 (zi ((x : Nat) : Int)))).toUInt32 >>> ((zi (4 : Int)).toUInt32 &&& Int32.toUInt32 31)).toInt32)) &&& (252645135 : Int32)))]) K dJ6_bitCount_0f7a4_33 (by decide) rfl ?_
  show zV χ 1 ad zSH 0 0 34 [(0, .int (zbc2 (zbc1 (zbc0 (zi ((x : Nat) : Int))))))] [] μ
  refine z_iload_n K dJ6_bitCount_0f7a4_34 rfl ?_
  refine z_iload_n K dJ6_bitCount_0f7a4_35 rfl ?_
  refine z_bipush K dJ6_bitCount_0f7a4_36 (by decide +kernel) ?_
  refine z_iushrR (z := ((zbc2 (zbc1 (zbc0 (zi ((x : Nat) : Int))))).toUInt32 >>> ((zi (8 : Int)).toUInt32 &&& Int32.toUInt32 31)).toInt32) K dJ6_bitCount_0f7a4_38 rfl ?_
  refine z_iaddR (z := (zbc2 (zbc1 (zbc0 (zi ((x : Nat) : Int))))) + (((zbc2 (zbc1 (zbc0 (zi ((x : Nat) : Int))))).toUInt32 >>> ((zi (8 : Int)).toUInt32 &&& Int32.toUInt32 31)).toInt32)) K dJ6_bitCount_0f7a4_39 rfl ?_
  refine z_istore_n (lv' := [(0, .int ((zbc2 (zbc1 (zbc0 (zi ((x : Nat) : Int))))) + (((zbc2 (zbc1 (zbc0 (zi ((x : Nat) : Int))))).toUInt32 >>> ((zi (8 : Int)).toUInt32 &&& Int32.toUInt32 31)).toInt32)))]) K dJ6_bitCount_0f7a4_40 (by decide) rfl ?_
  show zV χ 1 ad zSH 0 0 41 [(0, .int (zbc3 (zbc2 (zbc1 (zbc0 (zi ((x : Nat) : Int)))))))] [] μ
  refine z_iload_n K dJ6_bitCount_0f7a4_41 rfl ?_
  refine z_iload_n K dJ6_bitCount_0f7a4_42 rfl ?_
  refine z_bipush K dJ6_bitCount_0f7a4_43 (by decide +kernel) ?_
  refine z_iushrR (z := ((zbc3 (zbc2 (zbc1 (zbc0 (zi ((x : Nat) : Int)))))).toUInt32 >>> ((zi (16 : Int)).toUInt32 &&& Int32.toUInt32 31)).toInt32) K dJ6_bitCount_0f7a4_45 rfl ?_
  refine z_iaddR (z := (zbc3 (zbc2 (zbc1 (zbc0 (zi ((x : Nat) : Int)))))) + (((zbc3 (zbc2 (zbc1 (zbc0 (zi ((x : Nat) : Int)))))).toUInt32 >>> ((zi (16 : Int)).toUInt32 &&& Int32.toUInt32 31)).toInt32)) K dJ6_bitCount_0f7a4_46 rfl ?_
  refine z_istore_n (lv' := [(0, .int ((zbc3 (zbc2 (zbc1 (zbc0 (zi ((x : Nat) : Int)))))) + (((zbc3 (zbc2 (zbc1 (zbc0 (zi ((x : Nat) : Int)))))).toUInt32 >>> ((zi (16 : Int)).toUInt32 &&& Int32.toUInt32 31)).toInt32)))]) K dJ6_bitCount_0f7a4_47 (by decide) rfl ?_
  show zV χ 1 ad zSH 0 0 48 [(0, .int (zbc4 (zbc3 (zbc2 (zbc1 (zbc0 (zi ((x : Nat) : Int))))))))] [] μ
  refine z_iload_n K dJ6_bitCount_0f7a4_48 rfl ?_
  refine z_bipush K dJ6_bitCount_0f7a4_49 (by decide +kernel) ?_
  refine z_iandR (z := (zbc4 (zbc3 (zbc2 (zbc1 (zbc0 (zi ((x : Nat) : Int))))))) &&& (zi (63 : Int))) K dJ6_bitCount_0f7a4_51 rfl ?_
  exact z_iret (st := []) K T rfl dJ6_bitCount_0f7a4_52 ⟨by rw [← zbc_ok x hx], rfl⟩
set_option maxHeartbeats 4000000 in
set_option maxRecDepth 100000 in
/-- Hall.who -/
theorem ct_who_n (la : Launch) (g0 : zG) (ad : Nat → Nat) (μ : zMem) (n nc : Nat) (hp : zPlan μ n nc) (hv : zHW n nc (μ 18)) (f : Int) (hf : zR f) : zCon la g0 yX1_who cX1_who 4 (some .int) 0 ad zSH [.ref (ad 17), .int (zi f)] μ (zPd μ ((zwho (μ 18) f n : Nat) : Int)) := by
  refine zCon_of (by decide +kernel) (Nat.le_of_ble_eq_true rfl) ?_
  intro χ K T hl1 hg1
  have K : zOk χ cX1_who RX1 4 0 (some .int) := K
  obtain ⟨hn, hn6, hnc, hnc3, hpl, hpk⟩ := id hp
  obtain ⟨hv1, hv2, hv3, hv4⟩ := id hv
  show zV χ 4 ad zSH 0 0 0 [(0, .ref (ad 17)), (1, .int (zi f))] [] μ
  refine z_iconst K dX1_who_0 ?_
  refine z_istore_n (lv' := [(0, .ref (ad 17)), (1, .int (zi f)), (2, .int (zi (0 : Int)))]) K dX1_who_1 (by decide) rfl ?_
  refine z_iconst K dX1_who_2 ?_
  refine z_istore_n (lv' := [(0, .ref (ad 17)), (1, .int (zi f)), (2, .int (zi (0 : Int))), (3, .int (zi (0 : Int)))]) K dX1_who_3 (by decide) rfl ?_
  have L4 : ∀ l, l ≤ n → zV χ 4 ad zSH 0 0 4 [(0, .ref (ad 17)), (1, .int (zi f)), (2, .int (zi ((zwho (μ 18) f l : Nat) : Int))), (3, .int (zi ((l : Nat) : Int)))] [] μ := by
    refine zfor ?_
    intro l hl ih
    refine z_iload_n K dX1_who_4 rfl ?_
    refine z_aload_n K dX1_who_5 rfl ?_
    refine z_get (k := 17) (v := .ref (ad 10)) K dX1_who_6 fl_X1_18 rfl rfl rfl ?_
    refine z_get (k := 10) (v := .int (zi (μ 10 0))) K dX1_who_9 fl_X1_22 rfl rfl rfl ?_
    refine z_icmpge (tgt := 40) K dX1_who_12 (by decide) (by omega) (by omega) (fun h12 => ?_) (fun h12 => ?_)
    · refine z_iload_n K dX1_who_40 rfl ?_
      exact z_iretd K T rfl dX1_who_41 (by rw [show l = n by omega]) rfl
    · have hfl := hv1 l (by omega)
      refine z_aload_n K dX1_who_15 rfl ?_
      refine z_get (k := 17) (v := .ref (ad 18)) K dX1_who_16 fl_X1_11 rfl rfl rfl ?_
      refine z_bipush K dX1_who_19 (by decide +kernel) ?_
      refine z_iload_n K dX1_who_21 rfl ?_
      refine z_iadd K dX1_who_22 ?_
      refine z_iald (k := 18) (v := μ 18 (12 + l)) K dX1_who_23 (12 + l) rfl (by decide) (by omega) (by omega) rfl ?_
      refine z_iload_n K dX1_who_24 rfl ?_
      refine z_icmpne (tgt := 34) K dX1_who_25 (by decide) (by omega) (by omega) (fun h25 => ?_) (fun h25 => ?_)
      · refine z_iincN (lv' := [(0, .ref (ad 17)), (1, .int (zi f)), (2, .int (zi ((zwho (μ 18) f l : Nat) : Int))), (3, .int (zi ((l + 1 : Nat) : Int)))]) K dX1_who_34 rfl (by decide) rfl ?_
        refine z_goto (tgt := 4) K dX1_who_37 (by decide) ?_
        have e9 : zwho (μ 18) f l = zwho (μ 18) f (l + 1) := by simp [zwho, h25]
        rw [e9]
        exact ih (l + 1) (by omega) (by omega)
      · refine z_iload_n K dX1_who_28 rfl ?_
        refine z_iconst K dX1_who_29 ?_
        refine z_iload_n K dX1_who_30 rfl ?_
        refine z_ishlR (z := zi ((2 ^ l : Nat) : Int)) K dX1_who_31 (zb_shl l (by omega)) ?_
        refine z_iorR (z := zi ((zwho (μ 18) f l ||| 2 ^ l : Nat) : Int)) K dX1_who_32 (zb_or _ _) ?_
        refine z_istore_n (lv' := [(0, .ref (ad 17)), (1, .int (zi f)), (2, .int (zi ((zwho (μ 18) f l ||| 2 ^ l : Nat) : Int))), (3, .int (zi ((l : Nat) : Int)))]) K dX1_who_33 (by decide) rfl ?_
        refine z_iincN (lv' := [(0, .ref (ad 17)), (1, .int (zi f)), (2, .int (zi ((zwho (μ 18) f l ||| 2 ^ l : Nat) : Int))), (3, .int (zi ((l + 1 : Nat) : Int)))]) K dX1_who_34 rfl (by decide) rfl ?_
        refine z_goto (tgt := 4) K dX1_who_37 (by decide) ?_
        have e9 : zwho (μ 18) f l ||| 2 ^ l = zwho (μ 18) f (l + 1) := by simp [zwho, h25]
        rw [e9]
        exact ih (l + 1) (by omega) (by omega)
  exact L4 0 (by omega)
set_option maxHeartbeats 4000000 in
set_option maxRecDepth 100000 in
/-- Hall.whoIsIn -/
theorem ct_whoIsIn_n (la : Launch) (g0 : zG) (ad : Nat → Nat) (μ : zMem) (n nc : Nat) (hp : zPlan μ n nc) (hv : zHW n nc (μ 18)) (f : Int) (hf : zR f) : zCon la g0 yX1_whoIsIn cX1_whoIsIn 5 (some .int) 0 ad zSH [.ref (ad 17), .int (zi f)] μ (zPd μ ((zin (μ 18) f n : Nat) : Int)) := by
  refine zCon_of (by decide +kernel) (Nat.le_of_ble_eq_true rfl) ?_
  intro χ K T hl1 hg1
  have K : zOk χ cX1_whoIsIn RX1 5 0 (some .int) := K
  obtain ⟨hn, hn6, hnc, hnc3, hpl, hpk⟩ := id hp
  obtain ⟨hv1, hv2, hv3, hv4⟩ := id hv
  show zV χ 5 ad zSH 0 0 0 [(0, .ref (ad 17)), (1, .int (zi f))] [] μ
  refine z_iconst K dX1_whoIsIn_0 ?_
  refine z_istore_n (lv' := [(0, .ref (ad 17)), (1, .int (zi f)), (2, .int (zi (0 : Int)))]) K dX1_whoIsIn_1 (by decide) rfl ?_
  refine z_iconst K dX1_whoIsIn_2 ?_
  refine z_istore_n (lv' := [(0, .ref (ad 17)), (1, .int (zi f)), (2, .int (zi (0 : Int))), (3, .int (zi (0 : Int)))]) K dX1_whoIsIn_3 (by decide) rfl ?_
  have L4 : ∀ l, l ≤ n → zV χ 5 ad zSH 0 0 4 [(0, .ref (ad 17)), (1, .int (zi f)), (2, .int (zi ((zin (μ 18) f l : Nat) : Int))), (3, .int (zi ((l : Nat) : Int)))] [] μ := by
    refine zfor ?_
    intro l hl ih
    refine z_iload_n K dX1_whoIsIn_4 rfl ?_
    refine z_aload_n K dX1_whoIsIn_5 rfl ?_
    refine z_get (k := 17) (v := .ref (ad 10)) K dX1_whoIsIn_6 fl_X1_18 rfl rfl rfl ?_
    refine z_get (k := 10) (v := .int (zi (μ 10 0))) K dX1_whoIsIn_9 fl_X1_22 rfl rfl rfl ?_
    refine z_icmpge (tgt := 61) K dX1_whoIsIn_12 (by decide) (by omega) (by omega) (fun h12 => ?_) (fun h12 => ?_)
    · refine z_iload_n K dX1_whoIsIn_61 rfl ?_
      exact z_iretd K T rfl dX1_whoIsIn_62 (by rw [show l = n by omega]) rfl
    · have hfl := hv1 l (by omega)
      refine z_aload_n K dX1_whoIsIn_15 rfl ?_
      refine z_get (k := 17) (v := .ref (ad 18)) K dX1_whoIsIn_16 fl_X1_11 rfl rfl rfl ?_
      refine z_bipush K dX1_whoIsIn_19 (by decide +kernel) ?_
      refine z_iload_n K dX1_whoIsIn_21 rfl ?_
      refine z_iadd K dX1_whoIsIn_22 ?_
      refine z_iald (k := 18) (v := μ 18 (12 + l)) K dX1_whoIsIn_23 (12 + l) rfl (by decide) (by omega) (by omega) rfl ?_
      refine z_istore (lv' := [(0, .ref (ad 17)), (1, .int (zi f)), (2, .int (zi ((zin (μ 18) f l : Nat) : Int))), (3, .int (zi ((l : Nat) : Int))), (4, .int (zi (μ 18 (12 + l))))]) K dX1_whoIsIn_24 (by decide) rfl ?_
      refine z_aload_n K dX1_whoIsIn_26 rfl ?_
      refine z_get (k := 17) (v := .ref (ad 18)) K dX1_whoIsIn_27 fl_X1_11 rfl rfl rfl ?_
      refine z_iconst K dX1_whoIsIn_30 ?_
      refine z_iload_n K dX1_whoIsIn_31 rfl ?_
      refine z_iadd K dX1_whoIsIn_32 ?_
      refine z_iald (k := 18) (v := μ 18 l) K dX1_whoIsIn_33 l rfl (by decide) (by omega) (by omega) rfl ?_
      refine z_iload_n K dX1_whoIsIn_34 rfl ?_
      refine z_icmpne (tgt := 55) K dX1_whoIsIn_35 (by decide) (by omega) (by omega) (fun h35 => ?_) (fun h35 => ?_)
      · refine z_iincN (lv' := [(0, .ref (ad 17)), (1, .int (zi f)), (2, .int (zi ((zin (μ 18) f l : Nat) : Int))), (3, .int (zi ((l + 1 : Nat) : Int))), (4, .int (zi (μ 18 (12 + l))))]) K dX1_whoIsIn_55 rfl (by decide) rfl ?_
        refine z_goto (tgt := 4) K dX1_whoIsIn_58 (by decide) ?_
        refine z_ipick [0, 1, 2, 3] rfl ?_
        have e9 : zin (μ 18) f l = zin (μ 18) f (l + 1) := by
          rw [zin_s]
          rw [if_neg (by omega)]
        rw [e9]
        exact ih (l + 1) (by omega) (by omega)
      · refine z_iload K dX1_whoIsIn_38 rfl ?_
        refine z_ifeq (tgt := 49) K dX1_whoIsIn_40 (by decide) (by omega) (fun h40 => ?_) (fun h40 => ?_)
        · refine z_iload_n K dX1_whoIsIn_49 rfl ?_
          refine z_iconst K dX1_whoIsIn_50 ?_
          refine z_iload_n K dX1_whoIsIn_51 rfl ?_
          refine z_ishlR (z := zi ((2 ^ l : Nat) : Int)) K dX1_whoIsIn_52 (zb_shl l (by omega)) ?_
          refine z_iorR (z := zi ((zin (μ 18) f l ||| 2 ^ l : Nat) : Int)) K dX1_whoIsIn_53 (zb_or _ _) ?_
          refine z_istore_n (lv' := [(0, .ref (ad 17)), (1, .int (zi f)), (2, .int (zi ((zin (μ 18) f l ||| 2 ^ l : Nat) : Int))), (3, .int (zi ((l : Nat) : Int))), (4, .int (zi (μ 18 (12 + l))))]) K dX1_whoIsIn_54 (by decide) rfl ?_
          refine z_iincN (lv' := [(0, .ref (ad 17)), (1, .int (zi f)), (2, .int (zi ((zin (μ 18) f l ||| 2 ^ l : Nat) : Int))), (3, .int (zi ((l + 1 : Nat) : Int))), (4, .int (zi (μ 18 (12 + l))))]) K dX1_whoIsIn_55 rfl (by decide) rfl ?_
          refine z_goto (tgt := 4) K dX1_whoIsIn_58 (by decide) ?_
          refine z_ipick [0, 1, 2, 3] rfl ?_
          have e9 : zin (μ 18) f l ||| 2 ^ l = zin (μ 18) f (l + 1) := by
            rw [zin_s]
            rw [if_pos ⟨by omega, by omega⟩]
          rw [e9]
          exact ih (l + 1) (by omega) (by omega)
        · refine z_iload K dX1_whoIsIn_43 rfl ?_
          refine z_iconst K dX1_whoIsIn_45 ?_
          refine z_icmpne (tgt := 55) K dX1_whoIsIn_46 (by decide) (by omega) ⟨by decide, by decide⟩ (fun h46 => ?_) (fun h46 => ?_)
          · refine z_iincN (lv' := [(0, .ref (ad 17)), (1, .int (zi f)), (2, .int (zi ((zin (μ 18) f l : Nat) : Int))), (3, .int (zi ((l + 1 : Nat) : Int))), (4, .int (zi (μ 18 (12 + l))))]) K dX1_whoIsIn_55 rfl (by decide) rfl ?_
            refine z_goto (tgt := 4) K dX1_whoIsIn_58 (by decide) ?_
            refine z_ipick [0, 1, 2, 3] rfl ?_
            have e9 : zin (μ 18) f l = zin (μ 18) f (l + 1) := by
              rw [zin_s]
              rw [if_neg (by omega)]
            rw [e9]
            exact ih (l + 1) (by omega) (by omega)
          · refine z_iload_n K dX1_whoIsIn_49 rfl ?_
            refine z_iconst K dX1_whoIsIn_50 ?_
            refine z_iload_n K dX1_whoIsIn_51 rfl ?_
            refine z_ishlR (z := zi ((2 ^ l : Nat) : Int)) K dX1_whoIsIn_52 (zb_shl l (by omega)) ?_
            refine z_iorR (z := zi ((zin (μ 18) f l ||| 2 ^ l : Nat) : Int)) K dX1_whoIsIn_53 (zb_or _ _) ?_
            refine z_istore_n (lv' := [(0, .ref (ad 17)), (1, .int (zi f)), (2, .int (zi ((zin (μ 18) f l ||| 2 ^ l : Nat) : Int))), (3, .int (zi ((l : Nat) : Int))), (4, .int (zi (μ 18 (12 + l))))]) K dX1_whoIsIn_54 (by decide) rfl ?_
            refine z_iincN (lv' := [(0, .ref (ad 17)), (1, .int (zi f)), (2, .int (zi ((zin (μ 18) f l ||| 2 ^ l : Nat) : Int))), (3, .int (zi ((l + 1 : Nat) : Int))), (4, .int (zi (μ 18 (12 + l))))]) K dX1_whoIsIn_55 rfl (by decide) rfl ?_
            refine z_goto (tgt := 4) K dX1_whoIsIn_58 (by decide) ?_
            refine z_ipick [0, 1, 2, 3] rfl ?_
            have e9 : zin (μ 18) f l ||| 2 ^ l = zin (μ 18) f (l + 1) := by
              rw [zin_s]
              rw [if_pos ⟨by omega, by omega⟩]
            rw [e9]
            exact ih (l + 1) (by omega) (by omega)
  exact L4 0 (by omega)
set_option maxHeartbeats 4000000 in
set_option maxRecDepth 100000 in
theorem ct_lost_n (la : Launch) (g0 : zG) (ad : Nat → Nat) (μ : zMem) (n nc : Nat) (hp : zPlan μ n nc) (hv : zHW n nc (μ 18)) : zCon la g0 yX1_lost cX1_lost 1 (some .int) 1 ad zSH [.ref (ad 17)] μ (zPd μ ((zpop (zwho (μ 18) 2 n ||| zwho (μ 18) 3 n) : Nat) : Int)) := by
  refine zCon_of (by decide +kernel) (Nat.le_of_ble_eq_true rfl) ?_
  intro χ K T hl1 hg1
  have K : zOk χ cX1_lost RX1 1 1 (some .int) := K
  obtain ⟨hn, hn6, hnc, hnc3, hpl, hpk⟩ := id hp
  obtain ⟨hv1, hv2, hv3, hv4⟩ := id hv
  show zV χ 1 ad zSH 0 0 0 [(0, .ref (ad 17))] [] μ
  refine z_aload_n K dX1_lost_0 rfl ?_
  refine z_iconst K dX1_lost_1 ?_
  refine z_callVd K hl1 hg1 (kb := 17) (As := [.int (zi (2 : Int))]) (rest := []) (ct_who_n la g0 ad _ n nc hp hv 2 ⟨by decide, by decide⟩) (by decide) lk_X1_46 cd_X1_who rfl rfl rfl rfl (Nat.le_of_ble_eq_true rfl) dX1_lost_2 ?_
  refine z_aload_n K dX1_lost_5 rfl ?_
  refine z_iconst K dX1_lost_6 ?_
  refine z_callVd K hl1 hg1 (kb := 17) (As := [.int (zi (3 : Int))]) (rest := [.int (zi ((zwho (μ 18) 2 n : Nat) : Int))]) (ct_who_n la g0 ad _ n nc hp hv 3 ⟨by decide, by decide⟩) (by decide) lk_X1_46 cd_X1_who rfl rfl rfl rfl (Nat.le_of_ble_eq_true rfl) dX1_lost_7 ?_
  refine z_iorR (z := zi ((zwho (μ 18) 2 n ||| zwho (μ 18) 3 n : Nat) : Int)) K dX1_lost_10 (zb_or _ _) ?_
  have hb64 : zwho (μ 18) 2 n ||| zwho (μ 18) 3 n < 64 := Nat.or_lt_two_pow (n := 6) (z64 (zwho_lt _ _ _) hn6) (z64 (zwho_lt _ _ _) hn6)
  refine z_callSd K hl1 hg1 (As := [.int (zi ((zwho (μ 18) 2 n ||| zwho (μ 18) 3 n : Nat) : Int))]) (rest := []) (ct_bitCount la g0 ad _ (zwho (μ 18) 2 n ||| zwho (μ 18) 3 n) (by first | exact z64 (zwho_lt _ _ _) hn6 | exact z64 (zin_lt _ _ _) hn6 | exact hb64)) (by decide) lk_X1_50 cd_J6_bitCount_0f7a4 rfl rfl (Nat.le_of_ble_eq_true rfl) dX1_lost_11 ?_
  exact z_iretd K T rfl dX1_lost_14 rfl rfl
set_option maxHeartbeats 4000000 in
set_option maxRecDepth 100000 in
theorem ct_daysLeft_n (la : Launch) (g0 : zG) (ad : Nat → Nat) (μ : zMem) (n nc : Nat) (hp : zPlan μ n nc) (hv : zHW n nc (μ 18)) (l : Nat) (hl : l < n) : zCon la g0 yX1_daysLeft cX1_daysLeft 5 (some .int) 0 ad zSH [.ref (ad 17), .int (zi ((l : Nat) : Int))] μ (zPd μ (zdl n (μ 13) (μ 14) (μ 18) l)) := by
  refine zCon_of (by decide +kernel) (Nat.le_of_ble_eq_true rfl) ?_
  intro χ K T hl1 hg1
  have K : zOk χ cX1_daysLeft RX1 5 0 (some .int) := K
  obtain ⟨hn, hn6, hnc, hnc3, hpl, hpk⟩ := id hp
  obtain ⟨hv1, hv2, hv3, hv4⟩ := id hv
  have hpp := hpl l hl
  have hvv := hv1 l hl
  show zV χ 5 ad zSH 0 0 0 [(0, .ref (ad 17)), (1, .int (zi ((l : Nat) : Int)))] [] μ
  refine z_aload_n K dX1_daysLeft_0 rfl ?_
  refine z_get (k := 17) (v := .ref (ad 10)) K dX1_daysLeft_1 fl_X1_18 rfl rfl rfl ?_
  refine z_get (k := 10) (v := .ref (ad 14)) K dX1_daysLeft_4 fl_X1_58 rfl rfl rfl ?_
  refine z_iload_n K dX1_daysLeft_7 rfl ?_
  refine z_iald (k := 14) (v := μ 14 l) K dX1_daysLeft_8 l rfl (by decide) (by omega) (by omega) rfl ?_
  refine z_aload_n K dX1_daysLeft_9 rfl ?_
  refine z_get (k := 17) (v := .ref (ad 18)) K dX1_daysLeft_10 fl_X1_11 rfl rfl rfl ?_
  refine z_bipush K dX1_daysLeft_13 (by decide +kernel) ?_
  refine z_iload_n K dX1_daysLeft_15 rfl ?_
  refine z_iadd K dX1_daysLeft_16 ?_
  refine z_iald (k := 18) (v := μ 18 (6 + l)) K dX1_daysLeft_17 (6 + l) rfl (by decide) (by omega) (by omega) rfl ?_
  refine z_isub K dX1_daysLeft_18 ?_
  refine z_istore_n (lv' := [(0, .ref (ad 17)), (1, .int (zi ((l : Nat) : Int))), (2, .int (zi ((μ 14 l) - (μ 18 (6 + l)))))]) K dX1_daysLeft_19 (by decide) rfl ?_
  refine z_aload_n K dX1_daysLeft_20 rfl ?_
  refine z_get (k := 17) (v := .ref (ad 10)) K dX1_daysLeft_21 fl_X1_18 rfl rfl rfl ?_
  refine z_get (k := 10) (v := .ref (ad 13)) K dX1_daysLeft_24 fl_X1_61 rfl rfl rfl ?_
  refine z_iload_n K dX1_daysLeft_27 rfl ?_
  refine z_iald (k := 13) (v := μ 13 l) K dX1_daysLeft_28 l rfl (by decide) (by omega) (by omega) rfl ?_
  refine z_iconst K dX1_daysLeft_29 ?_
  refine z_icmpne (tgt := 98) K dX1_daysLeft_30 (by decide) (by omega) ⟨by decide, by decide⟩ (fun h30 => ?_) (fun h30 => ?_)
  · refine z_iload_n K dX1_daysLeft_98 rfl ?_
    refine z_ifge (tgt := 106) K dX1_daysLeft_99 (by decide) (by omega) (fun h99 => ?_) (fun h99 => ?_)
    · refine z_iload_n K dX1_daysLeft_106 rfl ?_
      exact z_iretd K T rfl dX1_daysLeft_107 (by
          unfold zdl
          rw [if_neg h30]
          omega) rfl
    · refine z_iconst K dX1_daysLeft_102 ?_
      refine z_goto (tgt := 107) K dX1_daysLeft_103 (by decide) ?_
      exact z_iretd K T rfl dX1_daysLeft_107 (by
          unfold zdl
          rw [if_neg h30]
          omega) rfl
  · refine z_aload_n K dX1_daysLeft_33 rfl ?_
    refine z_get (k := 17) (v := .ref (ad 18)) K dX1_daysLeft_34 fl_X1_11 rfl rfl rfl ?_
    refine z_iconst K dX1_daysLeft_37 ?_
    refine z_iload_n K dX1_daysLeft_38 rfl ?_
    refine z_iadd K dX1_daysLeft_39 ?_
    refine z_iald (k := 18) (v := μ 18 l) K dX1_daysLeft_40 l rfl (by decide) (by omega) (by omega) rfl ?_
    refine z_istore_n (lv' := [(0, .ref (ad 17)), (1, .int (zi ((l : Nat) : Int))), (2, .int (zi ((μ 14 l) - (μ 18 (6 + l))))), (3, .int (zi (μ 18 l)))]) K dX1_daysLeft_41 (by decide) rfl ?_
    refine z_iconst K dX1_daysLeft_42 ?_
    refine z_istore (lv' := [(0, .ref (ad 17)), (1, .int (zi ((l : Nat) : Int))), (2, .int (zi ((μ 14 l) - (μ 18 (6 + l))))), (3, .int (zi (μ 18 l))), (4, .int (zi (0 : Int)))]) K dX1_daysLeft_43 (by decide) rfl ?_
    have L45 : ∀ o, o ≤ n → zV χ 5 ad zSH 0 0 45 [(0, .ref (ad 17)), (1, .int (zi ((l : Nat) : Int))), (2, .int (zi (μ 14 l - μ 18 (6 + l) + (zcnt (μ 18) l o : Nat)))), (3, .int (zi (μ 18 l))), (4, .int (zi ((o : Nat) : Int)))] [] μ := by
      refine zfor ?_
      intro o ho ih
      refine z_iload K dX1_daysLeft_45 rfl ?_
      refine z_aload_n K dX1_daysLeft_47 rfl ?_
      refine z_get (k := 17) (v := .ref (ad 10)) K dX1_daysLeft_48 fl_X1_18 rfl rfl rfl ?_
      refine z_get (k := 10) (v := .int (zi (μ 10 0))) K dX1_daysLeft_51 fl_X1_22 rfl rfl rfl ?_
      refine z_icmpge (tgt := 98) K dX1_daysLeft_54 (by decide) (by omega) (by omega) (fun h54 => ?_) (fun h54 => ?_)
      · have hcn := zcnt_le (μ 18) l o
        refine z_iload_n K dX1_daysLeft_98 rfl ?_
        refine z_ifge (tgt := 106) K dX1_daysLeft_99 (by decide) (by omega) (fun h99 => ?_) (fun h99 => ?_)
        · refine z_iload_n K dX1_daysLeft_106 rfl ?_
          exact z_iretd K T rfl dX1_daysLeft_107 (by
              unfold zdl
              rw [if_pos h30, show n = o by omega]
              omega) rfl
        · refine z_iconst K dX1_daysLeft_102 ?_
          refine z_goto (tgt := 107) K dX1_daysLeft_103 (by decide) ?_
          exact z_iretd K T rfl dX1_daysLeft_107 (by
              unfold zdl
              rw [if_pos h30, show n = o by omega]
              omega) rfl
      · have hfo := hv1 o (by omega)
        have hcn := zcnt_le (μ 18) l o
        refine z_iload K dX1_daysLeft_57 rfl ?_
        refine z_iload_n K dX1_daysLeft_59 rfl ?_
        refine z_icmpeq (tgt := 92) K dX1_daysLeft_60 (by decide) (by omega) (by omega) (fun h60 => ?_) (fun h60 => ?_)
        · refine z_iincN (lv' := [(0, .ref (ad 17)), (1, .int (zi ((l : Nat) : Int))), (2, .int (zi (μ 14 l - μ 18 (6 + l) + (zcnt (μ 18) l o : Nat)))), (3, .int (zi (μ 18 l))), (4, .int (zi ((o + 1 : Nat) : Int)))]) K dX1_daysLeft_92 rfl (by decide) rfl ?_
          refine z_goto (tgt := 45) K dX1_daysLeft_95 (by decide) ?_
          have e9 : μ 14 l - μ 18 (6 + l) + (zcnt (μ 18) l o : Nat) = μ 14 l - μ 18 (6 + l) + (zcnt (μ 18) l (o + 1) : Nat) := by
            rw [zcnt_s]
            rw [if_neg (by omega)]
          rw [e9]
          exact ih (o + 1) (by omega) (by omega)
        · refine z_aload_n K dX1_daysLeft_63 rfl ?_
          refine z_get (k := 17) (v := .ref (ad 18)) K dX1_daysLeft_64 fl_X1_11 rfl rfl rfl ?_
          refine z_bipush K dX1_daysLeft_67 (by decide +kernel) ?_
          refine z_iload K dX1_daysLeft_69 rfl ?_
          refine z_iadd K dX1_daysLeft_71 ?_
          refine z_iald (k := 18) (v := μ 18 (12 + o)) K dX1_daysLeft_72 (12 + o) rfl (by decide) (by omega) (by omega) rfl ?_
          refine z_ifne (tgt := 92) K dX1_daysLeft_73 (by decide) (by omega) (fun h73 => ?_) (fun h73 => ?_)
          · refine z_iincN (lv' := [(0, .ref (ad 17)), (1, .int (zi ((l : Nat) : Int))), (2, .int (zi (μ 14 l - μ 18 (6 + l) + (zcnt (μ 18) l o : Nat)))), (3, .int (zi (μ 18 l))), (4, .int (zi ((o + 1 : Nat) : Int)))]) K dX1_daysLeft_92 rfl (by decide) rfl ?_
            refine z_goto (tgt := 45) K dX1_daysLeft_95 (by decide) ?_
            have e9 : μ 14 l - μ 18 (6 + l) + (zcnt (μ 18) l o : Nat) = μ 14 l - μ 18 (6 + l) + (zcnt (μ 18) l (o + 1) : Nat) := by
              rw [zcnt_s]
              rw [if_neg (by omega)]
            rw [e9]
            exact ih (o + 1) (by omega) (by omega)
          · refine z_aload_n K dX1_daysLeft_76 rfl ?_
            refine z_get (k := 17) (v := .ref (ad 18)) K dX1_daysLeft_77 fl_X1_11 rfl rfl rfl ?_
            refine z_iconst K dX1_daysLeft_80 ?_
            refine z_iload K dX1_daysLeft_81 rfl ?_
            refine z_iadd K dX1_daysLeft_83 ?_
            refine z_iald (k := 18) (v := μ 18 o) K dX1_daysLeft_84 o rfl (by decide) (by omega) (by omega) rfl ?_
            refine z_iload_n K dX1_daysLeft_85 rfl ?_
            refine z_icmpne (tgt := 92) K dX1_daysLeft_86 (by decide) (by omega) (by omega) (fun h86 => ?_) (fun h86 => ?_)
            · refine z_iincN (lv' := [(0, .ref (ad 17)), (1, .int (zi ((l : Nat) : Int))), (2, .int (zi (μ 14 l - μ 18 (6 + l) + (zcnt (μ 18) l o : Nat)))), (3, .int (zi (μ 18 l))), (4, .int (zi ((o + 1 : Nat) : Int)))]) K dX1_daysLeft_92 rfl (by decide) rfl ?_
              refine z_goto (tgt := 45) K dX1_daysLeft_95 (by decide) ?_
              have e9 : μ 14 l - μ 18 (6 + l) + (zcnt (μ 18) l o : Nat) = μ 14 l - μ 18 (6 + l) + (zcnt (μ 18) l (o + 1) : Nat) := by
                rw [zcnt_s]
                rw [if_neg (by omega)]
              rw [e9]
              exact ih (o + 1) (by omega) (by omega)
            · refine z_iinc (lv' := [(0, .ref (ad 17)), (1, .int (zi ((l : Nat) : Int))), (2, .int (zi (μ 14 l - μ 18 (6 + l) + (zcnt (μ 18) l o : Nat) + (1 : Int)))), (3, .int (zi (μ 18 l))), (4, .int (zi ((o : Nat) : Int)))]) K dX1_daysLeft_89 rfl (by decide) rfl ?_
              refine z_iincN (lv' := [(0, .ref (ad 17)), (1, .int (zi ((l : Nat) : Int))), (2, .int (zi (μ 14 l - μ 18 (6 + l) + (zcnt (μ 18) l o : Nat) + (1 : Int)))), (3, .int (zi (μ 18 l))), (4, .int (zi ((o + 1 : Nat) : Int)))]) K dX1_daysLeft_92 rfl (by decide) rfl ?_
              refine z_goto (tgt := 45) K dX1_daysLeft_95 (by decide) ?_
              have e9 : μ 14 l - μ 18 (6 + l) + (zcnt (μ 18) l o : Nat) + (1 : Int) = μ 14 l - μ 18 (6 + l) + (zcnt (μ 18) l (o + 1) : Nat) := by
                rw [zcnt_s]
                rw [if_pos ⟨by omega, by omega, by omega⟩]; omega
              rw [e9]
              exact ih (o + 1) (by omega) (by omega)
    have e9 : (μ 14 l) - (μ 18 (6 + l)) = μ 14 l - μ 18 (6 + l) + (zcnt (μ 18) l 0 : Nat) := by unfold zcnt; omega
    rw [e9]
    exact L45 0 (by omega)
set_option maxHeartbeats 4000000 in
set_option maxRecDepth 100000 in
theorem ct_fateOf_n (la : Launch) (g0 : zG) (ad : Nat → Nat) (μ : zMem) (n nc : Nat) (hp : zPlan μ n nc) (hv : zHW n nc (μ 18)) (l : Nat) (hl : l < n) : zCon la g0 yX1_fateOf cX1_fateOf 2 (some .int) 0 ad zSH [.ref (ad 17), .int (zi ((l : Nat) : Int))] μ (zPd μ (μ 18 (12 + l))) := by
  refine zCon_of (by decide +kernel) (Nat.le_of_ble_eq_true rfl) ?_
  intro χ K T hl1 hg1
  have K : zOk χ cX1_fateOf RX1 2 0 (some .int) := K
  obtain ⟨hn, hn6, hnc, hnc3, hpl, hpk⟩ := id hp
  obtain ⟨hv1, hv2, hv3, hv4⟩ := id hv
  show zV χ 2 ad zSH 0 0 0 [(0, .ref (ad 17)), (1, .int (zi ((l : Nat) : Int)))] [] μ
  refine z_aload_n K dX1_fateOf_0 rfl ?_
  refine z_get (k := 17) (v := .ref (ad 18)) K dX1_fateOf_1 fl_X1_11 rfl rfl rfl ?_
  refine z_bipush K dX1_fateOf_4 (by decide +kernel) ?_
  refine z_iload_n K dX1_fateOf_6 rfl ?_
  refine z_iadd K dX1_fateOf_7 ?_
  refine z_iald (k := 18) (v := μ 18 (12 + l)) K dX1_fateOf_8 (12 + l) rfl (by decide) (by omega) (by omega) rfl ?_
  exact z_iretd K T rfl dX1_fateOf_9 rfl rfl
set_option maxHeartbeats 4000000 in
set_option maxRecDepth 100000 in
theorem ct_canPut_n (la : Launch) (g0 : zG) (ad : Nat → Nat) (μ : zMem) (n nc : Nat) (hp : zPlan μ n nc) (hv : zHW n nc (μ 18)) (x y : Int) (hx : zR x) (hy : zR y) : zCon la g0 yX1_canPut cX1_canPut 3 (some .boolean) 1 ad zSH [.ref (ad 17), .int (zi x), .int (zi y)] μ (zPd μ (if (0 ≤ x ∧ x < (n : Int)) ∧ (0 ≤ y ∧ y < 12) ∧ μ 18 (12 + x.toNat) = 0 ∧ μ 18 x.toNat ≠ y ∧ zpop (zin (μ 18) y n) < 2 then 1 else 0)) := by
  refine zCon_of (by decide +kernel) (Nat.le_of_ble_eq_true rfl) ?_
  intro χ K T hl1 hg1
  have K : zOk χ cX1_canPut RX1 3 1 (some .boolean) := K
  obtain ⟨hn, hn6, hnc, hnc3, hpl, hpk⟩ := id hp
  obtain ⟨hv1, hv2, hv3, hv4⟩ := id hv
  show zV χ 3 ad zSH 0 0 0 [(0, .ref (ad 17)), (1, .int (zi x)), (2, .int (zi y))] [] μ
  refine z_aload_n K dX1_canPut_0 rfl ?_
  refine z_get (k := 17) (v := .ref (ad 10)) K dX1_canPut_1 fl_X1_18 rfl rfl rfl ?_
  refine z_iload_n K dX1_canPut_4 rfl ?_
  refine z_callVd K hl1 hg1 (kb := 10) (As := [.int (zi x)]) (rest := []) (ct_hasLetter la g0 ad _ n nc hp x hx) (by decide) lk_X1_64 cd_X4_hasLetter rfl rfl rfl rfl (Nat.le_of_ble_eq_true rfl) dX1_canPut_5 ?_
  refine z_ifeq (tgt := 58) K dX1_canPut_8 (by decide) (by omega) (fun h8 => ?_) (fun h8 => ?_)
  · refine z_iconst K dX1_canPut_58 ?_
    exact z_zretd K T rfl dX1_canPut_59 (Or.inl rfl) (if_neg (by omega)).symm rfl
  · refine z_iload_n K dX1_canPut_11 rfl ?_
    refine z_callSd K hl1 hg1 (As := [.int (zi y)]) (rest := []) (ct_isHole la g0 ad _ y hy) (by decide) lk_X1_68 cd_X8_isHole rfl rfl (Nat.le_of_ble_eq_true rfl) dX1_canPut_12 ?_
    refine z_ifeq (tgt := 58) K dX1_canPut_15 (by decide) (by omega) (fun h15 => ?_) (fun h15 => ?_)
    · refine z_iconst K dX1_canPut_58 ?_
      exact z_zretd K T rfl dX1_canPut_59 (Or.inl rfl) (if_neg (by omega)).symm rfl
    · have hfl := hv1 x.toNat (by omega)
      refine z_aload_n K dX1_canPut_18 rfl ?_
      refine z_get (k := 17) (v := .ref (ad 18)) K dX1_canPut_19 fl_X1_11 rfl rfl rfl ?_
      refine z_bipush K dX1_canPut_22 (by decide +kernel) ?_
      refine z_iload_n K dX1_canPut_24 rfl ?_
      refine z_iadd K dX1_canPut_25 ?_
      refine z_iald (k := 18) (v := μ 18 (12 + x.toNat)) K dX1_canPut_26 (12 + x.toNat) rfl (by decide) (by omega) (by omega) rfl ?_
      refine z_ifne (tgt := 58) K dX1_canPut_27 (by decide) (by omega) (fun h27 => ?_) (fun h27 => ?_)
      · refine z_iconst K dX1_canPut_58 ?_
        exact z_zretd K T rfl dX1_canPut_59 (Or.inl rfl) (if_neg (by omega)).symm rfl
      · refine z_aload_n K dX1_canPut_30 rfl ?_
        refine z_get (k := 17) (v := .ref (ad 18)) K dX1_canPut_31 fl_X1_11 rfl rfl rfl ?_
        refine z_iconst K dX1_canPut_34 ?_
        refine z_iload_n K dX1_canPut_35 rfl ?_
        refine z_iadd K dX1_canPut_36 ?_
        refine z_iald (k := 18) (v := μ 18 x.toNat) K dX1_canPut_37 x.toNat rfl (by decide) (by omega) (by omega) rfl ?_
        refine z_iload_n K dX1_canPut_38 rfl ?_
        refine z_icmpeq (tgt := 58) K dX1_canPut_39 (by decide) (by omega) (by omega) (fun h39 => ?_) (fun h39 => ?_)
        · refine z_iconst K dX1_canPut_58 ?_
          exact z_zretd K T rfl dX1_canPut_59 (Or.inl rfl) (if_neg (by omega)).symm rfl
        · refine z_aload_n K dX1_canPut_42 rfl ?_
          refine z_iload_n K dX1_canPut_43 rfl ?_
          refine z_callVd K hl1 hg1 (kb := 17) (As := [.int (zi y)]) (rest := []) (ct_whoIsIn_n la g0 ad _ n nc hp hv y hy) (by decide) lk_X1_55 cd_X1_whoIsIn rfl rfl rfl rfl (Nat.le_of_ble_eq_true rfl) dX1_canPut_44 ?_
          refine z_callSd K hl1 hg1 (As := [.int (zi ((zin (μ 18) y n : Nat) : Int))]) (rest := []) (ct_bitCount la g0 ad _ (zin (μ 18) y n) (by first | exact z64 (zwho_lt _ _ _) hn6 | exact z64 (zin_lt _ _ _) hn6 | exact hb64)) (by decide) lk_X1_50 cd_J6_bitCount_0f7a4 rfl rfl (Nat.le_of_ble_eq_true rfl) dX1_canPut_47 ?_
          have hq6 := zpop_le (zin (μ 18) y n)
          refine z_iconst K dX1_canPut_50 ?_
          refine z_icmpge (tgt := 58) K dX1_canPut_51 (by decide) (by omega) ⟨by decide, by decide⟩ (fun h51 => ?_) (fun h51 => ?_)
          · refine z_iconst K dX1_canPut_58 ?_
            exact z_zretd K T rfl dX1_canPut_59 (Or.inl rfl) (if_neg (by omega)).symm rfl
          · refine z_iconst K dX1_canPut_54 ?_
            refine z_goto (tgt := 59) K dX1_canPut_55 (by decide) ?_
            exact z_zretd K T rfl dX1_canPut_59 (Or.inr rfl) (if_pos ⟨by omega, by omega, by omega, by omega, by omega⟩).symm rfl
set_option maxHeartbeats 4000000 in
set_option maxRecDepth 100000 in
theorem ct_canSend_n (la : Launch) (g0 : zG) (ad : Nat → Nat) (μ : zMem) (n nc : Nat) (hp : zPlan μ n nc) (hv : zHW n nc (μ 18)) (x y : Int) (hx : zR x) (hy : zR y) : zCon la g0 yX1_canSend cX1_canSend 3 (some .boolean) 1 ad zSH [.ref (ad 17), .int (zi x), .int (zi y)] μ (zPd μ (if (0 ≤ x ∧ x < (nc : Int)) ∧ (0 ≤ y ∧ y < 3) ∧ μ 18 (18 + x.toNat) ≠ y then 1 else 0)) := by
  refine zCon_of (by decide +kernel) (Nat.le_of_ble_eq_true rfl) ?_
  intro χ K T hl1 hg1
  have K : zOk χ cX1_canSend RX1 3 1 (some .boolean) := K
  obtain ⟨hn, hn6, hnc, hnc3, hpl, hpk⟩ := id hp
  obtain ⟨hv1, hv2, hv3, hv4⟩ := id hv
  show zV χ 3 ad zSH 0 0 0 [(0, .ref (ad 17)), (1, .int (zi x)), (2, .int (zi y))] [] μ
  refine z_aload_n K dX1_canSend_0 rfl ?_
  refine z_get (k := 17) (v := .ref (ad 10)) K dX1_canSend_1 fl_X1_18 rfl rfl rfl ?_
  refine z_iload_n K dX1_canSend_4 rfl ?_
  refine z_callVd K hl1 hg1 (kb := 10) (As := [.int (zi x)]) (rest := []) (ct_hasClerk la g0 ad _ n nc hp x hx) (by decide) lk_X1_71 cd_X4_hasClerk rfl rfl rfl rfl (Nat.le_of_ble_eq_true rfl) dX1_canSend_5 ?_
  refine z_ifeq (tgt := 35) K dX1_canSend_8 (by decide) (by omega) (fun h8 => ?_) (fun h8 => ?_)
  · refine z_iconst K dX1_canSend_35 ?_
    exact z_zretd K T rfl dX1_canSend_36 (Or.inl rfl) (if_neg (by omega)).symm rfl
  · refine z_iload_n K dX1_canSend_11 rfl ?_
    refine z_callSd K hl1 hg1 (As := [.int (zi y)]) (rest := []) (ct_isRow la g0 ad _ y hy) (by decide) lk_X1_74 cd_X8_isRow rfl rfl (Nat.le_of_ble_eq_true rfl) dX1_canSend_12 ?_
    refine z_ifeq (tgt := 35) K dX1_canSend_15 (by decide) (by omega) (fun h15 => ?_) (fun h15 => ?_)
    · refine z_iconst K dX1_canSend_35 ?_
      exact z_zretd K T rfl dX1_canSend_36 (Or.inl rfl) (if_neg (by omega)).symm rfl
    · have hfl := hv2 x.toNat (by omega)
      refine z_aload_n K dX1_canSend_18 rfl ?_
      refine z_get (k := 17) (v := .ref (ad 18)) K dX1_canSend_19 fl_X1_11 rfl rfl rfl ?_
      refine z_bipush K dX1_canSend_22 (by decide +kernel) ?_
      refine z_iload_n K dX1_canSend_24 rfl ?_
      refine z_iadd K dX1_canSend_25 ?_
      refine z_iald (k := 18) (v := μ 18 (18 + x.toNat)) K dX1_canSend_26 (18 + x.toNat) rfl (by decide) (by omega) (by omega) rfl ?_
      refine z_iload_n K dX1_canSend_27 rfl ?_
      refine z_icmpeq (tgt := 35) K dX1_canSend_28 (by decide) (by omega) (by omega) (fun h28 => ?_) (fun h28 => ?_)
      · refine z_iconst K dX1_canSend_35 ?_
        exact z_zretd K T rfl dX1_canSend_36 (Or.inl rfl) (if_neg (by omega)).symm rfl
      · refine z_iconst K dX1_canSend_31 ?_
        refine z_goto (tgt := 36) K dX1_canSend_32 (by decide) ?_
        exact z_zretd K T rfl dX1_canSend_36 (Or.inr rfl) (if_pos ⟨by omega, by omega, by omega⟩).symm rfl
set_option maxHeartbeats 4000000 in
set_option maxRecDepth 100000 in
/-- Hall.who -/
theorem ct_who_t (la : Launch) (g0 : zG) (ad : Nat → Nat) (μ : zMem) (n nc : Nat) (hp : zPlan μ n nc) (hv : zHW n nc (μ 26)) (f : Int) (hf : zR f) : zCon la g0 yX1_who cX1_who 4 (some .int) 0 ad zSH [.ref (ad 25), .int (zi f)] μ (zPd μ ((zwho (μ 26) f n : Nat) : Int)) := by
  refine zCon_of (by decide +kernel) (Nat.le_of_ble_eq_true rfl) ?_
  intro χ K T hl1 hg1
  have K : zOk χ cX1_who RX1 4 0 (some .int) := K
  obtain ⟨hn, hn6, hnc, hnc3, hpl, hpk⟩ := id hp
  obtain ⟨hv1, hv2, hv3, hv4⟩ := id hv
  show zV χ 4 ad zSH 0 0 0 [(0, .ref (ad 25)), (1, .int (zi f))] [] μ
  refine z_iconst K dX1_who_0 ?_
  refine z_istore_n (lv' := [(0, .ref (ad 25)), (1, .int (zi f)), (2, .int (zi (0 : Int)))]) K dX1_who_1 (by decide) rfl ?_
  refine z_iconst K dX1_who_2 ?_
  refine z_istore_n (lv' := [(0, .ref (ad 25)), (1, .int (zi f)), (2, .int (zi (0 : Int))), (3, .int (zi (0 : Int)))]) K dX1_who_3 (by decide) rfl ?_
  have L4 : ∀ l, l ≤ n → zV χ 4 ad zSH 0 0 4 [(0, .ref (ad 25)), (1, .int (zi f)), (2, .int (zi ((zwho (μ 26) f l : Nat) : Int))), (3, .int (zi ((l : Nat) : Int)))] [] μ := by
    refine zfor ?_
    intro l hl ih
    refine z_iload_n K dX1_who_4 rfl ?_
    refine z_aload_n K dX1_who_5 rfl ?_
    refine z_get (k := 25) (v := .ref (ad 10)) K dX1_who_6 fl_X1_18 rfl rfl rfl ?_
    refine z_get (k := 10) (v := .int (zi (μ 10 0))) K dX1_who_9 fl_X1_22 rfl rfl rfl ?_
    refine z_icmpge (tgt := 40) K dX1_who_12 (by decide) (by omega) (by omega) (fun h12 => ?_) (fun h12 => ?_)
    · refine z_iload_n K dX1_who_40 rfl ?_
      exact z_iretd K T rfl dX1_who_41 (by rw [show l = n by omega]) rfl
    · have hfl := hv1 l (by omega)
      refine z_aload_n K dX1_who_15 rfl ?_
      refine z_get (k := 25) (v := .ref (ad 26)) K dX1_who_16 fl_X1_11 rfl rfl rfl ?_
      refine z_bipush K dX1_who_19 (by decide +kernel) ?_
      refine z_iload_n K dX1_who_21 rfl ?_
      refine z_iadd K dX1_who_22 ?_
      refine z_iald (k := 26) (v := μ 26 (12 + l)) K dX1_who_23 (12 + l) rfl (by decide) (by omega) (by omega) rfl ?_
      refine z_iload_n K dX1_who_24 rfl ?_
      refine z_icmpne (tgt := 34) K dX1_who_25 (by decide) (by omega) (by omega) (fun h25 => ?_) (fun h25 => ?_)
      · refine z_iincN (lv' := [(0, .ref (ad 25)), (1, .int (zi f)), (2, .int (zi ((zwho (μ 26) f l : Nat) : Int))), (3, .int (zi ((l + 1 : Nat) : Int)))]) K dX1_who_34 rfl (by decide) rfl ?_
        refine z_goto (tgt := 4) K dX1_who_37 (by decide) ?_
        have e9 : zwho (μ 26) f l = zwho (μ 26) f (l + 1) := by simp [zwho, h25]
        rw [e9]
        exact ih (l + 1) (by omega) (by omega)
      · refine z_iload_n K dX1_who_28 rfl ?_
        refine z_iconst K dX1_who_29 ?_
        refine z_iload_n K dX1_who_30 rfl ?_
        refine z_ishlR (z := zi ((2 ^ l : Nat) : Int)) K dX1_who_31 (zb_shl l (by omega)) ?_
        refine z_iorR (z := zi ((zwho (μ 26) f l ||| 2 ^ l : Nat) : Int)) K dX1_who_32 (zb_or _ _) ?_
        refine z_istore_n (lv' := [(0, .ref (ad 25)), (1, .int (zi f)), (2, .int (zi ((zwho (μ 26) f l ||| 2 ^ l : Nat) : Int))), (3, .int (zi ((l : Nat) : Int)))]) K dX1_who_33 (by decide) rfl ?_
        refine z_iincN (lv' := [(0, .ref (ad 25)), (1, .int (zi f)), (2, .int (zi ((zwho (μ 26) f l ||| 2 ^ l : Nat) : Int))), (3, .int (zi ((l + 1 : Nat) : Int)))]) K dX1_who_34 rfl (by decide) rfl ?_
        refine z_goto (tgt := 4) K dX1_who_37 (by decide) ?_
        have e9 : zwho (μ 26) f l ||| 2 ^ l = zwho (μ 26) f (l + 1) := by simp [zwho, h25]
        rw [e9]
        exact ih (l + 1) (by omega) (by omega)
  exact L4 0 (by omega)
set_option maxHeartbeats 4000000 in
set_option maxRecDepth 100000 in
/-- Hall.whoIsIn -/
theorem ct_whoIsIn_t (la : Launch) (g0 : zG) (ad : Nat → Nat) (μ : zMem) (n nc : Nat) (hp : zPlan μ n nc) (hv : zHW n nc (μ 26)) (f : Int) (hf : zR f) : zCon la g0 yX1_whoIsIn cX1_whoIsIn 5 (some .int) 0 ad zSH [.ref (ad 25), .int (zi f)] μ (zPd μ ((zin (μ 26) f n : Nat) : Int)) := by
  refine zCon_of (by decide +kernel) (Nat.le_of_ble_eq_true rfl) ?_
  intro χ K T hl1 hg1
  have K : zOk χ cX1_whoIsIn RX1 5 0 (some .int) := K
  obtain ⟨hn, hn6, hnc, hnc3, hpl, hpk⟩ := id hp
  obtain ⟨hv1, hv2, hv3, hv4⟩ := id hv
  show zV χ 5 ad zSH 0 0 0 [(0, .ref (ad 25)), (1, .int (zi f))] [] μ
  refine z_iconst K dX1_whoIsIn_0 ?_
  refine z_istore_n (lv' := [(0, .ref (ad 25)), (1, .int (zi f)), (2, .int (zi (0 : Int)))]) K dX1_whoIsIn_1 (by decide) rfl ?_
  refine z_iconst K dX1_whoIsIn_2 ?_
  refine z_istore_n (lv' := [(0, .ref (ad 25)), (1, .int (zi f)), (2, .int (zi (0 : Int))), (3, .int (zi (0 : Int)))]) K dX1_whoIsIn_3 (by decide) rfl ?_
  have L4 : ∀ l, l ≤ n → zV χ 5 ad zSH 0 0 4 [(0, .ref (ad 25)), (1, .int (zi f)), (2, .int (zi ((zin (μ 26) f l : Nat) : Int))), (3, .int (zi ((l : Nat) : Int)))] [] μ := by
    refine zfor ?_
    intro l hl ih
    refine z_iload_n K dX1_whoIsIn_4 rfl ?_
    refine z_aload_n K dX1_whoIsIn_5 rfl ?_
    refine z_get (k := 25) (v := .ref (ad 10)) K dX1_whoIsIn_6 fl_X1_18 rfl rfl rfl ?_
    refine z_get (k := 10) (v := .int (zi (μ 10 0))) K dX1_whoIsIn_9 fl_X1_22 rfl rfl rfl ?_
    refine z_icmpge (tgt := 61) K dX1_whoIsIn_12 (by decide) (by omega) (by omega) (fun h12 => ?_) (fun h12 => ?_)
    · refine z_iload_n K dX1_whoIsIn_61 rfl ?_
      exact z_iretd K T rfl dX1_whoIsIn_62 (by rw [show l = n by omega]) rfl
    · have hfl := hv1 l (by omega)
      refine z_aload_n K dX1_whoIsIn_15 rfl ?_
      refine z_get (k := 25) (v := .ref (ad 26)) K dX1_whoIsIn_16 fl_X1_11 rfl rfl rfl ?_
      refine z_bipush K dX1_whoIsIn_19 (by decide +kernel) ?_
      refine z_iload_n K dX1_whoIsIn_21 rfl ?_
      refine z_iadd K dX1_whoIsIn_22 ?_
      refine z_iald (k := 26) (v := μ 26 (12 + l)) K dX1_whoIsIn_23 (12 + l) rfl (by decide) (by omega) (by omega) rfl ?_
      refine z_istore (lv' := [(0, .ref (ad 25)), (1, .int (zi f)), (2, .int (zi ((zin (μ 26) f l : Nat) : Int))), (3, .int (zi ((l : Nat) : Int))), (4, .int (zi (μ 26 (12 + l))))]) K dX1_whoIsIn_24 (by decide) rfl ?_
      refine z_aload_n K dX1_whoIsIn_26 rfl ?_
      refine z_get (k := 25) (v := .ref (ad 26)) K dX1_whoIsIn_27 fl_X1_11 rfl rfl rfl ?_
      refine z_iconst K dX1_whoIsIn_30 ?_
      refine z_iload_n K dX1_whoIsIn_31 rfl ?_
      refine z_iadd K dX1_whoIsIn_32 ?_
      refine z_iald (k := 26) (v := μ 26 l) K dX1_whoIsIn_33 l rfl (by decide) (by omega) (by omega) rfl ?_
      refine z_iload_n K dX1_whoIsIn_34 rfl ?_
      refine z_icmpne (tgt := 55) K dX1_whoIsIn_35 (by decide) (by omega) (by omega) (fun h35 => ?_) (fun h35 => ?_)
      · refine z_iincN (lv' := [(0, .ref (ad 25)), (1, .int (zi f)), (2, .int (zi ((zin (μ 26) f l : Nat) : Int))), (3, .int (zi ((l + 1 : Nat) : Int))), (4, .int (zi (μ 26 (12 + l))))]) K dX1_whoIsIn_55 rfl (by decide) rfl ?_
        refine z_goto (tgt := 4) K dX1_whoIsIn_58 (by decide) ?_
        refine z_ipick [0, 1, 2, 3] rfl ?_
        have e9 : zin (μ 26) f l = zin (μ 26) f (l + 1) := by
          rw [zin_s]
          rw [if_neg (by omega)]
        rw [e9]
        exact ih (l + 1) (by omega) (by omega)
      · refine z_iload K dX1_whoIsIn_38 rfl ?_
        refine z_ifeq (tgt := 49) K dX1_whoIsIn_40 (by decide) (by omega) (fun h40 => ?_) (fun h40 => ?_)
        · refine z_iload_n K dX1_whoIsIn_49 rfl ?_
          refine z_iconst K dX1_whoIsIn_50 ?_
          refine z_iload_n K dX1_whoIsIn_51 rfl ?_
          refine z_ishlR (z := zi ((2 ^ l : Nat) : Int)) K dX1_whoIsIn_52 (zb_shl l (by omega)) ?_
          refine z_iorR (z := zi ((zin (μ 26) f l ||| 2 ^ l : Nat) : Int)) K dX1_whoIsIn_53 (zb_or _ _) ?_
          refine z_istore_n (lv' := [(0, .ref (ad 25)), (1, .int (zi f)), (2, .int (zi ((zin (μ 26) f l ||| 2 ^ l : Nat) : Int))), (3, .int (zi ((l : Nat) : Int))), (4, .int (zi (μ 26 (12 + l))))]) K dX1_whoIsIn_54 (by decide) rfl ?_
          refine z_iincN (lv' := [(0, .ref (ad 25)), (1, .int (zi f)), (2, .int (zi ((zin (μ 26) f l ||| 2 ^ l : Nat) : Int))), (3, .int (zi ((l + 1 : Nat) : Int))), (4, .int (zi (μ 26 (12 + l))))]) K dX1_whoIsIn_55 rfl (by decide) rfl ?_
          refine z_goto (tgt := 4) K dX1_whoIsIn_58 (by decide) ?_
          refine z_ipick [0, 1, 2, 3] rfl ?_
          have e9 : zin (μ 26) f l ||| 2 ^ l = zin (μ 26) f (l + 1) := by
            rw [zin_s]
            rw [if_pos ⟨by omega, by omega⟩]
          rw [e9]
          exact ih (l + 1) (by omega) (by omega)
        · refine z_iload K dX1_whoIsIn_43 rfl ?_
          refine z_iconst K dX1_whoIsIn_45 ?_
          refine z_icmpne (tgt := 55) K dX1_whoIsIn_46 (by decide) (by omega) ⟨by decide, by decide⟩ (fun h46 => ?_) (fun h46 => ?_)
          · refine z_iincN (lv' := [(0, .ref (ad 25)), (1, .int (zi f)), (2, .int (zi ((zin (μ 26) f l : Nat) : Int))), (3, .int (zi ((l + 1 : Nat) : Int))), (4, .int (zi (μ 26 (12 + l))))]) K dX1_whoIsIn_55 rfl (by decide) rfl ?_
            refine z_goto (tgt := 4) K dX1_whoIsIn_58 (by decide) ?_
            refine z_ipick [0, 1, 2, 3] rfl ?_
            have e9 : zin (μ 26) f l = zin (μ 26) f (l + 1) := by
              rw [zin_s]
              rw [if_neg (by omega)]
            rw [e9]
            exact ih (l + 1) (by omega) (by omega)
          · refine z_iload_n K dX1_whoIsIn_49 rfl ?_
            refine z_iconst K dX1_whoIsIn_50 ?_
            refine z_iload_n K dX1_whoIsIn_51 rfl ?_
            refine z_ishlR (z := zi ((2 ^ l : Nat) : Int)) K dX1_whoIsIn_52 (zb_shl l (by omega)) ?_
            refine z_iorR (z := zi ((zin (μ 26) f l ||| 2 ^ l : Nat) : Int)) K dX1_whoIsIn_53 (zb_or _ _) ?_
            refine z_istore_n (lv' := [(0, .ref (ad 25)), (1, .int (zi f)), (2, .int (zi ((zin (μ 26) f l ||| 2 ^ l : Nat) : Int))), (3, .int (zi ((l : Nat) : Int))), (4, .int (zi (μ 26 (12 + l))))]) K dX1_whoIsIn_54 (by decide) rfl ?_
            refine z_iincN (lv' := [(0, .ref (ad 25)), (1, .int (zi f)), (2, .int (zi ((zin (μ 26) f l ||| 2 ^ l : Nat) : Int))), (3, .int (zi ((l + 1 : Nat) : Int))), (4, .int (zi (μ 26 (12 + l))))]) K dX1_whoIsIn_55 rfl (by decide) rfl ?_
            refine z_goto (tgt := 4) K dX1_whoIsIn_58 (by decide) ?_
            refine z_ipick [0, 1, 2, 3] rfl ?_
            have e9 : zin (μ 26) f l ||| 2 ^ l = zin (μ 26) f (l + 1) := by
              rw [zin_s]
              rw [if_pos ⟨by omega, by omega⟩]
            rw [e9]
            exact ih (l + 1) (by omega) (by omega)
  exact L4 0 (by omega)
set_option maxHeartbeats 4000000 in
set_option maxRecDepth 100000 in
theorem ct_lost_t (la : Launch) (g0 : zG) (ad : Nat → Nat) (μ : zMem) (n nc : Nat) (hp : zPlan μ n nc) (hv : zHW n nc (μ 26)) : zCon la g0 yX1_lost cX1_lost 1 (some .int) 1 ad zSH [.ref (ad 25)] μ (zPd μ ((zpop (zwho (μ 26) 2 n ||| zwho (μ 26) 3 n) : Nat) : Int)) := by
  refine zCon_of (by decide +kernel) (Nat.le_of_ble_eq_true rfl) ?_
  intro χ K T hl1 hg1
  have K : zOk χ cX1_lost RX1 1 1 (some .int) := K
  obtain ⟨hn, hn6, hnc, hnc3, hpl, hpk⟩ := id hp
  obtain ⟨hv1, hv2, hv3, hv4⟩ := id hv
  show zV χ 1 ad zSH 0 0 0 [(0, .ref (ad 25))] [] μ
  refine z_aload_n K dX1_lost_0 rfl ?_
  refine z_iconst K dX1_lost_1 ?_
  refine z_callVd K hl1 hg1 (kb := 25) (As := [.int (zi (2 : Int))]) (rest := []) (ct_who_t la g0 ad _ n nc hp hv 2 ⟨by decide, by decide⟩) (by decide) lk_X1_46 cd_X1_who rfl rfl rfl rfl (Nat.le_of_ble_eq_true rfl) dX1_lost_2 ?_
  refine z_aload_n K dX1_lost_5 rfl ?_
  refine z_iconst K dX1_lost_6 ?_
  refine z_callVd K hl1 hg1 (kb := 25) (As := [.int (zi (3 : Int))]) (rest := [.int (zi ((zwho (μ 26) 2 n : Nat) : Int))]) (ct_who_t la g0 ad _ n nc hp hv 3 ⟨by decide, by decide⟩) (by decide) lk_X1_46 cd_X1_who rfl rfl rfl rfl (Nat.le_of_ble_eq_true rfl) dX1_lost_7 ?_
  refine z_iorR (z := zi ((zwho (μ 26) 2 n ||| zwho (μ 26) 3 n : Nat) : Int)) K dX1_lost_10 (zb_or _ _) ?_
  have hb64 : zwho (μ 26) 2 n ||| zwho (μ 26) 3 n < 64 := Nat.or_lt_two_pow (n := 6) (z64 (zwho_lt _ _ _) hn6) (z64 (zwho_lt _ _ _) hn6)
  refine z_callSd K hl1 hg1 (As := [.int (zi ((zwho (μ 26) 2 n ||| zwho (μ 26) 3 n : Nat) : Int))]) (rest := []) (ct_bitCount la g0 ad _ (zwho (μ 26) 2 n ||| zwho (μ 26) 3 n) (by first | exact z64 (zwho_lt _ _ _) hn6 | exact z64 (zin_lt _ _ _) hn6 | exact hb64)) (by decide) lk_X1_50 cd_J6_bitCount_0f7a4 rfl rfl (Nat.le_of_ble_eq_true rfl) dX1_lost_11 ?_
  exact z_iretd K T rfl dX1_lost_14 rfl rfl
set_option maxHeartbeats 4000000 in
set_option maxRecDepth 100000 in
theorem ct_daysLeft_t (la : Launch) (g0 : zG) (ad : Nat → Nat) (μ : zMem) (n nc : Nat) (hp : zPlan μ n nc) (hv : zHW n nc (μ 26)) (l : Nat) (hl : l < n) : zCon la g0 yX1_daysLeft cX1_daysLeft 5 (some .int) 0 ad zSH [.ref (ad 25), .int (zi ((l : Nat) : Int))] μ (zPd μ (zdl n (μ 13) (μ 14) (μ 26) l)) := by
  refine zCon_of (by decide +kernel) (Nat.le_of_ble_eq_true rfl) ?_
  intro χ K T hl1 hg1
  have K : zOk χ cX1_daysLeft RX1 5 0 (some .int) := K
  obtain ⟨hn, hn6, hnc, hnc3, hpl, hpk⟩ := id hp
  obtain ⟨hv1, hv2, hv3, hv4⟩ := id hv
  have hpp := hpl l hl
  have hvv := hv1 l hl
  show zV χ 5 ad zSH 0 0 0 [(0, .ref (ad 25)), (1, .int (zi ((l : Nat) : Int)))] [] μ
  refine z_aload_n K dX1_daysLeft_0 rfl ?_
  refine z_get (k := 25) (v := .ref (ad 10)) K dX1_daysLeft_1 fl_X1_18 rfl rfl rfl ?_
  refine z_get (k := 10) (v := .ref (ad 14)) K dX1_daysLeft_4 fl_X1_58 rfl rfl rfl ?_
  refine z_iload_n K dX1_daysLeft_7 rfl ?_
  refine z_iald (k := 14) (v := μ 14 l) K dX1_daysLeft_8 l rfl (by decide) (by omega) (by omega) rfl ?_
  refine z_aload_n K dX1_daysLeft_9 rfl ?_
  refine z_get (k := 25) (v := .ref (ad 26)) K dX1_daysLeft_10 fl_X1_11 rfl rfl rfl ?_
  refine z_bipush K dX1_daysLeft_13 (by decide +kernel) ?_
  refine z_iload_n K dX1_daysLeft_15 rfl ?_
  refine z_iadd K dX1_daysLeft_16 ?_
  refine z_iald (k := 26) (v := μ 26 (6 + l)) K dX1_daysLeft_17 (6 + l) rfl (by decide) (by omega) (by omega) rfl ?_
  refine z_isub K dX1_daysLeft_18 ?_
  refine z_istore_n (lv' := [(0, .ref (ad 25)), (1, .int (zi ((l : Nat) : Int))), (2, .int (zi ((μ 14 l) - (μ 26 (6 + l)))))]) K dX1_daysLeft_19 (by decide) rfl ?_
  refine z_aload_n K dX1_daysLeft_20 rfl ?_
  refine z_get (k := 25) (v := .ref (ad 10)) K dX1_daysLeft_21 fl_X1_18 rfl rfl rfl ?_
  refine z_get (k := 10) (v := .ref (ad 13)) K dX1_daysLeft_24 fl_X1_61 rfl rfl rfl ?_
  refine z_iload_n K dX1_daysLeft_27 rfl ?_
  refine z_iald (k := 13) (v := μ 13 l) K dX1_daysLeft_28 l rfl (by decide) (by omega) (by omega) rfl ?_
  refine z_iconst K dX1_daysLeft_29 ?_
  refine z_icmpne (tgt := 98) K dX1_daysLeft_30 (by decide) (by omega) ⟨by decide, by decide⟩ (fun h30 => ?_) (fun h30 => ?_)
  · refine z_iload_n K dX1_daysLeft_98 rfl ?_
    refine z_ifge (tgt := 106) K dX1_daysLeft_99 (by decide) (by omega) (fun h99 => ?_) (fun h99 => ?_)
    · refine z_iload_n K dX1_daysLeft_106 rfl ?_
      exact z_iretd K T rfl dX1_daysLeft_107 (by
          unfold zdl
          rw [if_neg h30]
          omega) rfl
    · refine z_iconst K dX1_daysLeft_102 ?_
      refine z_goto (tgt := 107) K dX1_daysLeft_103 (by decide) ?_
      exact z_iretd K T rfl dX1_daysLeft_107 (by
          unfold zdl
          rw [if_neg h30]
          omega) rfl
  · refine z_aload_n K dX1_daysLeft_33 rfl ?_
    refine z_get (k := 25) (v := .ref (ad 26)) K dX1_daysLeft_34 fl_X1_11 rfl rfl rfl ?_
    refine z_iconst K dX1_daysLeft_37 ?_
    refine z_iload_n K dX1_daysLeft_38 rfl ?_
    refine z_iadd K dX1_daysLeft_39 ?_
    refine z_iald (k := 26) (v := μ 26 l) K dX1_daysLeft_40 l rfl (by decide) (by omega) (by omega) rfl ?_
    refine z_istore_n (lv' := [(0, .ref (ad 25)), (1, .int (zi ((l : Nat) : Int))), (2, .int (zi ((μ 14 l) - (μ 26 (6 + l))))), (3, .int (zi (μ 26 l)))]) K dX1_daysLeft_41 (by decide) rfl ?_
    refine z_iconst K dX1_daysLeft_42 ?_
    refine z_istore (lv' := [(0, .ref (ad 25)), (1, .int (zi ((l : Nat) : Int))), (2, .int (zi ((μ 14 l) - (μ 26 (6 + l))))), (3, .int (zi (μ 26 l))), (4, .int (zi (0 : Int)))]) K dX1_daysLeft_43 (by decide) rfl ?_
    have L45 : ∀ o, o ≤ n → zV χ 5 ad zSH 0 0 45 [(0, .ref (ad 25)), (1, .int (zi ((l : Nat) : Int))), (2, .int (zi (μ 14 l - μ 26 (6 + l) + (zcnt (μ 26) l o : Nat)))), (3, .int (zi (μ 26 l))), (4, .int (zi ((o : Nat) : Int)))] [] μ := by
      refine zfor ?_
      intro o ho ih
      refine z_iload K dX1_daysLeft_45 rfl ?_
      refine z_aload_n K dX1_daysLeft_47 rfl ?_
      refine z_get (k := 25) (v := .ref (ad 10)) K dX1_daysLeft_48 fl_X1_18 rfl rfl rfl ?_
      refine z_get (k := 10) (v := .int (zi (μ 10 0))) K dX1_daysLeft_51 fl_X1_22 rfl rfl rfl ?_
      refine z_icmpge (tgt := 98) K dX1_daysLeft_54 (by decide) (by omega) (by omega) (fun h54 => ?_) (fun h54 => ?_)
      · have hcn := zcnt_le (μ 26) l o
        refine z_iload_n K dX1_daysLeft_98 rfl ?_
        refine z_ifge (tgt := 106) K dX1_daysLeft_99 (by decide) (by omega) (fun h99 => ?_) (fun h99 => ?_)
        · refine z_iload_n K dX1_daysLeft_106 rfl ?_
          exact z_iretd K T rfl dX1_daysLeft_107 (by
              unfold zdl
              rw [if_pos h30, show n = o by omega]
              omega) rfl
        · refine z_iconst K dX1_daysLeft_102 ?_
          refine z_goto (tgt := 107) K dX1_daysLeft_103 (by decide) ?_
          exact z_iretd K T rfl dX1_daysLeft_107 (by
              unfold zdl
              rw [if_pos h30, show n = o by omega]
              omega) rfl
      · have hfo := hv1 o (by omega)
        have hcn := zcnt_le (μ 26) l o
        refine z_iload K dX1_daysLeft_57 rfl ?_
        refine z_iload_n K dX1_daysLeft_59 rfl ?_
        refine z_icmpeq (tgt := 92) K dX1_daysLeft_60 (by decide) (by omega) (by omega) (fun h60 => ?_) (fun h60 => ?_)
        · refine z_iincN (lv' := [(0, .ref (ad 25)), (1, .int (zi ((l : Nat) : Int))), (2, .int (zi (μ 14 l - μ 26 (6 + l) + (zcnt (μ 26) l o : Nat)))), (3, .int (zi (μ 26 l))), (4, .int (zi ((o + 1 : Nat) : Int)))]) K dX1_daysLeft_92 rfl (by decide) rfl ?_
          refine z_goto (tgt := 45) K dX1_daysLeft_95 (by decide) ?_
          have e9 : μ 14 l - μ 26 (6 + l) + (zcnt (μ 26) l o : Nat) = μ 14 l - μ 26 (6 + l) + (zcnt (μ 26) l (o + 1) : Nat) := by
            rw [zcnt_s]
            rw [if_neg (by omega)]
          rw [e9]
          exact ih (o + 1) (by omega) (by omega)
        · refine z_aload_n K dX1_daysLeft_63 rfl ?_
          refine z_get (k := 25) (v := .ref (ad 26)) K dX1_daysLeft_64 fl_X1_11 rfl rfl rfl ?_
          refine z_bipush K dX1_daysLeft_67 (by decide +kernel) ?_
          refine z_iload K dX1_daysLeft_69 rfl ?_
          refine z_iadd K dX1_daysLeft_71 ?_
          refine z_iald (k := 26) (v := μ 26 (12 + o)) K dX1_daysLeft_72 (12 + o) rfl (by decide) (by omega) (by omega) rfl ?_
          refine z_ifne (tgt := 92) K dX1_daysLeft_73 (by decide) (by omega) (fun h73 => ?_) (fun h73 => ?_)
          · refine z_iincN (lv' := [(0, .ref (ad 25)), (1, .int (zi ((l : Nat) : Int))), (2, .int (zi (μ 14 l - μ 26 (6 + l) + (zcnt (μ 26) l o : Nat)))), (3, .int (zi (μ 26 l))), (4, .int (zi ((o + 1 : Nat) : Int)))]) K dX1_daysLeft_92 rfl (by decide) rfl ?_
            refine z_goto (tgt := 45) K dX1_daysLeft_95 (by decide) ?_
            have e9 : μ 14 l - μ 26 (6 + l) + (zcnt (μ 26) l o : Nat) = μ 14 l - μ 26 (6 + l) + (zcnt (μ 26) l (o + 1) : Nat) := by
              rw [zcnt_s]
              rw [if_neg (by omega)]
            rw [e9]
            exact ih (o + 1) (by omega) (by omega)
          · refine z_aload_n K dX1_daysLeft_76 rfl ?_
            refine z_get (k := 25) (v := .ref (ad 26)) K dX1_daysLeft_77 fl_X1_11 rfl rfl rfl ?_
            refine z_iconst K dX1_daysLeft_80 ?_
            refine z_iload K dX1_daysLeft_81 rfl ?_
            refine z_iadd K dX1_daysLeft_83 ?_
            refine z_iald (k := 26) (v := μ 26 o) K dX1_daysLeft_84 o rfl (by decide) (by omega) (by omega) rfl ?_
            refine z_iload_n K dX1_daysLeft_85 rfl ?_
            refine z_icmpne (tgt := 92) K dX1_daysLeft_86 (by decide) (by omega) (by omega) (fun h86 => ?_) (fun h86 => ?_)
            · refine z_iincN (lv' := [(0, .ref (ad 25)), (1, .int (zi ((l : Nat) : Int))), (2, .int (zi (μ 14 l - μ 26 (6 + l) + (zcnt (μ 26) l o : Nat)))), (3, .int (zi (μ 26 l))), (4, .int (zi ((o + 1 : Nat) : Int)))]) K dX1_daysLeft_92 rfl (by decide) rfl ?_
              refine z_goto (tgt := 45) K dX1_daysLeft_95 (by decide) ?_
              have e9 : μ 14 l - μ 26 (6 + l) + (zcnt (μ 26) l o : Nat) = μ 14 l - μ 26 (6 + l) + (zcnt (μ 26) l (o + 1) : Nat) := by
                rw [zcnt_s]
                rw [if_neg (by omega)]
              rw [e9]
              exact ih (o + 1) (by omega) (by omega)
            · refine z_iinc (lv' := [(0, .ref (ad 25)), (1, .int (zi ((l : Nat) : Int))), (2, .int (zi (μ 14 l - μ 26 (6 + l) + (zcnt (μ 26) l o : Nat) + (1 : Int)))), (3, .int (zi (μ 26 l))), (4, .int (zi ((o : Nat) : Int)))]) K dX1_daysLeft_89 rfl (by decide) rfl ?_
              refine z_iincN (lv' := [(0, .ref (ad 25)), (1, .int (zi ((l : Nat) : Int))), (2, .int (zi (μ 14 l - μ 26 (6 + l) + (zcnt (μ 26) l o : Nat) + (1 : Int)))), (3, .int (zi (μ 26 l))), (4, .int (zi ((o + 1 : Nat) : Int)))]) K dX1_daysLeft_92 rfl (by decide) rfl ?_
              refine z_goto (tgt := 45) K dX1_daysLeft_95 (by decide) ?_
              have e9 : μ 14 l - μ 26 (6 + l) + (zcnt (μ 26) l o : Nat) + (1 : Int) = μ 14 l - μ 26 (6 + l) + (zcnt (μ 26) l (o + 1) : Nat) := by
                rw [zcnt_s]
                rw [if_pos ⟨by omega, by omega, by omega⟩]; omega
              rw [e9]
              exact ih (o + 1) (by omega) (by omega)
    have e9 : (μ 14 l) - (μ 26 (6 + l)) = μ 14 l - μ 26 (6 + l) + (zcnt (μ 26) l 0 : Nat) := by unfold zcnt; omega
    rw [e9]
    exact L45 0 (by omega)
set_option maxHeartbeats 4000000 in
set_option maxRecDepth 100000 in
theorem ct_fateOf_t (la : Launch) (g0 : zG) (ad : Nat → Nat) (μ : zMem) (n nc : Nat) (hp : zPlan μ n nc) (hv : zHW n nc (μ 26)) (l : Nat) (hl : l < n) : zCon la g0 yX1_fateOf cX1_fateOf 2 (some .int) 0 ad zSH [.ref (ad 25), .int (zi ((l : Nat) : Int))] μ (zPd μ (μ 26 (12 + l))) := by
  refine zCon_of (by decide +kernel) (Nat.le_of_ble_eq_true rfl) ?_
  intro χ K T hl1 hg1
  have K : zOk χ cX1_fateOf RX1 2 0 (some .int) := K
  obtain ⟨hn, hn6, hnc, hnc3, hpl, hpk⟩ := id hp
  obtain ⟨hv1, hv2, hv3, hv4⟩ := id hv
  show zV χ 2 ad zSH 0 0 0 [(0, .ref (ad 25)), (1, .int (zi ((l : Nat) : Int)))] [] μ
  refine z_aload_n K dX1_fateOf_0 rfl ?_
  refine z_get (k := 25) (v := .ref (ad 26)) K dX1_fateOf_1 fl_X1_11 rfl rfl rfl ?_
  refine z_bipush K dX1_fateOf_4 (by decide +kernel) ?_
  refine z_iload_n K dX1_fateOf_6 rfl ?_
  refine z_iadd K dX1_fateOf_7 ?_
  refine z_iald (k := 26) (v := μ 26 (12 + l)) K dX1_fateOf_8 (12 + l) rfl (by decide) (by omega) (by omega) rfl ?_
  exact z_iretd K T rfl dX1_fateOf_9 rfl rfl
set_option maxHeartbeats 4000000 in
set_option maxRecDepth 100000 in
theorem ct_canPut_t (la : Launch) (g0 : zG) (ad : Nat → Nat) (μ : zMem) (n nc : Nat) (hp : zPlan μ n nc) (hv : zHW n nc (μ 26)) (x y : Int) (hx : zR x) (hy : zR y) : zCon la g0 yX1_canPut cX1_canPut 3 (some .boolean) 1 ad zSH [.ref (ad 25), .int (zi x), .int (zi y)] μ (zPd μ (if (0 ≤ x ∧ x < (n : Int)) ∧ (0 ≤ y ∧ y < 12) ∧ μ 26 (12 + x.toNat) = 0 ∧ μ 26 x.toNat ≠ y ∧ zpop (zin (μ 26) y n) < 2 then 1 else 0)) := by
  refine zCon_of (by decide +kernel) (Nat.le_of_ble_eq_true rfl) ?_
  intro χ K T hl1 hg1
  have K : zOk χ cX1_canPut RX1 3 1 (some .boolean) := K
  obtain ⟨hn, hn6, hnc, hnc3, hpl, hpk⟩ := id hp
  obtain ⟨hv1, hv2, hv3, hv4⟩ := id hv
  show zV χ 3 ad zSH 0 0 0 [(0, .ref (ad 25)), (1, .int (zi x)), (2, .int (zi y))] [] μ
  refine z_aload_n K dX1_canPut_0 rfl ?_
  refine z_get (k := 25) (v := .ref (ad 10)) K dX1_canPut_1 fl_X1_18 rfl rfl rfl ?_
  refine z_iload_n K dX1_canPut_4 rfl ?_
  refine z_callVd K hl1 hg1 (kb := 10) (As := [.int (zi x)]) (rest := []) (ct_hasLetter la g0 ad _ n nc hp x hx) (by decide) lk_X1_64 cd_X4_hasLetter rfl rfl rfl rfl (Nat.le_of_ble_eq_true rfl) dX1_canPut_5 ?_
  refine z_ifeq (tgt := 58) K dX1_canPut_8 (by decide) (by omega) (fun h8 => ?_) (fun h8 => ?_)
  · refine z_iconst K dX1_canPut_58 ?_
    exact z_zretd K T rfl dX1_canPut_59 (Or.inl rfl) (if_neg (by omega)).symm rfl
  · refine z_iload_n K dX1_canPut_11 rfl ?_
    refine z_callSd K hl1 hg1 (As := [.int (zi y)]) (rest := []) (ct_isHole la g0 ad _ y hy) (by decide) lk_X1_68 cd_X8_isHole rfl rfl (Nat.le_of_ble_eq_true rfl) dX1_canPut_12 ?_
    refine z_ifeq (tgt := 58) K dX1_canPut_15 (by decide) (by omega) (fun h15 => ?_) (fun h15 => ?_)
    · refine z_iconst K dX1_canPut_58 ?_
      exact z_zretd K T rfl dX1_canPut_59 (Or.inl rfl) (if_neg (by omega)).symm rfl
    · have hfl := hv1 x.toNat (by omega)
      refine z_aload_n K dX1_canPut_18 rfl ?_
      refine z_get (k := 25) (v := .ref (ad 26)) K dX1_canPut_19 fl_X1_11 rfl rfl rfl ?_
      refine z_bipush K dX1_canPut_22 (by decide +kernel) ?_
      refine z_iload_n K dX1_canPut_24 rfl ?_
      refine z_iadd K dX1_canPut_25 ?_
      refine z_iald (k := 26) (v := μ 26 (12 + x.toNat)) K dX1_canPut_26 (12 + x.toNat) rfl (by decide) (by omega) (by omega) rfl ?_
      refine z_ifne (tgt := 58) K dX1_canPut_27 (by decide) (by omega) (fun h27 => ?_) (fun h27 => ?_)
      · refine z_iconst K dX1_canPut_58 ?_
        exact z_zretd K T rfl dX1_canPut_59 (Or.inl rfl) (if_neg (by omega)).symm rfl
      · refine z_aload_n K dX1_canPut_30 rfl ?_
        refine z_get (k := 25) (v := .ref (ad 26)) K dX1_canPut_31 fl_X1_11 rfl rfl rfl ?_
        refine z_iconst K dX1_canPut_34 ?_
        refine z_iload_n K dX1_canPut_35 rfl ?_
        refine z_iadd K dX1_canPut_36 ?_
        refine z_iald (k := 26) (v := μ 26 x.toNat) K dX1_canPut_37 x.toNat rfl (by decide) (by omega) (by omega) rfl ?_
        refine z_iload_n K dX1_canPut_38 rfl ?_
        refine z_icmpeq (tgt := 58) K dX1_canPut_39 (by decide) (by omega) (by omega) (fun h39 => ?_) (fun h39 => ?_)
        · refine z_iconst K dX1_canPut_58 ?_
          exact z_zretd K T rfl dX1_canPut_59 (Or.inl rfl) (if_neg (by omega)).symm rfl
        · refine z_aload_n K dX1_canPut_42 rfl ?_
          refine z_iload_n K dX1_canPut_43 rfl ?_
          refine z_callVd K hl1 hg1 (kb := 25) (As := [.int (zi y)]) (rest := []) (ct_whoIsIn_t la g0 ad _ n nc hp hv y hy) (by decide) lk_X1_55 cd_X1_whoIsIn rfl rfl rfl rfl (Nat.le_of_ble_eq_true rfl) dX1_canPut_44 ?_
          refine z_callSd K hl1 hg1 (As := [.int (zi ((zin (μ 26) y n : Nat) : Int))]) (rest := []) (ct_bitCount la g0 ad _ (zin (μ 26) y n) (by first | exact z64 (zwho_lt _ _ _) hn6 | exact z64 (zin_lt _ _ _) hn6 | exact hb64)) (by decide) lk_X1_50 cd_J6_bitCount_0f7a4 rfl rfl (Nat.le_of_ble_eq_true rfl) dX1_canPut_47 ?_
          have hq6 := zpop_le (zin (μ 26) y n)
          refine z_iconst K dX1_canPut_50 ?_
          refine z_icmpge (tgt := 58) K dX1_canPut_51 (by decide) (by omega) ⟨by decide, by decide⟩ (fun h51 => ?_) (fun h51 => ?_)
          · refine z_iconst K dX1_canPut_58 ?_
            exact z_zretd K T rfl dX1_canPut_59 (Or.inl rfl) (if_neg (by omega)).symm rfl
          · refine z_iconst K dX1_canPut_54 ?_
            refine z_goto (tgt := 59) K dX1_canPut_55 (by decide) ?_
            exact z_zretd K T rfl dX1_canPut_59 (Or.inr rfl) (if_pos ⟨by omega, by omega, by omega, by omega, by omega⟩).symm rfl
set_option maxHeartbeats 4000000 in
set_option maxRecDepth 100000 in
theorem ct_canSend_t (la : Launch) (g0 : zG) (ad : Nat → Nat) (μ : zMem) (n nc : Nat) (hp : zPlan μ n nc) (hv : zHW n nc (μ 26)) (x y : Int) (hx : zR x) (hy : zR y) : zCon la g0 yX1_canSend cX1_canSend 3 (some .boolean) 1 ad zSH [.ref (ad 25), .int (zi x), .int (zi y)] μ (zPd μ (if (0 ≤ x ∧ x < (nc : Int)) ∧ (0 ≤ y ∧ y < 3) ∧ μ 26 (18 + x.toNat) ≠ y then 1 else 0)) := by
  refine zCon_of (by decide +kernel) (Nat.le_of_ble_eq_true rfl) ?_
  intro χ K T hl1 hg1
  have K : zOk χ cX1_canSend RX1 3 1 (some .boolean) := K
  obtain ⟨hn, hn6, hnc, hnc3, hpl, hpk⟩ := id hp
  obtain ⟨hv1, hv2, hv3, hv4⟩ := id hv
  show zV χ 3 ad zSH 0 0 0 [(0, .ref (ad 25)), (1, .int (zi x)), (2, .int (zi y))] [] μ
  refine z_aload_n K dX1_canSend_0 rfl ?_
  refine z_get (k := 25) (v := .ref (ad 10)) K dX1_canSend_1 fl_X1_18 rfl rfl rfl ?_
  refine z_iload_n K dX1_canSend_4 rfl ?_
  refine z_callVd K hl1 hg1 (kb := 10) (As := [.int (zi x)]) (rest := []) (ct_hasClerk la g0 ad _ n nc hp x hx) (by decide) lk_X1_71 cd_X4_hasClerk rfl rfl rfl rfl (Nat.le_of_ble_eq_true rfl) dX1_canSend_5 ?_
  refine z_ifeq (tgt := 35) K dX1_canSend_8 (by decide) (by omega) (fun h8 => ?_) (fun h8 => ?_)
  · refine z_iconst K dX1_canSend_35 ?_
    exact z_zretd K T rfl dX1_canSend_36 (Or.inl rfl) (if_neg (by omega)).symm rfl
  · refine z_iload_n K dX1_canSend_11 rfl ?_
    refine z_callSd K hl1 hg1 (As := [.int (zi y)]) (rest := []) (ct_isRow la g0 ad _ y hy) (by decide) lk_X1_74 cd_X8_isRow rfl rfl (Nat.le_of_ble_eq_true rfl) dX1_canSend_12 ?_
    refine z_ifeq (tgt := 35) K dX1_canSend_15 (by decide) (by omega) (fun h15 => ?_) (fun h15 => ?_)
    · refine z_iconst K dX1_canSend_35 ?_
      exact z_zretd K T rfl dX1_canSend_36 (Or.inl rfl) (if_neg (by omega)).symm rfl
    · have hfl := hv2 x.toNat (by omega)
      refine z_aload_n K dX1_canSend_18 rfl ?_
      refine z_get (k := 25) (v := .ref (ad 26)) K dX1_canSend_19 fl_X1_11 rfl rfl rfl ?_
      refine z_bipush K dX1_canSend_22 (by decide +kernel) ?_
      refine z_iload_n K dX1_canSend_24 rfl ?_
      refine z_iadd K dX1_canSend_25 ?_
      refine z_iald (k := 26) (v := μ 26 (18 + x.toNat)) K dX1_canSend_26 (18 + x.toNat) rfl (by decide) (by omega) (by omega) rfl ?_
      refine z_iload_n K dX1_canSend_27 rfl ?_
      refine z_icmpeq (tgt := 35) K dX1_canSend_28 (by decide) (by omega) (by omega) (fun h28 => ?_) (fun h28 => ?_)
      · refine z_iconst K dX1_canSend_35 ?_
        exact z_zretd K T rfl dX1_canSend_36 (Or.inl rfl) (if_neg (by omega)).symm rfl
      · refine z_iconst K dX1_canSend_31 ?_
        refine z_goto (tgt := 36) K dX1_canSend_32 (by decide) ?_
        exact z_zretd K T rfl dX1_canSend_36 (Or.inr rfl) (if_pos ⟨by omega, by omega, by omega⟩).symm rfl
set_option maxHeartbeats 4000000 in
set_option maxRecDepth 100000 in
theorem ct_holeOf (la : Launch) (g0 : zG) (ad : Nat → Nat) (μ : zMem) (n nc : Nat) (hp : zPlan μ n nc) (hv : zHW n nc (μ 18)) (l : Nat) (hl : l < n) : zCon la g0 yX1_holeOf cX1_holeOf 2 (some .int) 0 ad zSH [.ref (ad 17), .int (zi ((l : Nat) : Int))] μ (zPd μ (μ 18 (l))) := by
  refine zCon_of (by decide +kernel) (Nat.le_of_ble_eq_true rfl) ?_
  intro χ K T hl1 hg1
  have K : zOk χ cX1_holeOf RX1 2 0 (some .int) := K
  obtain ⟨hn, hn6, hnc, hnc3, hpl, hpk⟩ := id hp
  obtain ⟨hv1, hv2, hv3, hv4⟩ := id hv
  show zV χ 2 ad zSH 0 0 0 [(0, .ref (ad 17)), (1, .int (zi ((l : Nat) : Int)))] [] μ
  refine z_aload_n K dX1_holeOf_0 rfl ?_
  refine z_get (k := 17) (v := .ref (ad 18)) K dX1_holeOf_1 fl_X1_11 rfl rfl rfl ?_
  refine z_iconst K dX1_holeOf_4 ?_
  refine z_iload_n K dX1_holeOf_5 rfl ?_
  refine z_iadd K dX1_holeOf_6 ?_
  refine z_iald (k := 18) (v := μ 18 l) K dX1_holeOf_7 l rfl (by decide) (by omega) (by omega) rfl ?_
  exact z_iretd K T rfl dX1_holeOf_8 rfl rfl
set_option maxHeartbeats 4000000 in
set_option maxRecDepth 100000 in
theorem ct_waitedOf (la : Launch) (g0 : zG) (ad : Nat → Nat) (μ : zMem) (n nc : Nat) (hp : zPlan μ n nc) (hv : zHW n nc (μ 18)) (l : Nat) (hl : l < n) : zCon la g0 yX1_waitedOf cX1_waitedOf 2 (some .int) 0 ad zSH [.ref (ad 17), .int (zi ((l : Nat) : Int))] μ (zPd μ (μ 18 (6 + l))) := by
  refine zCon_of (by decide +kernel) (Nat.le_of_ble_eq_true rfl) ?_
  intro χ K T hl1 hg1
  have K : zOk χ cX1_waitedOf RX1 2 0 (some .int) := K
  obtain ⟨hn, hn6, hnc, hnc3, hpl, hpk⟩ := id hp
  obtain ⟨hv1, hv2, hv3, hv4⟩ := id hv
  show zV χ 2 ad zSH 0 0 0 [(0, .ref (ad 17)), (1, .int (zi ((l : Nat) : Int)))] [] μ
  refine z_aload_n K dX1_waitedOf_0 rfl ?_
  refine z_get (k := 17) (v := .ref (ad 18)) K dX1_waitedOf_1 fl_X1_11 rfl rfl rfl ?_
  refine z_bipush K dX1_waitedOf_4 (by decide +kernel) ?_
  refine z_iload_n K dX1_waitedOf_6 rfl ?_
  refine z_iadd K dX1_waitedOf_7 ?_
  refine z_iald (k := 18) (v := μ 18 (6 + l)) K dX1_waitedOf_8 (6 + l) rfl (by decide) (by omega) (by omega) rfl ?_
  exact z_iretd K T rfl dX1_waitedOf_9 rfl rfl
set_option maxHeartbeats 4000000 in
set_option maxRecDepth 100000 in
theorem ct_rowOf (la : Launch) (g0 : zG) (ad : Nat → Nat) (μ : zMem) (n nc : Nat) (hp : zPlan μ n nc) (hv : zHW n nc (μ 18)) (l : Nat) (hl : l < nc) : zCon la g0 yX1_rowOf cX1_rowOf 2 (some .int) 0 ad zSH [.ref (ad 17), .int (zi ((l : Nat) : Int))] μ (zPd μ (μ 18 (18 + l))) := by
  refine zCon_of (by decide +kernel) (Nat.le_of_ble_eq_true rfl) ?_
  intro χ K T hl1 hg1
  have K : zOk χ cX1_rowOf RX1 2 0 (some .int) := K
  obtain ⟨hn, hn6, hnc, hnc3, hpl, hpk⟩ := id hp
  obtain ⟨hv1, hv2, hv3, hv4⟩ := id hv
  show zV χ 2 ad zSH 0 0 0 [(0, .ref (ad 17)), (1, .int (zi ((l : Nat) : Int)))] [] μ
  refine z_aload_n K dX1_rowOf_0 rfl ?_
  refine z_get (k := 17) (v := .ref (ad 18)) K dX1_rowOf_1 fl_X1_11 rfl rfl rfl ?_
  refine z_bipush K dX1_rowOf_4 (by decide +kernel) ?_
  refine z_iload_n K dX1_rowOf_6 rfl ?_
  refine z_iadd K dX1_rowOf_7 ?_
  refine z_iald (k := 18) (v := μ 18 (18 + l)) K dX1_rowOf_8 (18 + l) rfl (by decide) (by omega) (by omega) rfl ?_
  exact z_iretd K T rfl dX1_rowOf_9 rfl rfl
set_option maxHeartbeats 4000000 in
set_option maxRecDepth 100000 in
theorem ct_grain (la : Launch) (g0 : zG) (ad : Nat → Nat) (μ : zMem)  : zCon la g0 yX1_grain cX1_grain 1 (some .int) 0 ad zSH [.ref (ad 17)] μ (zPd μ (μ 18 21)) := by
  refine zCon_of (by decide +kernel) (Nat.le_of_ble_eq_true rfl) ?_
  intro χ K T hl1 hg1
  have K : zOk χ cX1_grain RX1 1 0 (some .int) := K
  show zV χ 1 ad zSH 0 0 0 [(0, .ref (ad 17))] [] μ
  refine z_aload_n K dX1_grain_0 rfl ?_
  refine z_get (k := 17) (v := .ref (ad 18)) K dX1_grain_1 fl_X1_11 rfl rfl rfl ?_
  refine z_bipush K dX1_grain_4 (by decide +kernel) ?_
  refine z_iald (k := 18) (v := μ 18 21) K dX1_grain_6 21 rfl (by decide) (by omega) (by omega) rfl ?_
  exact z_iretd K T rfl dX1_grain_7 rfl rfl
set_option maxHeartbeats 4000000 in
set_option maxRecDepth 100000 in
theorem ct_theDay (la : Launch) (g0 : zG) (ad : Nat → Nat) (μ : zMem)  : zCon la g0 yX1_theDay cX1_theDay 1 (some .int) 0 ad zSH [.ref (ad 17)] μ (zPd μ (μ 18 22)) := by
  refine zCon_of (by decide +kernel) (Nat.le_of_ble_eq_true rfl) ?_
  intro χ K T hl1 hg1
  have K : zOk χ cX1_theDay RX1 1 0 (some .int) := K
  show zV χ 1 ad zSH 0 0 0 [(0, .ref (ad 17))] [] μ
  refine z_aload_n K dX1_theDay_0 rfl ?_
  refine z_get (k := 17) (v := .ref (ad 18)) K dX1_theDay_1 fl_X1_11 rfl rfl rfl ?_
  refine z_bipush K dX1_theDay_4 (by decide +kernel) ?_
  refine z_iald (k := 18) (v := μ 18 22) K dX1_theDay_6 22 rfl (by decide) (by omega) (by omega) rfl ?_
  exact z_iretd K T rfl dX1_theDay_7 rfl rfl
set_option maxHeartbeats 4000000 in
set_option maxRecDepth 100000 in
theorem ct_pairs (la : Launch) (g0 : zG) (ad : Nat → Nat) (μ : zMem) (n nc : Nat) (hp : zPlan μ n nc) (hv : zHW n nc (μ 18)) : zCon la g0 yX1_pairs cX1_pairs 4 (some .int) 1 ad zSH [.ref (ad 17)] μ (zPd μ ((zpair (μ 18) n 12 : Nat) : Int)) := by
  refine zCon_of (by decide +kernel) (Nat.le_of_ble_eq_true rfl) ?_
  intro χ K T hl1 hg1
  have K : zOk χ cX1_pairs RX1 4 1 (some .int) := K
  obtain ⟨hn, hn6, hnc, hnc3, hpl, hpk⟩ := id hp
  obtain ⟨hv1, hv2, hv3, hv4⟩ := id hv
  show zV χ 4 ad zSH 0 0 0 [(0, .ref (ad 17))] [] μ
  refine z_aload_n K dX1_pairs_0 rfl ?_
  refine z_iconst K dX1_pairs_1 ?_
  refine z_callVd K hl1 hg1 (kb := 17) (As := [.int (zi (2 : Int))]) (rest := []) (ct_who_n la g0 ad _ n nc hp hv 2 ⟨by decide, by decide⟩) (by decide) lk_X1_46 cd_X1_who rfl rfl rfl rfl (Nat.le_of_ble_eq_true rfl) dX1_pairs_2 ?_
  refine z_istore_n (lv' := [(0, .ref (ad 17)), (1, .int (zi ((zwho (μ 18) 2 n : Nat) : Int)))]) K dX1_pairs_5 (by decide) rfl ?_
  refine z_iconst K dX1_pairs_6 ?_
  refine z_istore_n (lv' := [(0, .ref (ad 17)), (1, .int (zi ((zwho (μ 18) 2 n : Nat) : Int))), (2, .int (zi (0 : Int)))]) K dX1_pairs_7 (by decide) rfl ?_
  refine z_iconst K dX1_pairs_8 ?_
  refine z_istore_n (lv' := [(0, .ref (ad 17)), (1, .int (zi ((zwho (μ 18) 2 n : Nat) : Int))), (2, .int (zi (0 : Int))), (3, .int (zi (0 : Int)))]) K dX1_pairs_9 (by decide) rfl ?_
  have L10 : ∀ h, h ≤ 12 → zV χ 4 ad zSH 0 0 10 [(0, .ref (ad 17)), (1, .int (zi ((zwho (μ 18) 2 n : Nat) : Int))), (2, .int (zi ((zpair (μ 18) n h : Nat) : Int))), (3, .int (zi ((h : Nat) : Int)))] [] μ := by
    refine zfor ?_
    intro h hh ih
    refine z_iload_n K dX1_pairs_10 rfl ?_
    refine z_bipush K dX1_pairs_11 (by decide +kernel) ?_
    refine z_icmpge (tgt := 42) K dX1_pairs_13 (by decide) (by omega) ⟨by decide, by decide⟩ (fun h13 => ?_) (fun h13 => ?_)
    · refine z_iload_n K dX1_pairs_42 rfl ?_
      exact z_iretd K T rfl dX1_pairs_43 (by rw [show h = 12 by omega]) rfl
    · refine z_aload_n K dX1_pairs_16 rfl ?_
      refine z_iload_n K dX1_pairs_17 rfl ?_
      refine z_callVd K hl1 hg1 (kb := 17) (As := [.int (zi ((h : Nat) : Int))]) (rest := []) (ct_whoIsIn_n la g0 ad _ n nc hp hv (h : Int) ⟨by omega, by omega⟩) (by decide) lk_X1_55 cd_X1_whoIsIn rfl rfl rfl rfl (Nat.le_of_ble_eq_true rfl) dX1_pairs_18 ?_
      refine z_iload_n K dX1_pairs_21 rfl ?_
      refine z_iandR (z := zi ((zin (μ 18) h n &&& zwho (μ 18) 2 n : Nat) : Int)) K dX1_pairs_22 (zb_and _ _) ?_
      have hb64 : zin (μ 18) h n &&& zwho (μ 18) 2 n < 64 := Nat.lt_of_le_of_lt Nat.and_le_left (z64 (zin_lt _ _ _) hn6)
      refine z_callSd K hl1 hg1 (As := [.int (zi ((zin (μ 18) h n &&& zwho (μ 18) 2 n : Nat) : Int))]) (rest := []) (ct_bitCount la g0 ad _ (zin (μ 18) h n &&& zwho (μ 18) 2 n) (by first | exact z64 (zwho_lt _ _ _) hn6 | exact z64 (zin_lt _ _ _) hn6 | exact hb64)) (by decide) lk_X1_50 cd_J6_bitCount_0f7a4 rfl rfl (Nat.le_of_ble_eq_true rfl) dX1_pairs_23 ?_
      have hq6 := zpop_le (zin (μ 18) h n &&& zwho (μ 18) 2 n)
      refine z_iconst K dX1_pairs_26 ?_
      refine z_icmplt (tgt := 36) K dX1_pairs_27 (by decide) (by omega) ⟨by decide, by decide⟩ (fun h27 => ?_) (fun h27 => ?_)
      · refine z_iincN (lv' := [(0, .ref (ad 17)), (1, .int (zi ((zwho (μ 18) 2 n : Nat) : Int))), (2, .int (zi ((zpair (μ 18) n h : Nat) : Int))), (3, .int (zi ((h + 1 : Nat) : Int)))]) K dX1_pairs_36 rfl (by decide) rfl ?_
        refine z_goto (tgt := 10) K dX1_pairs_39 (by decide) ?_
        have e9 : zpair (μ 18) n h = zpair (μ 18) n (h + 1) := by
          rw [zpair_s]
          rw [if_neg (by omega)]
        rw [e9]
        exact ih (h + 1) (by omega) (by omega)
      · refine z_iload_n K dX1_pairs_30 rfl ?_
        refine z_iconst K dX1_pairs_31 ?_
        refine z_iload_n K dX1_pairs_32 rfl ?_
        refine z_ishlR (z := zi ((2 ^ h : Nat) : Int)) K dX1_pairs_33 (zb_shl h (by omega)) ?_
        refine z_iorR (z := zi ((zpair (μ 18) n h ||| 2 ^ h : Nat) : Int)) K dX1_pairs_34 (zb_or _ _) ?_
        refine z_istore_n (lv' := [(0, .ref (ad 17)), (1, .int (zi ((zwho (μ 18) 2 n : Nat) : Int))), (2, .int (zi ((zpair (μ 18) n h ||| 2 ^ h : Nat) : Int))), (3, .int (zi ((h : Nat) : Int)))]) K dX1_pairs_35 (by decide) rfl ?_
        refine z_iincN (lv' := [(0, .ref (ad 17)), (1, .int (zi ((zwho (μ 18) 2 n : Nat) : Int))), (2, .int (zi ((zpair (μ 18) n h ||| 2 ^ h : Nat) : Int))), (3, .int (zi ((h + 1 : Nat) : Int)))]) K dX1_pairs_36 rfl (by decide) rfl ?_
        refine z_goto (tgt := 10) K dX1_pairs_39 (by decide) ?_
        have e9 : zpair (μ 18) n h ||| 2 ^ h = zpair (μ 18) n (h + 1) := by
          rw [zpair_s]
          rw [if_pos (by omega)]
        rw [e9]
        exact ih (h + 1) (by omega) (by omega)
  exact L10 0 (by omega)
