theorem zb_or0 (a : Nat) : zi (a : Int) ||| zi 0 = zi ((a : Nat) : Int) := by
  have h := zb_or a 0
  rw [Nat.or_zero] at h
  exact h
theorem znx_keep {n : Nat} {kd al c : Nat → Int} {row : Int} {k : Nat} {f : Int} (h : znx n kd al c row (k + 1) f) (hk : zel c row k → ∃ b : Nat, f = (b : Int) ∧ zdl n kd al c b < zdl n kd al c k) : znx n kd al c row k f := by
  rcases h with ⟨h1, h2⟩ | ⟨b, h1, h2, h3, h4, h5, h6⟩
  · refine Or.inl ⟨h1, fun j hj hj2 he => ?_⟩
    by_cases e : j = k
    · subst e; obtain ⟨b, hb, -⟩ := hk he; omega
    · exact h2 j (by omega) hj2 he
  · refine Or.inr ⟨b, h1, by omega, h3, h4, fun j hj hj2 he => ?_, fun j hj hj2 he => ?_⟩
    · by_cases e : j = k
      · subst e; obtain ⟨b', hb, hlt⟩ := hk he
        have : b' = b := by omega
        subst this; omega
      · exact h5 j (by omega) hj2 he
    · by_cases e : j = k
      · subst e; obtain ⟨b', hb, hlt⟩ := hk he
        have : b' = b := by omega
        subst this; exact hlt
      · exact h6 j (by omega) hj2 he
theorem znx_take {n : Nat} {kd al c : Nat → Int} {row : Int} {k : Nat} {f : Int} (h : znx n kd al c row (k + 1) f) (hk : zel c row k) (hle : f = -9 ∨ ∃ b : Nat, f = (b : Int) ∧ zdl n kd al c k ≤ zdl n kd al c b) (hkn : k < n) : znx n kd al c row k (k : Int) := by
  refine Or.inr ⟨k, rfl, Nat.le_refl _, hkn, hk, fun j hj hj2 he => ?_, fun j hj hj2 _ => absurd hj2 (by omega)⟩
  by_cases e : j = k
  · subst e; exact Int.le_refl _
  · rcases h with ⟨h1, h2⟩ | ⟨b, h1, h2, h3, h4, h5, h6⟩
    · exact absurd he (h2 j (by omega) hj2)
    · rcases hle with hle | ⟨b', hb, hle⟩
      · omega
      · have : b' = b := by omega
        subst this
        have := h5 j (by omega) hj2 he
        omega
set_option maxHeartbeats 4000000 in
set_option maxRecDepth 100000 in
theorem cm_in (la : Launch) (g0 : zG) (ad : Nat → Nat) (μ : zMem) (v u w : Int) (hv : zR8 v) (hu : zR8 u) (hw : zR8 w) : zCon la g0 yX9_in cX9_in 6 (some .boolean) 0 ad zSH [.long (zl v), .long (zl u), .long (zl w)] μ (zPd μ (if u ≤ v ∧ v ≤ w then 1 else 0)) := by
  refine zCon_of (by decide +kernel) (Nat.le_of_ble_eq_true rfl) ?_
  intro χ K T hl1 hg1
  have K : zOk χ cX9_in RX9 6 0 (some .boolean) := K
  show zV χ 6 ad zSH 0 0 0 [(0, .long (zl v)), (2, .long (zl u)), (4, .long (zl w))] [] μ
  refine z_lload_n K dX9_in_0 rfl ?_
  refine z_lload_n K dX9_in_1 rfl ?_
  refine z_lcmp K dX9_in_2 (by omega) (by omega) ?_
  refine z_iflt (tgt := 17) K dX9_in_3 (by decide) (zc_rg _ _) (fun h3 => ?_) (fun h3 => ?_)
  · refine z_iconst K dX9_in_17 ?_
    exact z_zretd K T rfl dX9_in_18 (Or.inl rfl) (by have h8 := zc_lt v u; have h9 := zc_gt v w; rw [if_neg (by omega)]) rfl
  · rw [← Int.not_lt, zc_lt] at h3
    refine z_lload_n K dX9_in_6 rfl ?_
    refine z_lload K dX9_in_7 rfl ?_
    refine z_lcmp K dX9_in_9 (by omega) (by omega) ?_
    refine z_ifgt (tgt := 17) K dX9_in_10 (by decide) (zc_rg _ _) (fun h10 => ?_) (fun h10 => ?_)
    · refine z_iconst K dX9_in_17 ?_
      exact z_zretd K T rfl dX9_in_18 (Or.inl rfl) (by have h8 := zc_lt v u; have h9 := zc_gt v w; rw [if_neg (by omega)]) rfl
    · refine z_iconst K dX9_in_13 ?_
      refine z_goto (tgt := 18) K dX9_in_14 (by decide) ?_
      exact z_zretd K T rfl dX9_in_18 (Or.inr rfl) (by rw [if_pos ⟨by omega, by have h9 := zc_gt v w; omega⟩]) rfl
set_option maxHeartbeats 4000000 in
set_option maxRecDepth 100000 in
theorem cm_has (la : Launch) (g0 : zG) (ad : Nat → Nat) (μ : zMem) (b k : Nat) (hb : b < 64) (hk : k < 6) : zCon la g0 yX9_has cX9_has 2 (some .boolean) 0 ad zSH [.int (zi ((b : Nat) : Int)), .int (zi ((k : Nat) : Int))] μ (zPd μ ((zbit b k : Nat) : Int)) := by
  refine zCon_of (by decide +kernel) (Nat.le_of_ble_eq_true rfl) ?_
  intro χ K T hl1 hg1
  have K : zOk χ cX9_has RX9 2 0 (some .boolean) := K
  have hbk := zbit_lt b k
  show zV χ 2 ad zSH 0 0 0 [(0, .int (zi ((b : Nat) : Int))), (1, .int (zi ((k : Nat) : Int)))] [] μ
  refine z_iload_n K dX9_has_0 rfl ?_
  refine z_iload_n K dX9_has_1 rfl ?_
  refine z_ishrR (z := zi ((b : Nat) : Int) >>> (zi ((k : Nat) : Int) &&& 31)) K dX9_has_2 rfl ?_
  refine z_iconst K dX9_has_3 ?_
  refine z_iandR (z := zi ((zbit b k : Nat) : Int)) K dX9_has_4 (zb_bit b hb k hk) ?_
  refine z_iconst K dX9_has_5 ?_
  refine z_icmpne (tgt := 13) K dX9_has_6 (by decide) (by omega) ⟨by decide, by decide⟩ (fun h6 => ?_) (fun h6 => ?_)
  · refine z_iconst K dX9_has_13 ?_
    exact z_zretd K T rfl dX9_has_14 (Or.inl rfl) (by omega) rfl
  · refine z_iconst K dX9_has_9 ?_
    refine z_goto (tgt := 14) K dX9_has_10 (by decide) ?_
    exact z_zretd K T rfl dX9_has_14 (Or.inr rfl) (by omega) rfl
set_option maxHeartbeats 4000000 in
set_option maxRecDepth 100000 in
theorem cm_many (la : Launch) (g0 : zG) (ad : Nat → Nat) (μ : zMem) (b : Nat) (hb : b < 64) : zCon la g0 yX9_many cX9_many 3 (some .int) 0 ad zSH [.int (zi ((b : Nat) : Int))] μ (zPd μ ((zpop b : Nat) : Int)) := by
  refine zCon_of (by decide +kernel) (Nat.le_of_ble_eq_true rfl) ?_
  intro χ K T hl1 hg1
  have K : zOk χ cX9_many RX9 3 0 (some .int) := K
  show zV χ 3 ad zSH 0 0 0 [(0, .int (zi ((b : Nat) : Int)))] [] μ
  refine z_iconst K dX9_many_0 ?_
  refine z_istore_n (lv' := [(0, .int (zi ((b : Nat) : Int))), (1, .int (zi (0 : Int)))]) K dX9_many_1 (by decide) rfl ?_
  refine z_iconst K dX9_many_2 ?_
  refine z_istore_n (lv' := [(0, .int (zi ((b : Nat) : Int))), (1, .int (zi (0 : Int))), (2, .int (zi (0 : Int)))]) K dX9_many_3 (by decide) rfl ?_
  have L4 : ∀ k, k ≤ 6 → zV χ 3 ad zSH 0 0 4 [(0, .int (zi ((b : Nat) : Int))), (1, .int (zi ((zmn b k : Nat) : Int))), (2, .int (zi ((k : Nat) : Int)))] [] μ := by
    refine zfor ?_
    intro k hk ih
    refine z_iload_n K dX9_many_4 rfl ?_
    refine z_bipush K dX9_many_5 (by decide +kernel) ?_
    refine z_icmpge (tgt := 24) K dX9_many_7 (by decide) (by omega) ⟨by decide, by decide⟩ (fun h7 => ?_) (fun h7 => ?_)
    · refine z_iload_n K dX9_many_24 rfl ?_
      exact z_iretd K T rfl dX9_many_25 (by rw [show k = 6 by omega, zmn_6 hb]) rfl
    · refine z_iload_n K dX9_many_10 rfl ?_
      refine z_iload_n K dX9_many_11 rfl ?_
      refine z_iload_n K dX9_many_12 rfl ?_
      refine z_ishrR (z := zi ((b : Nat) : Int) >>> (zi ((k : Nat) : Int) &&& 31)) K dX9_many_13 rfl ?_
      refine z_iconst K dX9_many_14 ?_
      refine z_iandR (z := zi ((zbit b k : Nat) : Int)) K dX9_many_15 (zb_bit b hb k (by omega)) ?_
      refine z_iadd K dX9_many_16 ?_
      rw [show (((zmn b k : Nat) : Int) + ((zbit b k : Nat) : Int)) = ((zmn b (k + 1) : Nat) : Int) from (by show _ = ((zmn b k + zbit b k : Nat) : Int); omega)]
      refine z_istore_n (lv' := [(0, .int (zi ((b : Nat) : Int))), (1, .int (zi ((zmn b (k + 1) : Nat) : Int))), (2, .int (zi ((k : Nat) : Int)))]) K dX9_many_17 (by decide) rfl ?_
      refine z_iincN (lv' := [(0, .int (zi ((b : Nat) : Int))), (1, .int (zi ((zmn b (k + 1) : Nat) : Int))), (2, .int (zi ((k + 1 : Nat) : Int)))]) K dX9_many_18 rfl (by decide) rfl ?_
      refine z_goto (tgt := 4) K dX9_many_21 (by decide) ?_
      exact ih (k + 1) (by omega) (by omega)
  exact L4 0 (by omega)
set_option maxHeartbeats 4000000 in
set_option maxRecDepth 100000 in
theorem cm_power (la : Launch) (g0 : zG) (ad : Nat → Nat) (μ : zMem) (x : Int) (m : Nat) (hm : m ≤ 100) : zCon la g0 yX9_power cX9_power 4 (some .int) 0 ad zSH [.int (zi x), .int (zi ((m : Nat) : Int))] μ (zPd μ (zpw x m)) := by
  refine zCon_of (by decide +kernel) (Nat.le_of_ble_eq_true rfl) ?_
  intro χ K T hl1 hg1
  have K : zOk χ cX9_power RX9 4 0 (some .int) := K
  show zV χ 4 ad zSH 0 0 0 [(0, .int (zi x)), (1, .int (zi ((m : Nat) : Int)))] [] μ
  refine z_iconst K dX9_power_0 ?_
  refine z_istore_n (lv' := [(0, .int (zi x)), (1, .int (zi ((m : Nat) : Int))), (2, .int (zi (1 : Int)))]) K dX9_power_1 (by decide) rfl ?_
  refine z_iconst K dX9_power_2 ?_
  refine z_istore_n (lv' := [(0, .int (zi x)), (1, .int (zi ((m : Nat) : Int))), (2, .int (zi (1 : Int))), (3, .int (zi (0 : Int)))]) K dX9_power_3 (by decide) rfl ?_
  have L4 : ∀ k, k ≤ m → zV χ 4 ad zSH 0 0 4 [(0, .int (zi x)), (1, .int (zi ((m : Nat) : Int))), (2, .int (zi (zpw x k))), (3, .int (zi ((k : Nat) : Int)))] [] μ := by
    refine zfor ?_
    intro k hk ih
    refine z_iload_n K dX9_power_4 rfl ?_
    refine z_iload_n K dX9_power_5 rfl ?_
    refine z_icmpge (tgt := 19) K dX9_power_6 (by decide) (by omega) (by omega) (fun h6 => ?_) (fun h6 => ?_)
    · refine z_iload_n K dX9_power_19 rfl ?_
      exact z_iretd K T rfl dX9_power_20 (by rw [show k = m by omega]) rfl
    · refine z_iload_n K dX9_power_9 rfl ?_
      refine z_iload_n K dX9_power_10 rfl ?_
      refine z_imul K dX9_power_11 ?_
      refine z_istore_n (lv' := [(0, .int (zi x)), (1, .int (zi ((m : Nat) : Int))), (2, .int (zi ((zpw x k) * x))), (3, .int (zi ((k : Nat) : Int)))]) K dX9_power_12 (by decide) rfl ?_
      refine z_iincN (lv' := [(0, .int (zi x)), (1, .int (zi ((m : Nat) : Int))), (2, .int (zi ((zpw x k) * x))), (3, .int (zi ((k + 1 : Nat) : Int)))]) K dX9_power_13 rfl (by decide) rfl ?_
      refine z_goto (tgt := 4) K dX9_power_16 (by decide) ?_
      exact ih (k + 1) (by omega) (by omega)
  exact L4 0 (by omega)
set_option maxHeartbeats 4000000 in
set_option maxRecDepth 100000 in
theorem cm_noLetter (la : Launch) (g0 : zG) (ad : Nat → Nat) (μ : zMem) (n : Nat) (hn : μ 39 4 = (n : Int)) (hn9 : n ≤ 9) (x : Int) (hx : zR x) : zCon la g0 yX9_noLetter cX9_noLetter 2 (some .boolean) 1 ad zSH [.ref (ad 39), .int (zi x)] μ (zPd μ (if 0 ≤ x ∧ x < (n : Int) then 0 else 1)) := by
  refine zCon_of (by decide +kernel) (Nat.le_of_ble_eq_true rfl) ?_
  intro χ K T hl1 hg1
  have K : zOk χ cX9_noLetter RX9 2 1 (some .boolean) := K
  show zV χ 2 ad zSH 0 0 0 [(0, .ref (ad 39)), (1, .int (zi x))] [] μ
  refine z_iload_n K dX9_noLetter_0 rfl ?_
  refine z_i2l K dX9_noLetter_1 (by omega) ?_
  refine z_lconst (z := 0) K dX9_noLetter_2 rfl ?_
  refine z_aload_n K dX9_noLetter_3 rfl ?_
  refine z_get (k := 39) (v := .int (zi (μ 39 4))) K dX9_noLetter_4 fl_X9_63 rfl rfl rfl ?_
  refine z_iconst K dX9_noLetter_7 ?_
  refine z_isub K dX9_noLetter_8 ?_
  refine z_i2l K dX9_noLetter_9 (by omega) ?_
  refine z_callSd K hl1 hg1 (As := [.long (zl x), .long (zl (0 : Int)), .long (zl ((μ 39 4) - (1 : Int)))]) (rest := []) (cm_in la g0 ad μ x 0 ((μ 39 4) - (1 : Int)) ⟨by omega, by omega⟩ ⟨by decide, by decide⟩ ⟨by omega, by omega⟩) (by decide) lk_X9_66 cd_X9_in rfl rfl (Nat.le_of_ble_eq_true rfl) dX9_noLetter_10 ?_
  refine z_ifne (tgt := 20) K dX9_noLetter_13 (by decide) (by omega) (fun h13 => ?_) (fun h13 => ?_)
  · refine z_iconst K dX9_noLetter_20 ?_
    exact z_zretd K T rfl dX9_noLetter_21 (Or.inl rfl) (by omega) rfl
  · refine z_iconst K dX9_noLetter_16 ?_
    refine z_goto (tgt := 21) K dX9_noLetter_17 (by decide) ?_
    exact z_zretd K T rfl dX9_noLetter_21 (Or.inr rfl) (by omega) rfl
set_option maxHeartbeats 4000000 in
set_option maxRecDepth 100000 in
theorem cm_noClerk (la : Launch) (g0 : zG) (ad : Nat → Nat) (μ : zMem) (n : Nat) (hn : μ 39 7 = (n : Int)) (hn9 : n ≤ 9) (x : Int) (hx : zR x) : zCon la g0 yX9_noClerk cX9_noClerk 2 (some .boolean) 1 ad zSH [.ref (ad 39), .int (zi x)] μ (zPd μ (if 0 ≤ x ∧ x < (n : Int) then 0 else 1)) := by
  refine zCon_of (by decide +kernel) (Nat.le_of_ble_eq_true rfl) ?_
  intro χ K T hl1 hg1
  have K : zOk χ cX9_noClerk RX9 2 1 (some .boolean) := K
  show zV χ 2 ad zSH 0 0 0 [(0, .ref (ad 39)), (1, .int (zi x))] [] μ
  refine z_iload_n K dX9_noClerk_0 rfl ?_
  refine z_i2l K dX9_noClerk_1 (by omega) ?_
  refine z_lconst (z := 0) K dX9_noClerk_2 rfl ?_
  refine z_aload_n K dX9_noClerk_3 rfl ?_
  refine z_get (k := 39) (v := .int (zi (μ 39 7))) K dX9_noClerk_4 fl_X9_70 rfl rfl rfl ?_
  refine z_iconst K dX9_noClerk_7 ?_
  refine z_isub K dX9_noClerk_8 ?_
  refine z_i2l K dX9_noClerk_9 (by omega) ?_
  refine z_callSd K hl1 hg1 (As := [.long (zl x), .long (zl (0 : Int)), .long (zl ((μ 39 7) - (1 : Int)))]) (rest := []) (cm_in la g0 ad μ x 0 ((μ 39 7) - (1 : Int)) ⟨by omega, by omega⟩ ⟨by decide, by decide⟩ ⟨by omega, by omega⟩) (by decide) lk_X9_66 cd_X9_in rfl rfl (Nat.le_of_ble_eq_true rfl) dX9_noClerk_10 ?_
  refine z_ifne (tgt := 20) K dX9_noClerk_13 (by decide) (by omega) (fun h13 => ?_) (fun h13 => ?_)
  · refine z_iconst K dX9_noClerk_20 ?_
    exact z_zretd K T rfl dX9_noClerk_21 (Or.inl rfl) (by omega) rfl
  · refine z_iconst K dX9_noClerk_16 ?_
    refine z_goto (tgt := 21) K dX9_noClerk_17 (by decide) ?_
    exact z_zretd K T rfl dX9_noClerk_21 (Or.inr rfl) (by omega) rfl
set_option maxHeartbeats 4000000 in
set_option maxRecDepth 100000 in
theorem cm_halfOf (la : Launch) (g0 : zG) (ad : Nat → Nat) (μ : zMem) (w : Int) (hw : 1 ≤ w ∧ w ≤ 9) : zCon la g0 yX9_halfOf cX9_halfOf 1 (some .int) 0 ad zSH [.int (zi w)] μ (zPd μ (zal w 2)) := by
  refine zCon_of (by decide +kernel) (Nat.le_of_ble_eq_true rfl) ?_
  intro χ K T hl1 hg1
  have K : zOk χ cX9_halfOf RX9 1 0 (some .int) := K
  show zV χ 1 ad zSH 0 0 0 [(0, .int (zi w))] [] μ
  refine z_iload_n K dX9_halfOf_0 rfl ?_
  refine z_iconst K dX9_halfOf_1 ?_
  refine z_icmpge (tgt := 9) K dX9_halfOf_2 (by decide) (by omega) ⟨by decide, by decide⟩ (fun h2 => ?_) (fun h2 => ?_)
  · refine z_iload_n K dX9_halfOf_9 rfl ?_
    refine z_iconst K dX9_halfOf_10 ?_
    refine z_idiv K dX9_halfOf_11 (by omega) (by omega) ?_
    exact z_iretd K T rfl dX9_halfOf_12 (by unfold zal; rw [if_pos rfl]; omega) rfl
  · refine z_iconst K dX9_halfOf_5 ?_
    refine z_goto (tgt := 12) K dX9_halfOf_6 (by decide) ?_
    exact z_iretd K T rfl dX9_halfOf_12 (by unfold zal; rw [if_pos rfl]; omega) rfl
set_option maxHeartbeats 4000000 in
set_option maxRecDepth 100000 in
theorem cm_needs_g (la : Launch) (g0 : zG) (ad : Nat → Nat) (μ : zMem) (n nc S : Nat) (kd al wt an c : Nat → Int) (hm : zMP μ n nc kd al wt an) (hw : zHW n nc c) (hg : zAg n nc S (μ 46) c) (l : Nat) (hl : l < n) : zCon la g0 yX9_needs cX9_needs 5 (some .int) 1 ad zSH [.ref (ad 39), .ref (ad 46), .int (zi ((l : Nat) : Int))] μ (zPd μ (znd n kd al c l)) := by
  refine zCon_of (by decide +kernel) (Nat.le_of_ble_eq_true rfl) ?_
  intro χ K T hl1 hg1
  have K : zOk χ cX9_needs RX9 5 1 (some .int) := K
  obtain ⟨hn, hnc, hpl, hpa, hpk⟩ := id hm
  have hn6 := hpk.1
  have hnc3 := hpk.2.1
  have hpl1 := hpl l hl
  have hpk1 := hpk.2.2.1 l hl
  have agl := hg.1 l hl
  have hwl := hw.1 l hl
  show zV χ 5 ad zSH 0 0 0 [(0, .ref (ad 39)), (1, .ref (ad 46)), (2, .int (zi ((l : Nat) : Int)))] [] μ
  refine z_aload_n K dX9_needs_0 rfl ?_
  refine z_get (k := 39) (v := .ref (ad 42)) K dX9_needs_1 fl_X9_16 rfl rfl rfl ?_
  refine z_iload_n K dX9_needs_4 rfl ?_
  refine z_iald (k := 42) (v := kd l) K dX9_needs_5 l rfl (by decide) (by omega) (by omega) hpl1.2.1 ?_
  refine z_iconst K dX9_needs_6 ?_
  refine z_icmpne (tgt := 20) K dX9_needs_7 (by decide) (by omega) ⟨by decide, by decide⟩ (fun h7 => ?_) (fun h7 => ?_)
  · refine z_aload_n K dX9_needs_20 rfl ?_
    refine z_get (k := 39) (v := .ref (ad 41)) K dX9_needs_21 fl_X9_13 rfl rfl rfl ?_
    refine z_iload_n K dX9_needs_24 rfl ?_
    refine z_iald (k := 41) (v := wt l) K dX9_needs_25 l rfl (by decide) (by omega) (by omega) hpl1.1 ?_
    refine z_istore_n (lv' := [(0, .ref (ad 39)), (1, .ref (ad 46)), (2, .int (zi ((l : Nat) : Int))), (3, .int (zi (wt l)))]) K dX9_needs_26 (by decide) rfl ?_
    refine z_iconst K dX9_needs_27 ?_
    refine z_istore (lv' := [(0, .ref (ad 39)), (1, .ref (ad 46)), (2, .int (zi ((l : Nat) : Int))), (3, .int (zi (wt l))), (4, .int (zi (0 : Int)))]) K dX9_needs_28 (by decide) rfl ?_
    have L30 : ∀ o, o ≤ n → (kd l = 3 ∨ o = 0) → zV χ 5 ad zSH 0 0 30 [(0, .ref (ad 39)), (1, .ref (ad 46)), (2, .int (zi ((l : Nat) : Int))), (3, .int (zi (wt l + (zcnt c l o : Nat)))), (4, .int (zi ((o : Nat) : Int)))] [] μ := by
      refine zfor ?_
      intro o ho ih h3
      have hcn := zcnt_le c l o
      refine z_iload K dX9_needs_30 rfl ?_
      refine z_aload_n K dX9_needs_32 rfl ?_
      refine z_get (k := 39) (v := .int (zi (μ 39 4))) K dX9_needs_33 fl_X9_63 rfl rfl rfl ?_
      refine z_icmpge (tgt := 89) K dX9_needs_36 (by decide) (by omega) (by omega) (fun h36 => ?_) (fun h36 => ?_)
      · refine z_iload_n K dX9_needs_89 rfl ?_
        exact z_iretd K T rfl dX9_needs_90 (by
            have ha : al l = wt l := by rw [hpl1.2.2.1]; unfold zal; rw [if_neg h7]
            unfold znd
            by_cases hk3 : kd l = 3
            · rw [if_pos hk3, ha, show n = o by omega]
            · rw [if_neg hk3, ha, show o = 0 by omega]; unfold zcnt; omega) rfl
      · refine z_aload_n K dX9_needs_39 rfl ?_
        refine z_get (k := 39) (v := .ref (ad 42)) K dX9_needs_40 fl_X9_16 rfl rfl rfl ?_
        refine z_iload_n K dX9_needs_43 rfl ?_
        refine z_iald (k := 42) (v := kd l) K dX9_needs_44 l rfl (by decide) (by omega) (by omega) hpl1.2.1 ?_
        refine z_iconst K dX9_needs_45 ?_
        refine z_icmpne (tgt := 89) K dX9_needs_46 (by decide) (by omega) ⟨by decide, by decide⟩ (fun h46 => ?_) (fun h46 => ?_)
        · refine z_iload_n K dX9_needs_89 rfl ?_
          exact z_iretd K T rfl dX9_needs_90 (by
              have ha : al l = wt l := by rw [hpl1.2.2.1]; unfold zal; rw [if_neg h7]
              unfold znd
              by_cases hk3 : kd l = 3
              · rw [if_pos hk3, ha, show n = o by omega]
              · rw [if_neg hk3, ha, show o = 0 by omega]; unfold zcnt; omega) rfl
        · have ag := hg.1 o (by omega)
          have hwo := hw.1 o (by omega)
          refine z_iload_n K dX9_needs_49 rfl ?_
          refine z_iload K dX9_needs_50 rfl ?_
          refine z_iload_n K dX9_needs_52 rfl ?_
          refine z_icmpeq (tgt := 80) K dX9_needs_53 (by decide) (by omega) (by omega) (fun h53 => ?_) (fun h53 => ?_)
          · refine z_iconst K dX9_needs_80 ?_
            refine z_iadd K dX9_needs_81 ?_
            refine z_istore_n (lv' := [(0, .ref (ad 39)), (1, .ref (ad 46)), (2, .int (zi ((l : Nat) : Int))), (3, .int (zi ((wt l + (zcnt c l o : Nat)) + (0 : Int)))), (4, .int (zi ((o : Nat) : Int)))]) K dX9_needs_82 (by decide) rfl ?_
            refine z_iincN (lv' := [(0, .ref (ad 39)), (1, .ref (ad 46)), (2, .int (zi ((l : Nat) : Int))), (3, .int (zi ((wt l + (zcnt c l o : Nat)) + (0 : Int)))), (4, .int (zi ((o + 1 : Nat) : Int)))]) K dX9_needs_83 rfl (by decide) rfl ?_
            refine z_goto (tgt := 30) K dX9_needs_86 (by decide) ?_
            have e9 : (wt l + (zcnt c l o : Nat)) + (0 : Int) = wt l + (zcnt c l (o + 1) : Nat) := by
              rw [zcnt_s]
              rw [if_neg (by omega)]; omega
            rw [e9]
            exact ih (o + 1) (by omega) (by omega) (Or.inl h46)
          · refine z_aload_n K dX9_needs_56 rfl ?_
            refine z_bipush K dX9_needs_57 (by decide +kernel) ?_
            refine z_iload K dX9_needs_59 rfl ?_
            refine z_iadd K dX9_needs_61 ?_
            refine z_iald (k := 46) (v := c (12 + o)) K dX9_needs_62 (6 + o) rfl (by decide) (by omega) (by omega) ag.2.1 ?_
            refine z_ifne (tgt := 80) K dX9_needs_63 (by decide) (by omega) (fun h63 => ?_) (fun h63 => ?_)
            · refine z_iconst K dX9_needs_80 ?_
              refine z_iadd K dX9_needs_81 ?_
              refine z_istore_n (lv' := [(0, .ref (ad 39)), (1, .ref (ad 46)), (2, .int (zi ((l : Nat) : Int))), (3, .int (zi ((wt l + (zcnt c l o : Nat)) + (0 : Int)))), (4, .int (zi ((o : Nat) : Int)))]) K dX9_needs_82 (by decide) rfl ?_
              refine z_iincN (lv' := [(0, .ref (ad 39)), (1, .ref (ad 46)), (2, .int (zi ((l : Nat) : Int))), (3, .int (zi ((wt l + (zcnt c l o : Nat)) + (0 : Int)))), (4, .int (zi ((o + 1 : Nat) : Int)))]) K dX9_needs_83 rfl (by decide) rfl ?_
              refine z_goto (tgt := 30) K dX9_needs_86 (by decide) ?_
              have e9 : (wt l + (zcnt c l o : Nat)) + (0 : Int) = wt l + (zcnt c l (o + 1) : Nat) := by
                rw [zcnt_s]
                rw [if_neg (by omega)]; omega
              rw [e9]
              exact ih (o + 1) (by omega) (by omega) (Or.inl h46)
            · refine z_aload_n K dX9_needs_66 rfl ?_
              refine z_iload K dX9_needs_67 rfl ?_
              refine z_iald (k := 46) (v := c o) K dX9_needs_69 o rfl (by decide) (by omega) (by omega) ag.1 ?_
              refine z_aload_n K dX9_needs_70 rfl ?_
              refine z_iload_n K dX9_needs_71 rfl ?_
              refine z_iald (k := 46) (v := c l) K dX9_needs_72 l rfl (by decide) (by omega) (by omega) agl.1 ?_
              refine z_icmpne (tgt := 80) K dX9_needs_73 (by decide) (by omega) (by omega) (fun h73 => ?_) (fun h73 => ?_)
              · refine z_iconst K dX9_needs_80 ?_
                refine z_iadd K dX9_needs_81 ?_
                refine z_istore_n (lv' := [(0, .ref (ad 39)), (1, .ref (ad 46)), (2, .int (zi ((l : Nat) : Int))), (3, .int (zi ((wt l + (zcnt c l o : Nat)) + (0 : Int)))), (4, .int (zi ((o : Nat) : Int)))]) K dX9_needs_82 (by decide) rfl ?_
                refine z_iincN (lv' := [(0, .ref (ad 39)), (1, .ref (ad 46)), (2, .int (zi ((l : Nat) : Int))), (3, .int (zi ((wt l + (zcnt c l o : Nat)) + (0 : Int)))), (4, .int (zi ((o + 1 : Nat) : Int)))]) K dX9_needs_83 rfl (by decide) rfl ?_
                refine z_goto (tgt := 30) K dX9_needs_86 (by decide) ?_
                have e9 : (wt l + (zcnt c l o : Nat)) + (0 : Int) = wt l + (zcnt c l (o + 1) : Nat) := by
                  rw [zcnt_s]
                  rw [if_neg (by omega)]; omega
                rw [e9]
                exact ih (o + 1) (by omega) (by omega) (Or.inl h46)
              · refine z_iconst K dX9_needs_76 ?_
                refine z_goto (tgt := 81) K dX9_needs_77 (by decide) ?_
                refine z_iadd K dX9_needs_81 ?_
                refine z_istore_n (lv' := [(0, .ref (ad 39)), (1, .ref (ad 46)), (2, .int (zi ((l : Nat) : Int))), (3, .int (zi ((wt l + (zcnt c l o : Nat)) + (1 : Int)))), (4, .int (zi ((o : Nat) : Int)))]) K dX9_needs_82 (by decide) rfl ?_
                refine z_iincN (lv' := [(0, .ref (ad 39)), (1, .ref (ad 46)), (2, .int (zi ((l : Nat) : Int))), (3, .int (zi ((wt l + (zcnt c l o : Nat)) + (1 : Int)))), (4, .int (zi ((o + 1 : Nat) : Int)))]) K dX9_needs_83 rfl (by decide) rfl ?_
                refine z_goto (tgt := 30) K dX9_needs_86 (by decide) ?_
                have e9 : (wt l + (zcnt c l o : Nat)) + (1 : Int) = wt l + (zcnt c l (o + 1) : Nat) := by
                  rw [zcnt_s]
                  rw [if_pos ⟨by omega, by omega, by omega⟩]; omega
                rw [e9]
                exact ih (o + 1) (by omega) (by omega) (Or.inl h46)
    rw [show wt l = wt l + (zcnt c l 0 : Nat) by unfold zcnt; omega]
    exact L30 0 (by omega) (Or.inr rfl)
  · refine z_aload_n K dX9_needs_10 rfl ?_
    refine z_get (k := 39) (v := .ref (ad 41)) K dX9_needs_11 fl_X9_13 rfl rfl rfl ?_
    refine z_iload_n K dX9_needs_14 rfl ?_
    refine z_iald (k := 41) (v := wt l) K dX9_needs_15 l rfl (by decide) (by omega) (by omega) hpl1.1 ?_
    refine z_callSd K hl1 hg1 (As := [.int (zi (wt l))]) (rest := []) (cm_halfOf la g0 ad μ (wt l) hpl1.2.2.2) (by decide) lk_X9_115 cd_X9_halfOf rfl rfl (Nat.le_of_ble_eq_true rfl) dX9_needs_16 ?_
    exact z_iretd K T rfl dX9_needs_19 (by unfold znd; rw [if_neg (by omega), hpl1.2.2.1, h7]) rfl
set_option maxHeartbeats 4000000 in
set_option maxRecDepth 100000 in
theorem cm_toWait_g (la : Launch) (g0 : zG) (ad : Nat → Nat) (μ : zMem) (n nc S : Nat) (kd al wt an c : Nat → Int) (hm : zMP μ n nc kd al wt an) (hw : zHW n nc c) (hg : zAg n nc S (μ 46) c) (l : Nat) (hl : l < n) : zCon la g0 yX9_toWait cX9_toWait 4 (some .int) 2 ad zSH [.ref (ad 39), .ref (ad 46), .int (zi ((l : Nat) : Int))] μ (zPd μ (zdl n kd al c l)) := by
  refine zCon_of (by decide +kernel) (Nat.le_of_ble_eq_true rfl) ?_
  intro χ K T hl1 hg1
  have K : zOk χ cX9_toWait RX9 4 2 (some .int) := K
  obtain ⟨hn, hnc, hpl, hpa, hpk⟩ := id hm
  have hn6 := hpk.1
  have hnc3 := hpk.2.1
  have agl := hg.1 l hl
  have hwl := hw.1 l hl
  have hnd : 1 ≤ znd n kd al c l ∧ znd n kd al c l ≤ 15 := by
    have h1 := hpk.2.2.1 l hl
    have h3 := zcnt_le c l n
    unfold znd; split <;> omega
  show zV χ 4 ad zSH 0 0 0 [(0, .ref (ad 39)), (1, .ref (ad 46)), (2, .int (zi ((l : Nat) : Int)))] [] μ
  refine z_aload_n K dX9_toWait_0 rfl ?_
  refine z_aload_n K dX9_toWait_1 rfl ?_
  refine z_iload_n K dX9_toWait_2 rfl ?_
  refine z_callVd K hl1 hg1 (kb := 39) (As := [.ref (ad 46), .int (zi ((l : Nat) : Int))]) (rest := []) (cm_needs_g la g0 ad μ n nc S kd al wt an c hm hw hg l hl) (by decide) lk_X9_118 cd_X9_needs rfl rfl rfl rfl (Nat.le_of_ble_eq_true rfl) dX9_toWait_3 ?_
  refine z_aload_n K dX9_toWait_6 rfl ?_
  refine z_bipush K dX9_toWait_7 (by decide +kernel) ?_
  refine z_iload_n K dX9_toWait_9 rfl ?_
  refine z_iadd K dX9_toWait_10 ?_
  refine z_iald (k := 46) (v := c (6 + l)) K dX9_toWait_11 (12 + l) rfl (by decide) (by omega) (by omega) agl.2.2 ?_
  refine z_isub K dX9_toWait_12 ?_
  refine z_istore_n (lv' := [(0, .ref (ad 39)), (1, .ref (ad 46)), (2, .int (zi ((l : Nat) : Int))), (3, .int (zi ((znd n kd al c l) - (c (6 + l)))))]) K dX9_toWait_13 (by decide) rfl ?_
  refine z_iload_n K dX9_toWait_14 rfl ?_
  refine z_ifge (tgt := 22) K dX9_toWait_15 (by decide) (by omega) (fun h15 => ?_) (fun h15 => ?_)
  · refine z_iload_n K dX9_toWait_22 rfl ?_
    exact z_iretd K T rfl dX9_toWait_23 (by rw [zdl_nd]; omega) rfl
  · refine z_iconst K dX9_toWait_18 ?_
    refine z_goto (tgt := 23) K dX9_toWait_19 (by decide) ?_
    exact z_iretd K T rfl dX9_toWait_23 (by rw [zdl_nd]; omega) rfl
set_option maxHeartbeats 4000000 in
set_option maxRecDepth 100000 in
theorem cm_thatAre_g (la : Launch) (g0 : zG) (ad : Nat → Nat) (μ : zMem) (n nc S : Nat) (kd al wt an c : Nat → Int) (hm : zMP μ n nc kd al wt an) (hw : zHW n nc c) (hg : zAg n nc S (μ 46) c) (f : Int) (hf : zR f) : zCon la g0 yX9_thatAre cX9_thatAre 5 (some .int) 0 ad zSH [.ref (ad 39), .ref (ad 46), .int (zi f)] μ (zPd μ ((zwho c f n : Nat) : Int)) := by
  refine zCon_of (by decide +kernel) (Nat.le_of_ble_eq_true rfl) ?_
  intro χ K T hl1 hg1
  have K : zOk χ cX9_thatAre RX9 5 0 (some .int) := K
  obtain ⟨hn, hnc, hpl, hpa, hpk⟩ := id hm
  have hn6 := hpk.1
  have hnc3 := hpk.2.1
  show zV χ 5 ad zSH 0 0 0 [(0, .ref (ad 39)), (1, .ref (ad 46)), (2, .int (zi f))] [] μ
  refine z_iconst K dX9_thatAre_0 ?_
  refine z_istore_n (lv' := [(0, .ref (ad 39)), (1, .ref (ad 46)), (2, .int (zi f)), (3, .int (zi (0 : Int)))]) K dX9_thatAre_1 (by decide) rfl ?_
  refine z_iconst K dX9_thatAre_2 ?_
  refine z_istore (lv' := [(0, .ref (ad 39)), (1, .ref (ad 46)), (2, .int (zi f)), (3, .int (zi (0 : Int))), (4, .int (zi (0 : Int)))]) K dX9_thatAre_3 (by decide) rfl ?_
  have L5 : ∀ l, l ≤ n → zV χ 5 ad zSH 0 0 5 [(0, .ref (ad 39)), (1, .ref (ad 46)), (2, .int (zi f)), (3, .int (zi ((zwho c f l : Nat) : Int))), (4, .int (zi ((l : Nat) : Int)))] [] μ := by
    refine zfor ?_
    intro l hl ih
    refine z_iload K dX9_thatAre_5 rfl ?_
    refine z_aload_n K dX9_thatAre_7 rfl ?_
    refine z_get (k := 39) (v := .int (zi (μ 39 4))) K dX9_thatAre_8 fl_X9_63 rfl rfl rfl ?_
    refine z_icmpge (tgt := 42) K dX9_thatAre_11 (by decide) (by omega) (by omega) (fun h11 => ?_) (fun h11 => ?_)
    · refine z_iload_n K dX9_thatAre_42 rfl ?_
      exact z_iretd K T rfl dX9_thatAre_43 (by rw [show l = n by omega]) rfl
    · have ag := hg.1 l (by omega)
      have hwo := hw.1 l (by omega)
      refine z_iload_n K dX9_thatAre_14 rfl ?_
      refine z_aload_n K dX9_thatAre_15 rfl ?_
      refine z_bipush K dX9_thatAre_16 (by decide +kernel) ?_
      refine z_iload K dX9_thatAre_18 rfl ?_
      refine z_iadd K dX9_thatAre_20 ?_
      refine z_iald (k := 46) (v := c (12 + l)) K dX9_thatAre_21 (6 + l) rfl (by decide) (by omega) (by omega) ag.2.1 ?_
      refine z_iload_n K dX9_thatAre_22 rfl ?_
      refine z_icmpne (tgt := 33) K dX9_thatAre_23 (by decide) (by omega) (by omega) (fun h23 => ?_) (fun h23 => ?_)
      · refine z_iconst K dX9_thatAre_33 ?_
        refine z_iorR (z := zi ((zwho c f l : Nat) : Int)) K dX9_thatAre_34 (zb_or0 _) ?_
        refine z_istore_n (lv' := [(0, .ref (ad 39)), (1, .ref (ad 46)), (2, .int (zi f)), (3, .int (zi ((zwho c f l : Nat) : Int))), (4, .int (zi ((l : Nat) : Int)))]) K dX9_thatAre_35 (by decide) rfl ?_
        refine z_iincN (lv' := [(0, .ref (ad 39)), (1, .ref (ad 46)), (2, .int (zi f)), (3, .int (zi ((zwho c f l : Nat) : Int))), (4, .int (zi ((l + 1 : Nat) : Int)))]) K dX9_thatAre_36 rfl (by decide) rfl ?_
        refine z_goto (tgt := 5) K dX9_thatAre_39 (by decide) ?_
        have e9 : zwho c f l = zwho c f (l + 1) := by simp [zwho, h23]
        rw [e9]
        exact ih (l + 1) (by omega) (by omega)
      · refine z_iconst K dX9_thatAre_26 ?_
        refine z_iload K dX9_thatAre_27 rfl ?_
        refine z_ishlR (z := zi ((2 ^ l : Nat) : Int)) K dX9_thatAre_29 (zb_shl l (by omega)) ?_
        refine z_goto (tgt := 34) K dX9_thatAre_30 (by decide) ?_
        refine z_iorR (z := zi ((zwho c f l ||| 2 ^ l : Nat) : Int)) K dX9_thatAre_34 (zb_or _ _) ?_
        refine z_istore_n (lv' := [(0, .ref (ad 39)), (1, .ref (ad 46)), (2, .int (zi f)), (3, .int (zi ((zwho c f l ||| 2 ^ l : Nat) : Int))), (4, .int (zi ((l : Nat) : Int)))]) K dX9_thatAre_35 (by decide) rfl ?_
        refine z_iincN (lv' := [(0, .ref (ad 39)), (1, .ref (ad 46)), (2, .int (zi f)), (3, .int (zi ((zwho c f l ||| 2 ^ l : Nat) : Int))), (4, .int (zi ((l + 1 : Nat) : Int)))]) K dX9_thatAre_36 rfl (by decide) rfl ?_
        refine z_goto (tgt := 5) K dX9_thatAre_39 (by decide) ?_
        have e9 : zwho c f l ||| 2 ^ l = zwho c f (l + 1) := by simp [zwho, h23]
        rw [e9]
        exact ih (l + 1) (by omega) (by omega)
  exact L5 0 (by omega)
set_option maxHeartbeats 4000000 in
set_option maxRecDepth 100000 in
theorem cm_lost_g (la : Launch) (g0 : zG) (ad : Nat → Nat) (μ : zMem) (n nc S : Nat) (kd al wt an c : Nat → Int) (hm : zMP μ n nc kd al wt an) (hw : zHW n nc c) (hg : zAg n nc S (μ 46) c) : zCon la g0 yX9_lost cX9_lost 2 (some .int) 1 ad zSH [.ref (ad 39), .ref (ad 46)] μ (zPd μ ((zwho c 2 n ||| zwho c 3 n : Nat) : Int)) := by
  refine zCon_of (by decide +kernel) (Nat.le_of_ble_eq_true rfl) ?_
  intro χ K T hl1 hg1
  have K : zOk χ cX9_lost RX9 2 1 (some .int) := K
  obtain ⟨hn, hnc, hpl, hpa, hpk⟩ := id hm
  have hn6 := hpk.1
  have hnc3 := hpk.2.1
  show zV χ 2 ad zSH 0 0 0 [(0, .ref (ad 39)), (1, .ref (ad 46))] [] μ
  refine z_aload_n K dX9_lost_0 rfl ?_
  refine z_aload_n K dX9_lost_1 rfl ?_
  refine z_iconst K dX9_lost_2 ?_
  refine z_callVd K hl1 hg1 (kb := 39) (As := [.ref (ad 46), .int (zi (2 : Int))]) (rest := []) (cm_thatAre_g la g0 ad μ n nc S kd al wt an c hm hw hg 2 ⟨by decide, by decide⟩) (by decide) lk_X9_122 cd_X9_thatAre rfl rfl rfl rfl (Nat.le_of_ble_eq_true rfl) dX9_lost_3 ?_
  refine z_aload_n K dX9_lost_6 rfl ?_
  refine z_aload_n K dX9_lost_7 rfl ?_
  refine z_iconst K dX9_lost_8 ?_
  refine z_callVd K hl1 hg1 (kb := 39) (As := [.ref (ad 46), .int (zi (3 : Int))]) (rest := [.int (zi ((zwho c 2 n : Nat) : Int))]) (cm_thatAre_g la g0 ad μ n nc S kd al wt an c hm hw hg 3 ⟨by decide, by decide⟩) (by decide) lk_X9_122 cd_X9_thatAre rfl rfl rfl rfl (Nat.le_of_ble_eq_true rfl) dX9_lost_9 ?_
  refine z_iorR (z := zi ((zwho c 2 n ||| zwho c 3 n : Nat) : Int)) K dX9_lost_12 (zb_or _ _) ?_
  exact z_iretd K T rfl dX9_lost_13 rfl rfl
set_option maxHeartbeats 4000000 in
set_option maxRecDepth 100000 in
theorem cm_inHole_g (la : Launch) (g0 : zG) (ad : Nat → Nat) (μ : zMem) (n nc S : Nat) (kd al wt an c : Nat → Int) (hm : zMP μ n nc kd al wt an) (hw : zHW n nc c) (hg : zAg n nc S (μ 46) c) (f : Int) (hf : zR f) : zCon la g0 yX9_inHole cX9_inHole 6 (some .int) 0 ad zSH [.ref (ad 39), .ref (ad 46), .int (zi f)] μ (zPd μ ((zin c f n : Nat) : Int)) := by
  refine zCon_of (by decide +kernel) (Nat.le_of_ble_eq_true rfl) ?_
  intro χ K T hl1 hg1
  have K : zOk χ cX9_inHole RX9 6 0 (some .int) := K
  obtain ⟨hn, hnc, hpl, hpa, hpk⟩ := id hm
  have hn6 := hpk.1
  have hnc3 := hpk.2.1
  show zV χ 6 ad zSH 0 0 0 [(0, .ref (ad 39)), (1, .ref (ad 46)), (2, .int (zi f))] [] μ
  refine z_iconst K dX9_inHole_0 ?_
  refine z_istore_n (lv' := [(0, .ref (ad 39)), (1, .ref (ad 46)), (2, .int (zi f)), (3, .int (zi (0 : Int)))]) K dX9_inHole_1 (by decide) rfl ?_
  refine z_iconst K dX9_inHole_2 ?_
  refine z_istore (lv' := [(0, .ref (ad 39)), (1, .ref (ad 46)), (2, .int (zi f)), (3, .int (zi (0 : Int))), (4, .int (zi (0 : Int)))]) K dX9_inHole_3 (by decide) rfl ?_
  have L5 : ∀ l, l ≤ n → zV χ 6 ad zSH 0 0 5 [(0, .ref (ad 39)), (1, .ref (ad 46)), (2, .int (zi f)), (3, .int (zi ((zin c f l : Nat) : Int))), (4, .int (zi ((l : Nat) : Int)))] [] μ := by
    refine zfor ?_
    intro l hl ih
    refine z_iload K dX9_inHole_5 rfl ?_
    refine z_aload_n K dX9_inHole_7 rfl ?_
    refine z_get (k := 39) (v := .int (zi (μ 39 4))) K dX9_inHole_8 fl_X9_63 rfl rfl rfl ?_
    refine z_icmpge (tgt := 72) K dX9_inHole_11 (by decide) (by omega) (by omega) (fun h11 => ?_) (fun h11 => ?_)
    · refine z_iload_n K dX9_inHole_72 rfl ?_
      exact z_iretd K T rfl dX9_inHole_73 (by rw [show l = n by omega]) rfl
    · have ag := hg.1 l (by omega)
      have hwo := hw.1 l (by omega)
      refine z_aload_n K dX9_inHole_14 rfl ?_
      refine z_bipush K dX9_inHole_15 (by decide +kernel) ?_
      refine z_iload K dX9_inHole_17 rfl ?_
      refine z_iadd K dX9_inHole_19 ?_
      refine z_iald (k := 46) (v := c (12 + l)) K dX9_inHole_20 (6 + l) rfl (by decide) (by omega) (by omega) ag.2.1 ?_
      refine z_ifeq (tgt := 35) K dX9_inHole_21 (by decide) (by omega) (fun h21 => ?_) (fun h21 => ?_)
      · refine z_iconst K dX9_inHole_35 ?_
        refine z_goto (tgt := 40) K dX9_inHole_36 (by decide) ?_
        refine z_istore (lv' := [(0, .ref (ad 39)), (1, .ref (ad 46)), (2, .int (zi f)), (3, .int (zi ((zin c f l : Nat) : Int))), (4, .int (zi ((l : Nat) : Int))), (5, .int (zi (1 : Int)))]) K dX9_inHole_40 (by decide) rfl ?_
        refine z_iload_n K dX9_inHole_42 rfl ?_
        refine z_iload K dX9_inHole_43 rfl ?_
        refine z_ifeq (tgt := 63) K dX9_inHole_45 (by decide) ⟨by decide, by decide⟩ (fun h45 => ?_) (fun h45 => ?_)
        · refine z_iconst K dX9_inHole_63 ?_
          refine z_iorR (z := zi ((zin c f l : Nat) : Int)) K dX9_inHole_64 (zb_or0 _) ?_
          refine z_istore_n (lv' := [(0, .ref (ad 39)), (1, .ref (ad 46)), (2, .int (zi f)), (3, .int (zi ((zin c f l : Nat) : Int))), (4, .int (zi ((l : Nat) : Int))), (5, .int (zi (1 : Int)))]) K dX9_inHole_65 (by decide) rfl ?_
          refine z_iincN (lv' := [(0, .ref (ad 39)), (1, .ref (ad 46)), (2, .int (zi f)), (3, .int (zi ((zin c f l : Nat) : Int))), (4, .int (zi ((l + 1 : Nat) : Int))), (5, .int (zi (1 : Int)))]) K dX9_inHole_66 rfl (by decide) rfl ?_
          refine z_goto (tgt := 5) K dX9_inHole_69 (by decide) ?_
          refine z_ipick [0, 1, 2, 3, 4] rfl ?_
          have e9 : zin c f l = zin c f (l + 1) := by
            rw [zin_s]
            rw [if_neg (by omega)]
          rw [e9]
          exact ih (l + 1) (by omega) (by omega)
        · refine z_aload_n K dX9_inHole_48 rfl ?_
          refine z_iload K dX9_inHole_49 rfl ?_
          refine z_iald (k := 46) (v := c l) K dX9_inHole_51 l rfl (by decide) (by omega) (by omega) ag.1 ?_
          refine z_iload_n K dX9_inHole_52 rfl ?_
          refine z_icmpne (tgt := 63) K dX9_inHole_53 (by decide) (by omega) (by omega) (fun h53 => ?_) (fun h53 => ?_)
          · refine z_iconst K dX9_inHole_63 ?_
            refine z_iorR (z := zi ((zin c f l : Nat) : Int)) K dX9_inHole_64 (zb_or0 _) ?_
            refine z_istore_n (lv' := [(0, .ref (ad 39)), (1, .ref (ad 46)), (2, .int (zi f)), (3, .int (zi ((zin c f l : Nat) : Int))), (4, .int (zi ((l : Nat) : Int))), (5, .int (zi (1 : Int)))]) K dX9_inHole_65 (by decide) rfl ?_
            refine z_iincN (lv' := [(0, .ref (ad 39)), (1, .ref (ad 46)), (2, .int (zi f)), (3, .int (zi ((zin c f l : Nat) : Int))), (4, .int (zi ((l + 1 : Nat) : Int))), (5, .int (zi (1 : Int)))]) K dX9_inHole_66 rfl (by decide) rfl ?_
            refine z_goto (tgt := 5) K dX9_inHole_69 (by decide) ?_
            refine z_ipick [0, 1, 2, 3, 4] rfl ?_
            have e9 : zin c f l = zin c f (l + 1) := by
              rw [zin_s]
              rw [if_neg (by omega)]
            rw [e9]
            exact ih (l + 1) (by omega) (by omega)
          · refine z_iconst K dX9_inHole_56 ?_
            refine z_iload K dX9_inHole_57 rfl ?_
            refine z_ishlR (z := zi ((2 ^ l : Nat) : Int)) K dX9_inHole_59 (zb_shl l (by omega)) ?_
            refine z_goto (tgt := 64) K dX9_inHole_60 (by decide) ?_
            refine z_iorR (z := zi ((zin c f l ||| 2 ^ l : Nat) : Int)) K dX9_inHole_64 (zb_or _ _) ?_
            refine z_istore_n (lv' := [(0, .ref (ad 39)), (1, .ref (ad 46)), (2, .int (zi f)), (3, .int (zi ((zin c f l ||| 2 ^ l : Nat) : Int))), (4, .int (zi ((l : Nat) : Int))), (5, .int (zi (1 : Int)))]) K dX9_inHole_65 (by decide) rfl ?_
            refine z_iincN (lv' := [(0, .ref (ad 39)), (1, .ref (ad 46)), (2, .int (zi f)), (3, .int (zi ((zin c f l ||| 2 ^ l : Nat) : Int))), (4, .int (zi ((l + 1 : Nat) : Int))), (5, .int (zi (1 : Int)))]) K dX9_inHole_66 rfl (by decide) rfl ?_
            refine z_goto (tgt := 5) K dX9_inHole_69 (by decide) ?_
            refine z_ipick [0, 1, 2, 3, 4] rfl ?_
            have e9 : zin c f l ||| 2 ^ l = zin c f (l + 1) := by
              rw [zin_s]
              rw [if_pos ⟨by omega, by omega⟩]
            rw [e9]
            exact ih (l + 1) (by omega) (by omega)
      · refine z_aload_n K dX9_inHole_24 rfl ?_
        refine z_bipush K dX9_inHole_25 (by decide +kernel) ?_
        refine z_iload K dX9_inHole_27 rfl ?_
        refine z_iadd K dX9_inHole_29 ?_
        refine z_iald (k := 46) (v := c (12 + l)) K dX9_inHole_30 (6 + l) rfl (by decide) (by omega) (by omega) ag.2.1 ?_
        refine z_iconst K dX9_inHole_31 ?_
        refine z_icmpne (tgt := 39) K dX9_inHole_32 (by decide) (by omega) ⟨by decide, by decide⟩ (fun h32 => ?_) (fun h32 => ?_)
        · refine z_iconst K dX9_inHole_39 ?_
          refine z_istore (lv' := [(0, .ref (ad 39)), (1, .ref (ad 46)), (2, .int (zi f)), (3, .int (zi ((zin c f l : Nat) : Int))), (4, .int (zi ((l : Nat) : Int))), (5, .int (zi (0 : Int)))]) K dX9_inHole_40 (by decide) rfl ?_
          refine z_iload_n K dX9_inHole_42 rfl ?_
          refine z_iload K dX9_inHole_43 rfl ?_
          refine z_ifeq (tgt := 63) K dX9_inHole_45 (by decide) ⟨by decide, by decide⟩ (fun h45 => ?_) (fun h45 => ?_)
          · refine z_iconst K dX9_inHole_63 ?_
            refine z_iorR (z := zi ((zin c f l : Nat) : Int)) K dX9_inHole_64 (zb_or0 _) ?_
            refine z_istore_n (lv' := [(0, .ref (ad 39)), (1, .ref (ad 46)), (2, .int (zi f)), (3, .int (zi ((zin c f l : Nat) : Int))), (4, .int (zi ((l : Nat) : Int))), (5, .int (zi (0 : Int)))]) K dX9_inHole_65 (by decide) rfl ?_
            refine z_iincN (lv' := [(0, .ref (ad 39)), (1, .ref (ad 46)), (2, .int (zi f)), (3, .int (zi ((zin c f l : Nat) : Int))), (4, .int (zi ((l + 1 : Nat) : Int))), (5, .int (zi (0 : Int)))]) K dX9_inHole_66 rfl (by decide) rfl ?_
            refine z_goto (tgt := 5) K dX9_inHole_69 (by decide) ?_
            refine z_ipick [0, 1, 2, 3, 4] rfl ?_
            have e9 : zin c f l = zin c f (l + 1) := by
              rw [zin_s]
              rw [if_neg (by omega)]
            rw [e9]
            exact ih (l + 1) (by omega) (by omega)
          · refine z_aload_n K dX9_inHole_48 rfl ?_
            refine z_iload K dX9_inHole_49 rfl ?_
            refine z_iald (k := 46) (v := c l) K dX9_inHole_51 l rfl (by decide) (by omega) (by omega) ag.1 ?_
            refine z_iload_n K dX9_inHole_52 rfl ?_
            refine z_icmpne (tgt := 63) K dX9_inHole_53 (by decide) (by omega) (by omega) (fun h53 => ?_) (fun h53 => ?_)
            · refine z_iconst K dX9_inHole_63 ?_
              refine z_iorR (z := zi ((zin c f l : Nat) : Int)) K dX9_inHole_64 (zb_or0 _) ?_
              refine z_istore_n (lv' := [(0, .ref (ad 39)), (1, .ref (ad 46)), (2, .int (zi f)), (3, .int (zi ((zin c f l : Nat) : Int))), (4, .int (zi ((l : Nat) : Int))), (5, .int (zi (0 : Int)))]) K dX9_inHole_65 (by decide) rfl ?_
              refine z_iincN (lv' := [(0, .ref (ad 39)), (1, .ref (ad 46)), (2, .int (zi f)), (3, .int (zi ((zin c f l : Nat) : Int))), (4, .int (zi ((l + 1 : Nat) : Int))), (5, .int (zi (0 : Int)))]) K dX9_inHole_66 rfl (by decide) rfl ?_
              refine z_goto (tgt := 5) K dX9_inHole_69 (by decide) ?_
              refine z_ipick [0, 1, 2, 3, 4] rfl ?_
              have e9 : zin c f l = zin c f (l + 1) := by
                rw [zin_s]
                rw [if_neg (by omega)]
              rw [e9]
              exact ih (l + 1) (by omega) (by omega)
            · refine z_iconst K dX9_inHole_56 ?_
              refine z_iload K dX9_inHole_57 rfl ?_
              refine z_ishlR (z := zi ((2 ^ l : Nat) : Int)) K dX9_inHole_59 (zb_shl l (by omega)) ?_
              refine z_goto (tgt := 64) K dX9_inHole_60 (by decide) ?_
              refine z_iorR (z := zi ((zin c f l ||| 2 ^ l : Nat) : Int)) K dX9_inHole_64 (zb_or _ _) ?_
              refine z_istore_n (lv' := [(0, .ref (ad 39)), (1, .ref (ad 46)), (2, .int (zi f)), (3, .int (zi ((zin c f l ||| 2 ^ l : Nat) : Int))), (4, .int (zi ((l : Nat) : Int))), (5, .int (zi (0 : Int)))]) K dX9_inHole_65 (by decide) rfl ?_
              refine z_iincN (lv' := [(0, .ref (ad 39)), (1, .ref (ad 46)), (2, .int (zi f)), (3, .int (zi ((zin c f l ||| 2 ^ l : Nat) : Int))), (4, .int (zi ((l + 1 : Nat) : Int))), (5, .int (zi (0 : Int)))]) K dX9_inHole_66 rfl (by decide) rfl ?_
              refine z_goto (tgt := 5) K dX9_inHole_69 (by decide) ?_
              refine z_ipick [0, 1, 2, 3, 4] rfl ?_
              have e9 : zin c f l ||| 2 ^ l = zin c f (l + 1) := by
                rw [zin_s]
                rw [if_pos ⟨by omega, by omega⟩]
              rw [e9]
              exact ih (l + 1) (by omega) (by omega)
        · refine z_iconst K dX9_inHole_35 ?_
          refine z_goto (tgt := 40) K dX9_inHole_36 (by decide) ?_
          refine z_istore (lv' := [(0, .ref (ad 39)), (1, .ref (ad 46)), (2, .int (zi f)), (3, .int (zi ((zin c f l : Nat) : Int))), (4, .int (zi ((l : Nat) : Int))), (5, .int (zi (1 : Int)))]) K dX9_inHole_40 (by decide) rfl ?_
          refine z_iload_n K dX9_inHole_42 rfl ?_
          refine z_iload K dX9_inHole_43 rfl ?_
          refine z_ifeq (tgt := 63) K dX9_inHole_45 (by decide) ⟨by decide, by decide⟩ (fun h45 => ?_) (fun h45 => ?_)
          · refine z_iconst K dX9_inHole_63 ?_
            refine z_iorR (z := zi ((zin c f l : Nat) : Int)) K dX9_inHole_64 (zb_or0 _) ?_
            refine z_istore_n (lv' := [(0, .ref (ad 39)), (1, .ref (ad 46)), (2, .int (zi f)), (3, .int (zi ((zin c f l : Nat) : Int))), (4, .int (zi ((l : Nat) : Int))), (5, .int (zi (1 : Int)))]) K dX9_inHole_65 (by decide) rfl ?_
            refine z_iincN (lv' := [(0, .ref (ad 39)), (1, .ref (ad 46)), (2, .int (zi f)), (3, .int (zi ((zin c f l : Nat) : Int))), (4, .int (zi ((l + 1 : Nat) : Int))), (5, .int (zi (1 : Int)))]) K dX9_inHole_66 rfl (by decide) rfl ?_
            refine z_goto (tgt := 5) K dX9_inHole_69 (by decide) ?_
            refine z_ipick [0, 1, 2, 3, 4] rfl ?_
            have e9 : zin c f l = zin c f (l + 1) := by
              rw [zin_s]
              rw [if_neg (by omega)]
            rw [e9]
            exact ih (l + 1) (by omega) (by omega)
          · refine z_aload_n K dX9_inHole_48 rfl ?_
            refine z_iload K dX9_inHole_49 rfl ?_
            refine z_iald (k := 46) (v := c l) K dX9_inHole_51 l rfl (by decide) (by omega) (by omega) ag.1 ?_
            refine z_iload_n K dX9_inHole_52 rfl ?_
            refine z_icmpne (tgt := 63) K dX9_inHole_53 (by decide) (by omega) (by omega) (fun h53 => ?_) (fun h53 => ?_)
            · refine z_iconst K dX9_inHole_63 ?_
              refine z_iorR (z := zi ((zin c f l : Nat) : Int)) K dX9_inHole_64 (zb_or0 _) ?_
              refine z_istore_n (lv' := [(0, .ref (ad 39)), (1, .ref (ad 46)), (2, .int (zi f)), (3, .int (zi ((zin c f l : Nat) : Int))), (4, .int (zi ((l : Nat) : Int))), (5, .int (zi (1 : Int)))]) K dX9_inHole_65 (by decide) rfl ?_
              refine z_iincN (lv' := [(0, .ref (ad 39)), (1, .ref (ad 46)), (2, .int (zi f)), (3, .int (zi ((zin c f l : Nat) : Int))), (4, .int (zi ((l + 1 : Nat) : Int))), (5, .int (zi (1 : Int)))]) K dX9_inHole_66 rfl (by decide) rfl ?_
              refine z_goto (tgt := 5) K dX9_inHole_69 (by decide) ?_
              refine z_ipick [0, 1, 2, 3, 4] rfl ?_
              have e9 : zin c f l = zin c f (l + 1) := by
                rw [zin_s]
                rw [if_neg (by omega)]
              rw [e9]
              exact ih (l + 1) (by omega) (by omega)
            · refine z_iconst K dX9_inHole_56 ?_
              refine z_iload K dX9_inHole_57 rfl ?_
              refine z_ishlR (z := zi ((2 ^ l : Nat) : Int)) K dX9_inHole_59 (zb_shl l (by omega)) ?_
              refine z_goto (tgt := 64) K dX9_inHole_60 (by decide) ?_
              refine z_iorR (z := zi ((zin c f l ||| 2 ^ l : Nat) : Int)) K dX9_inHole_64 (zb_or _ _) ?_
              refine z_istore_n (lv' := [(0, .ref (ad 39)), (1, .ref (ad 46)), (2, .int (zi f)), (3, .int (zi ((zin c f l ||| 2 ^ l : Nat) : Int))), (4, .int (zi ((l : Nat) : Int))), (5, .int (zi (1 : Int)))]) K dX9_inHole_65 (by decide) rfl ?_
              refine z_iincN (lv' := [(0, .ref (ad 39)), (1, .ref (ad 46)), (2, .int (zi f)), (3, .int (zi ((zin c f l ||| 2 ^ l : Nat) : Int))), (4, .int (zi ((l + 1 : Nat) : Int))), (5, .int (zi (1 : Int)))]) K dX9_inHole_66 rfl (by decide) rfl ?_
              refine z_goto (tgt := 5) K dX9_inHole_69 (by decide) ?_
              refine z_ipick [0, 1, 2, 3, 4] rfl ?_
              have e9 : zin c f l ||| 2 ^ l = zin c f (l + 1) := by
                rw [zin_s]
                rw [if_pos ⟨by omega, by omega⟩]
              rw [e9]
              exact ih (l + 1) (by omega) (by omega)
  exact L5 0 (by omega)
