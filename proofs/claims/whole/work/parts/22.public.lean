set_option maxHeartbeats 4000000 in
set_option maxRecDepth 100000 in
theorem cp_write (la : Launch) (g0 : zG) (ad : Nat → Nat) (μ : zMem) (t : Nat) (ht : μ 1 1 = (t : Int)) (ht48 : t ≤ 48) (x : Int) (hx : zR x) : zCon la g0 yX8_write cX8_write 2 (some .int) 1 ad zSH [.ref (ad 0), .int (zi x)] μ (zPd (if 0 ≤ x ∧ x ≤ 255 ∧ t < 48 then zup (zup μ 2 (zu1 (μ 2) t x)) 1 (zu1 (μ 1) 1 ((t : Int) + 1)) else μ) (if 0 ≤ x ∧ x ≤ 255 then (if t < 48 then (t : Int) + 1 else -4) else -2)) := by
  refine zCon_of (by decide +kernel) (Nat.le_of_ble_eq_true rfl) ?_
  intro χ K T hl1 hg1
  have K : zOk χ cX8_write RX8 2 1 (some .int) := K
  show zV χ 2 ad zSH 0 0 0 [(0, .ref (ad 0)), (1, .int (zi x))] [] μ
  refine z_iload_n K dX8_write_0 rfl ?_
  refine z_iflt (tgt := 11) K dX8_write_1 (by decide) (by omega) (fun h1 => ?_) (fun h1 => ?_)
  · refine z_bipush K dX8_write_11 (by decide +kernel) ?_
    exact z_iretd K T rfl dX8_write_13 (if_neg (by omega)).symm (if_neg (by omega)).symm
  · refine z_iload_n K dX8_write_4 rfl ?_
    refine z_sipush K dX8_write_5 (by decide +kernel) ?_
    refine z_icmple (tgt := 14) K dX8_write_8 (by decide) (by omega) ⟨by decide, by decide⟩ (fun h8 => ?_) (fun h8 => ?_)
    · refine z_aload_n K dX8_write_14 rfl ?_
      refine z_get (k := 0) (v := .ref (ad 1)) K dX8_write_15 fl_X8_10 rfl rfl rfl ?_
      refine z_iload_n K dX8_write_18 rfl ?_
      refine z_callVd K hl1 hg1 (kb := 1) (As := [.int (zi x)]) (rest := []) (ct_script_add la g0 ad μ t ht ht48 x) (by decide) lk_X8_75 cd_X5_add rfl rfl rfl rfl (Nat.le_of_ble_eq_true rfl) dX8_write_19 ?_
      exact z_iretd K T rfl dX8_write_22 (if_pos (by omega)).symm (by by_cases h9 : t < 48; rw [if_pos h9, if_pos (by omega)]; rw [if_neg h9, if_neg (by omega)])
    · refine z_bipush K dX8_write_11 (by decide +kernel) ?_
      exact z_iretd K T rfl dX8_write_13 (if_neg (by omega)).symm (if_neg (by omega)).symm
set_option maxHeartbeats 4000000 in
set_option maxRecDepth 100000 in
theorem cp_wipe (la : Launch) (g0 : zG) (ad : Nat → Nat) (μ : zMem)  : zCon la g0 yX8_wipe cX8_wipe 1 (some .int) 1 ad zSH [.ref (ad 0)] μ (zPd (zup μ 1 (zu1 (μ 1) 1 0)) (μ 1 1)) := by
  refine zCon_of (by decide +kernel) (Nat.le_of_ble_eq_true rfl) ?_
  intro χ K T hl1 hg1
  have K : zOk χ cX8_wipe RX8 1 1 (some .int) := K
  show zV χ 1 ad zSH 0 0 0 [(0, .ref (ad 0))] [] μ
  refine z_aload_n K dX8_wipe_0 rfl ?_
  refine z_get (k := 0) (v := .ref (ad 1)) K dX8_wipe_1 fl_X8_10 rfl rfl rfl ?_
  refine z_callVd K hl1 hg1 (kb := 1) (As := []) (rest := []) (ct_script_clear la g0 ad μ) (by decide) lk_X8_79 cd_X5_clear rfl rfl rfl rfl (Nat.le_of_ble_eq_true rfl) dX8_wipe_4 ?_
  exact z_iretd K T rfl dX8_wipe_7 rfl rfl
set_option maxHeartbeats 4000000 in
set_option maxRecDepth 100000 in
theorem cp_about (la : Launch) (g0 : zG) (ad : Nat → Nat) (μ : zMem) (n nc : Nat) (hp : zPlan μ n nc) (hv : zHV n nc (μ 18)) (x : Int) (hx : zR x) : zCon la g0 yX8_about cX8_about 2 (some .int) 2 ad zSH [.ref (ad 0), .int (zi x)] μ (zPd μ (zA_about n nc (μ 18) (μ 28 2) (μ 34 2) (μ 1 1) x)) := by
  refine zCon_of (by decide +kernel) (Nat.le_of_ble_eq_true rfl) ?_
  intro χ K T hl1 hg1
  have K : zOk χ cX8_about RX8 2 2 (some .int) := K
  obtain ⟨hn, hn6, hnc, hnc3, hpl, hpk⟩ := id hp
  show zV χ 2 ad zSH 0 0 0 [(0, .ref (ad 0)), (1, .int (zi x))] [] μ
  refine z_iload_n K dX8_about_0 rfl ?_
  rcases (show x = 0 ∨ x = 1 ∨ x = 2 ∨ x = 3 ∨ x = 4 ∨ x = 5 ∨ x = 6 ∨ x = 7 ∨ x = 8 ∨ x = 9 ∨ x = 10 ∨ x = 11 ∨ (x < 0 ∨ 11 < x) by omega) with hsw | hsw | hsw | hsw | hsw | hsw | hsw | hsw | hsw | hsw | hsw | hsw | hsw
  · refine z_tableIn (off := 63) (tgt := 64) K dX8_about_1 (by omega) (by omega) (by omega) (by rw [hsw]; rfl) (by decide) ?_
    refine z_aload_n K dX8_about_64 rfl ?_
    refine z_get (k := 0) (v := .ref (ad 10)) K dX8_about_65 fl_X8_19 rfl rfl rfl ?_
    refine z_get (k := 10) (v := .int (zi (μ 10 0))) K dX8_about_68 fl_X8_95 rfl rfl rfl ?_
    exact z_iretd K T rfl dX8_about_71 (by unfold zA_about; omega) rfl
  · refine z_tableIn (off := 71) (tgt := 72) K dX8_about_1 (by omega) (by omega) (by omega) (by rw [hsw]; rfl) (by decide) ?_
    refine z_aload_n K dX8_about_72 rfl ?_
    refine z_get (k := 0) (v := .ref (ad 10)) K dX8_about_73 fl_X8_19 rfl rfl rfl ?_
    refine z_get (k := 10) (v := .int (zi (μ 10 1))) K dX8_about_76 fl_X8_99 rfl rfl rfl ?_
    exact z_iretd K T rfl dX8_about_79 (by unfold zA_about; omega) rfl
  · refine z_tableIn (off := 79) (tgt := 80) K dX8_about_1 (by omega) (by omega) (by omega) (by rw [hsw]; rfl) (by decide) ?_
    refine z_aload_n K dX8_about_80 rfl ?_
    refine z_get (k := 0) (v := .ref (ad 17)) K dX8_about_81 fl_X8_28 rfl rfl rfl ?_
    refine z_callVd K hl1 hg1 (kb := 17) (As := []) (rest := []) (ct_theDay la g0 ad μ) (by decide) lk_X8_102 cd_X1_theDay rfl rfl rfl rfl (Nat.le_of_ble_eq_true rfl) dX8_about_84 ?_
    exact z_iretd K T rfl dX8_about_87 (by unfold zA_about; omega) rfl
  · refine z_tableIn (off := 87) (tgt := 88) K dX8_about_1 (by omega) (by omega) (by omega) (by rw [hsw]; rfl) (by decide) ?_
    refine z_aload_n K dX8_about_88 rfl ?_
    refine z_get (k := 0) (v := .ref (ad 17)) K dX8_about_89 fl_X8_28 rfl rfl rfl ?_
    refine z_callVd K hl1 hg1 (kb := 17) (As := []) (rest := []) (ct_grain la g0 ad μ) (by decide) lk_X8_105 cd_X1_grain rfl rfl rfl rfl (Nat.le_of_ble_eq_true rfl) dX8_about_92 ?_
    exact z_iretd K T rfl dX8_about_95 (by unfold zA_about; omega) rfl
  · refine z_tableIn (off := 95) (tgt := 96) K dX8_about_1 (by omega) (by omega) (by omega) (by rw [hsw]; rfl) (by decide) ?_
    refine z_aload_n K dX8_about_96 rfl ?_
    refine z_get (k := 0) (v := .ref (ad 17)) K dX8_about_97 fl_X8_28 rfl rfl rfl ?_
    refine z_iconst K dX8_about_100 ?_
    refine z_callVd K hl1 hg1 (kb := 17) (As := [.int (zi (0 : Int))]) (rest := []) (ct_who_n la g0 ad μ n nc hp hv.1 0 ⟨by decide, by decide⟩) (by decide) lk_X8_108 cd_X1_who rfl rfl rfl rfl (Nat.le_of_ble_eq_true rfl) dX8_about_101 ?_
    exact z_iretd K T rfl dX8_about_104 (by unfold zA_about; omega) rfl
  · refine z_tableIn (off := 104) (tgt := 105) K dX8_about_1 (by omega) (by omega) (by omega) (by rw [hsw]; rfl) (by decide) ?_
    refine z_aload_n K dX8_about_105 rfl ?_
    refine z_get (k := 0) (v := .ref (ad 17)) K dX8_about_106 fl_X8_28 rfl rfl rfl ?_
    refine z_iconst K dX8_about_109 ?_
    refine z_callVd K hl1 hg1 (kb := 17) (As := [.int (zi (1 : Int))]) (rest := []) (ct_who_n la g0 ad μ n nc hp hv.1 1 ⟨by decide, by decide⟩) (by decide) lk_X8_108 cd_X1_who rfl rfl rfl rfl (Nat.le_of_ble_eq_true rfl) dX8_about_110 ?_
    exact z_iretd K T rfl dX8_about_113 (by unfold zA_about; omega) rfl
  · refine z_tableIn (off := 113) (tgt := 114) K dX8_about_1 (by omega) (by omega) (by omega) (by rw [hsw]; rfl) (by decide) ?_
    refine z_aload_n K dX8_about_114 rfl ?_
    refine z_get (k := 0) (v := .ref (ad 17)) K dX8_about_115 fl_X8_28 rfl rfl rfl ?_
    refine z_iconst K dX8_about_118 ?_
    refine z_callVd K hl1 hg1 (kb := 17) (As := [.int (zi (2 : Int))]) (rest := []) (ct_who_n la g0 ad μ n nc hp hv.1 2 ⟨by decide, by decide⟩) (by decide) lk_X8_108 cd_X1_who rfl rfl rfl rfl (Nat.le_of_ble_eq_true rfl) dX8_about_119 ?_
    exact z_iretd K T rfl dX8_about_122 (by unfold zA_about; omega) rfl
  · refine z_tableIn (off := 122) (tgt := 123) K dX8_about_1 (by omega) (by omega) (by omega) (by rw [hsw]; rfl) (by decide) ?_
    refine z_aload_n K dX8_about_123 rfl ?_
    refine z_get (k := 0) (v := .ref (ad 17)) K dX8_about_124 fl_X8_28 rfl rfl rfl ?_
    refine z_iconst K dX8_about_127 ?_
    refine z_callVd K hl1 hg1 (kb := 17) (As := [.int (zi (3 : Int))]) (rest := []) (ct_who_n la g0 ad μ n nc hp hv.1 3 ⟨by decide, by decide⟩) (by decide) lk_X8_108 cd_X1_who rfl rfl rfl rfl (Nat.le_of_ble_eq_true rfl) dX8_about_128 ?_
    exact z_iretd K T rfl dX8_about_131 (by unfold zA_about; omega) rfl
  · refine z_tableIn (off := 131) (tgt := 132) K dX8_about_1 (by omega) (by omega) (by omega) (by rw [hsw]; rfl) (by decide) ?_
    refine z_aload_n K dX8_about_132 rfl ?_
    refine z_get (k := 0) (v := .ref (ad 17)) K dX8_about_133 fl_X8_28 rfl rfl rfl ?_
    refine z_callVd K hl1 hg1 (kb := 17) (As := []) (rest := []) (ct_pairs la g0 ad μ n nc hp hv.1) (by decide) lk_X8_111 cd_X1_pairs rfl rfl rfl rfl (Nat.le_of_ble_eq_true rfl) dX8_about_136 ?_
    exact z_iretd K T rfl dX8_about_139 (by unfold zA_about; omega) rfl
  · refine z_tableIn (off := 139) (tgt := 140) K dX8_about_1 (by omega) (by omega) (by omega) (by rw [hsw]; rfl) (by decide) ?_
    refine z_aload_n K dX8_about_140 rfl ?_
    refine z_get (k := 0) (v := .ref (ad 28)) K dX8_about_141 fl_X8_44 rfl rfl rfl ?_
    refine z_get (k := 28) (v := .int (zi (μ 28 2))) K dX8_about_144 fl_X8_114 rfl rfl rfl ?_
    exact z_iretd K T rfl dX8_about_147 (by unfold zA_about; omega) rfl
  · refine z_tableIn (off := 147) (tgt := 148) K dX8_about_1 (by omega) (by omega) (by omega) (by rw [hsw]; rfl) (by decide) ?_
    refine z_aload_n K dX8_about_148 rfl ?_
    refine z_get (k := 0) (v := .ref (ad 34)) K dX8_about_149 fl_X8_64 rfl rfl rfl ?_
    refine z_get (k := 34) (v := .int (zi (μ 34 2))) K dX8_about_152 fl_X8_117 rfl rfl rfl ?_
    exact z_iretd K T rfl dX8_about_155 (by unfold zA_about; omega) rfl
  · refine z_tableIn (off := 155) (tgt := 156) K dX8_about_1 (by omega) (by omega) (by omega) (by rw [hsw]; rfl) (by decide) ?_
    refine z_aload_n K dX8_about_156 rfl ?_
    refine z_get (k := 0) (v := .ref (ad 1)) K dX8_about_157 fl_X8_10 rfl rfl rfl ?_
    refine z_get (k := 1) (v := .int (zi (μ 1 1))) K dX8_about_160 fl_X8_118 rfl rfl rfl ?_
    exact z_iretd K T rfl dX8_about_163 (by unfold zA_about; omega) rfl
  · refine z_tableOut (tgt := 164) K dX8_about_1 (by omega) hsw (by decide) ?_
    refine z_bipush K dX8_about_164 (by decide +kernel) ?_
    exact z_iretd K T rfl dX8_about_166 (by unfold zA_about; omega) rfl
set_option maxHeartbeats 4000000 in
set_option maxRecDepth 100000 in
theorem cp_letter (la : Launch) (g0 : zG) (ad : Nat → Nat) (μ : zMem) (n nc : Nat) (hp : zPlan μ n nc) (hv : zHV n nc (μ 18)) (x w : Int) (hx : zR x) (hw : zR w) : zCon la g0 yX8_letter cX8_letter 3 (some .int) 1 ad zSH [.ref (ad 0), .int (zi x), .int (zi w)] μ (zPd μ (zA_letter n nc (μ 13) (μ 12) (μ 14) (μ 18) x w)) := by
  refine zCon_of (by decide +kernel) (Nat.le_of_ble_eq_true rfl) ?_
  intro χ K T hl1 hg1
  have K : zOk χ cX8_letter RX8 3 1 (some .int) := K
  obtain ⟨hn, hn6, hnc, hnc3, hpl, hpk⟩ := id hp
  show zV χ 3 ad zSH 0 0 0 [(0, .ref (ad 0)), (1, .int (zi x)), (2, .int (zi w))] [] μ
  refine z_aload_n K dX8_letter_0 rfl ?_
  refine z_get (k := 0) (v := .ref (ad 10)) K dX8_letter_1 fl_X8_19 rfl rfl rfl ?_
  refine z_iload_n K dX8_letter_4 rfl ?_
  refine z_callVd K hl1 hg1 (kb := 10) (As := [.int (zi x)]) (rest := []) (ct_hasLetter la g0 ad μ n nc hp x (by omega)) (by decide) lk_X8_121 cd_X4_hasLetter rfl rfl rfl rfl (Nat.le_of_ble_eq_true rfl) dX8_letter_5 ?_
  refine z_ifne (tgt := 13) K dX8_letter_8 (by decide) (by omega) (fun h8 => ?_) (fun h8 => ?_)
  · obtain ⟨l, rfl⟩ : ∃ l : Nat, x = (l : Int) := ⟨x.toNat, by omega⟩
    have hvl := hv.1.1 l (by omega)
    refine z_iload_n K dX8_letter_13 rfl ?_
    rcases (show w = 0 ∨ w = 1 ∨ w = 2 ∨ w = 3 ∨ w = 4 ∨ w = 5 ∨ (w < 0 ∨ 5 < w) by omega) with hsw | hsw | hsw | hsw | hsw | hsw | hsw
    · refine z_tableIn (off := 38) (tgt := 52) K dX8_letter_14 (by omega) (by omega) (by omega) (by rw [hsw]; rfl) (by decide) ?_
      refine z_aload_n K dX8_letter_52 rfl ?_
      refine z_get (k := 0) (v := .ref (ad 17)) K dX8_letter_53 fl_X8_28 rfl rfl rfl ?_
      refine z_iload_n K dX8_letter_56 rfl ?_
      refine z_callVd K hl1 hg1 (kb := 17) (As := [.int (zi ((l : Nat) : Int))]) (rest := []) (ct_holeOf la g0 ad μ n nc hp hv.1 l (by omega)) (by decide) lk_X8_125 cd_X1_holeOf rfl rfl rfl rfl (Nat.le_of_ble_eq_true rfl) dX8_letter_57 ?_
      exact z_iretd K T rfl dX8_letter_60 (by unfold zA_letter; simp only [Int.toNat_natCast]; omega) rfl
    · refine z_tableIn (off := 47) (tgt := 61) K dX8_letter_14 (by omega) (by omega) (by omega) (by rw [hsw]; rfl) (by decide) ?_
      refine z_aload_n K dX8_letter_61 rfl ?_
      refine z_get (k := 0) (v := .ref (ad 10)) K dX8_letter_62 fl_X8_19 rfl rfl rfl ?_
      refine z_get (k := 10) (v := .ref (ad 12)) K dX8_letter_65 fl_X8_128 rfl rfl rfl ?_
      refine z_iload_n K dX8_letter_68 rfl ?_
      refine z_iald (k := 12) (v := μ 12 l) K dX8_letter_69 l rfl (by decide) (by omega) (by omega) rfl ?_
      exact z_iretd K T rfl dX8_letter_70 (by unfold zA_letter; simp only [Int.toNat_natCast]; omega) rfl
    · refine z_tableIn (off := 57) (tgt := 71) K dX8_letter_14 (by omega) (by omega) (by omega) (by rw [hsw]; rfl) (by decide) ?_
      refine z_aload_n K dX8_letter_71 rfl ?_
      refine z_get (k := 0) (v := .ref (ad 10)) K dX8_letter_72 fl_X8_19 rfl rfl rfl ?_
      refine z_get (k := 10) (v := .ref (ad 13)) K dX8_letter_75 fl_X8_132 rfl rfl rfl ?_
      refine z_iload_n K dX8_letter_78 rfl ?_
      refine z_iald (k := 13) (v := μ 13 l) K dX8_letter_79 l rfl (by decide) (by omega) (by omega) rfl ?_
      exact z_iretd K T rfl dX8_letter_80 (by unfold zA_letter; simp only [Int.toNat_natCast]; omega) rfl
    · refine z_tableIn (off := 67) (tgt := 81) K dX8_letter_14 (by omega) (by omega) (by omega) (by rw [hsw]; rfl) (by decide) ?_
      refine z_aload_n K dX8_letter_81 rfl ?_
      refine z_get (k := 0) (v := .ref (ad 17)) K dX8_letter_82 fl_X8_28 rfl rfl rfl ?_
      refine z_iload_n K dX8_letter_85 rfl ?_
      refine z_callVd K hl1 hg1 (kb := 17) (As := [.int (zi ((l : Nat) : Int))]) (rest := []) (ct_fateOf_n la g0 ad μ n nc hp hv.1 l (by omega)) (by decide) lk_X8_135 cd_X1_fateOf rfl rfl rfl rfl (Nat.le_of_ble_eq_true rfl) dX8_letter_86 ?_
      exact z_iretd K T rfl dX8_letter_89 (by unfold zA_letter; simp only [Int.toNat_natCast]; omega) rfl
    · refine z_tableIn (off := 76) (tgt := 90) K dX8_letter_14 (by omega) (by omega) (by omega) (by rw [hsw]; rfl) (by decide) ?_
      refine z_aload_n K dX8_letter_90 rfl ?_
      refine z_get (k := 0) (v := .ref (ad 17)) K dX8_letter_91 fl_X8_28 rfl rfl rfl ?_
      refine z_iload_n K dX8_letter_94 rfl ?_
      refine z_callVd K hl1 hg1 (kb := 17) (As := [.int (zi ((l : Nat) : Int))]) (rest := []) (ct_waitedOf la g0 ad μ n nc hp hv.1 l (by omega)) (by decide) lk_X8_138 cd_X1_waitedOf rfl rfl rfl rfl (Nat.le_of_ble_eq_true rfl) dX8_letter_95 ?_
      exact z_iretd K T rfl dX8_letter_98 (by unfold zA_letter; simp only [Int.toNat_natCast]; omega) rfl
    · refine z_tableIn (off := 85) (tgt := 99) K dX8_letter_14 (by omega) (by omega) (by omega) (by rw [hsw]; rfl) (by decide) ?_
      refine z_aload_n K dX8_letter_99 rfl ?_
      refine z_get (k := 0) (v := .ref (ad 17)) K dX8_letter_100 fl_X8_28 rfl rfl rfl ?_
      refine z_iload_n K dX8_letter_103 rfl ?_
      refine z_callVd K hl1 hg1 (kb := 17) (As := [.int (zi ((l : Nat) : Int))]) (rest := []) (ct_fateOf_n la g0 ad μ n nc hp hv.1 l (by omega)) (by decide) lk_X8_135 cd_X1_fateOf rfl rfl rfl rfl (Nat.le_of_ble_eq_true rfl) dX8_letter_104 ?_
      refine z_ifne (tgt := 121) K dX8_letter_107 (by decide) (by omega) (fun h107 => ?_) (fun h107 => ?_)
      · refine z_bipush K dX8_letter_121 (by decide +kernel) ?_
        exact z_iretd K T rfl dX8_letter_123 (by unfold zA_letter; simp only [Int.toNat_natCast]; omega) rfl
      · refine z_aload_n K dX8_letter_110 rfl ?_
        refine z_get (k := 0) (v := .ref (ad 17)) K dX8_letter_111 fl_X8_28 rfl rfl rfl ?_
        refine z_iload_n K dX8_letter_114 rfl ?_
        refine z_callVd K hl1 hg1 (kb := 17) (As := [.int (zi ((l : Nat) : Int))]) (rest := []) (ct_daysLeft_n la g0 ad μ n nc hp hv.1 l (by omega)) (by decide) lk_X8_141 cd_X1_daysLeft rfl rfl rfl rfl (Nat.le_of_ble_eq_true rfl) dX8_letter_115 ?_
        refine z_goto (tgt := 123) K dX8_letter_118 (by decide) ?_
        exact z_iretd K T rfl dX8_letter_123 (by unfold zA_letter; simp only [Int.toNat_natCast]; omega) rfl
    · refine z_tableOut (tgt := 124) K dX8_letter_14 (by omega) hsw (by decide) ?_
      refine z_bipush K dX8_letter_124 (by decide +kernel) ?_
      exact z_iretd K T rfl dX8_letter_126 (by unfold zA_letter; simp only [Int.toNat_natCast]; omega) rfl
  · refine z_iconst K dX8_letter_11 ?_
    exact z_iretd K T rfl dX8_letter_12 (by unfold zA_letter; omega) rfl
set_option maxHeartbeats 4000000 in
set_option maxRecDepth 100000 in
theorem cp_clerk (la : Launch) (g0 : zG) (ad : Nat → Nat) (μ : zMem) (n nc : Nat) (hp : zPlan μ n nc) (hv : zHV n nc (μ 18)) (x w : Int) (hx : zR x) (hw : zR w) : zCon la g0 yX8_clerk cX8_clerk 3 (some .int) 1 ad zSH [.ref (ad 0), .int (zi x), .int (zi w)] μ (zPd μ (zA_clerk nc (μ 16) (μ 18) x w)) := by
  refine zCon_of (by decide +kernel) (Nat.le_of_ble_eq_true rfl) ?_
  intro χ K T hl1 hg1
  have K : zOk χ cX8_clerk RX8 3 1 (some .int) := K
  obtain ⟨hn, hn6, hnc, hnc3, hpl, hpk⟩ := id hp
  show zV χ 3 ad zSH 0 0 0 [(0, .ref (ad 0)), (1, .int (zi x)), (2, .int (zi w))] [] μ
  refine z_aload_n K dX8_clerk_0 rfl ?_
  refine z_get (k := 0) (v := .ref (ad 10)) K dX8_clerk_1 fl_X8_19 rfl rfl rfl ?_
  refine z_iload_n K dX8_clerk_4 rfl ?_
  refine z_callVd K hl1 hg1 (kb := 10) (As := [.int (zi x)]) (rest := []) (ct_hasClerk la g0 ad μ n nc hp x (by omega)) (by decide) lk_X8_144 cd_X4_hasClerk rfl rfl rfl rfl (Nat.le_of_ble_eq_true rfl) dX8_clerk_5 ?_
  refine z_ifne (tgt := 13) K dX8_clerk_8 (by decide) (by omega) (fun h8 => ?_) (fun h8 => ?_)
  · obtain ⟨l, rfl⟩ : ∃ l : Nat, x = (l : Int) := ⟨x.toNat, by omega⟩
    refine z_iload_n K dX8_clerk_13 rfl ?_
    rcases (show w = 0 ∨ w = 1 ∨ (w ≠ 0 ∧ w ≠ 1) by omega) with hsw | hsw | hsw
    · refine z_lookup (off := 26) (tgt := 40) K dX8_clerk_14 (by omega) (by decide) (by rw [hsw]; rfl) (by decide) ?_
      refine z_aload_n K dX8_clerk_40 rfl ?_
      refine z_get (k := 0) (v := .ref (ad 17)) K dX8_clerk_41 fl_X8_28 rfl rfl rfl ?_
      refine z_iload_n K dX8_clerk_44 rfl ?_
      refine z_callVd K hl1 hg1 (kb := 17) (As := [.int (zi ((l : Nat) : Int))]) (rest := []) (ct_rowOf la g0 ad μ n nc hp hv.1 l (by omega)) (by decide) lk_X8_147 cd_X1_rowOf rfl rfl rfl rfl (Nat.le_of_ble_eq_true rfl) dX8_clerk_45 ?_
      exact z_iretd K T rfl dX8_clerk_48 (by unfold zA_clerk; simp only [Int.toNat_natCast]; omega) rfl
    · refine z_lookup (off := 35) (tgt := 49) K dX8_clerk_14 (by omega) (by decide) (by rw [hsw]; rfl) (by decide) ?_
      refine z_aload_n K dX8_clerk_49 rfl ?_
      refine z_get (k := 0) (v := .ref (ad 10)) K dX8_clerk_50 fl_X8_19 rfl rfl rfl ?_
      refine z_get (k := 10) (v := .ref (ad 16)) K dX8_clerk_53 fl_X8_150 rfl rfl rfl ?_
      refine z_iload_n K dX8_clerk_56 rfl ?_
      refine z_iald (k := 16) (v := μ 16 l) K dX8_clerk_57 l rfl (by decide) (by omega) (by omega) rfl ?_
      exact z_iretd K T rfl dX8_clerk_58 (by unfold zA_clerk; simp only [Int.toNat_natCast]; omega) rfl
    · refine z_lookup (off := 45) (tgt := 59) K dX8_clerk_14 (by omega) (by decide) (by rw [show (#[((0 : Int), (26 : Int)), (1, 35)] : Array (Int × Int)).toList = [(0, 26), (1, 35)] from rfl, Op.lookupswitch.offset_cons, if_neg (fun q => hsw.1 q.symm), Op.lookupswitch.offset_cons, if_neg (fun q => hsw.2 q.symm)]; rfl) (by decide) ?_
      refine z_bipush K dX8_clerk_59 (by decide +kernel) ?_
      exact z_iretd K T rfl dX8_clerk_61 (by unfold zA_clerk; simp only [Int.toNat_natCast]; omega) rfl
  · refine z_iconst K dX8_clerk_11 ?_
    exact z_iretd K T rfl dX8_clerk_12 (by unfold zA_clerk; omega) rfl
set_option maxHeartbeats 4000000 in
set_option maxRecDepth 100000 in
theorem cp_hole (la : Launch) (g0 : zG) (ad : Nat → Nat) (μ : zMem) (n nc : Nat) (hp : zPlan μ n nc) (hv : zHV n nc (μ 18)) (x : Int) (hx : zR x) : zCon la g0 yX8_hole cX8_hole 2 (some .int) 1 ad zSH [.ref (ad 0), .int (zi x)] μ (zPd μ (zA_hole n (μ 18) x)) := by
  refine zCon_of (by decide +kernel) (Nat.le_of_ble_eq_true rfl) ?_
  intro χ K T hl1 hg1
  have K : zOk χ cX8_hole RX8 2 1 (some .int) := K
  obtain ⟨hn, hn6, hnc, hnc3, hpl, hpk⟩ := id hp
  show zV χ 2 ad zSH 0 0 0 [(0, .ref (ad 0)), (1, .int (zi x))] [] μ
  refine z_iload_n K dX8_hole_0 rfl ?_
  refine z_callSd K hl1 hg1 (As := [.int (zi x)]) (rest := []) (ct_isHole la g0 ad μ x hx) (by decide) lk_X8_153 cd_X8_isHole rfl rfl (Nat.le_of_ble_eq_true rfl) dX8_hole_1 ?_
  refine z_ifeq (tgt := 18) K dX8_hole_4 (by decide) (by omega) (fun h4 => ?_) (fun h4 => ?_)
  · refine z_iconst K dX8_hole_18 ?_
    exact z_iretd K T rfl dX8_hole_19 (by unfold zA_hole; omega) rfl
  · refine z_aload_n K dX8_hole_7 rfl ?_
    refine z_get (k := 0) (v := .ref (ad 17)) K dX8_hole_8 fl_X8_28 rfl rfl rfl ?_
    refine z_iload_n K dX8_hole_11 rfl ?_
    refine z_callVd K hl1 hg1 (kb := 17) (As := [.int (zi x)]) (rest := []) (ct_whoIsIn_n la g0 ad μ n nc hp hv.1 x hx) (by decide) lk_X8_156 cd_X1_whoIsIn rfl rfl rfl rfl (Nat.le_of_ble_eq_true rfl) dX8_hole_12 ?_
    refine z_goto (tgt := 19) K dX8_hole_15 (by decide) ?_
    exact z_iretd K T rfl dX8_hole_19 (by unfold zA_hole; omega) rfl
set_option maxHeartbeats 4000000 in
set_option maxRecDepth 100000 in
theorem cp_day (la : Launch) (g0 : zG) (ad : Nat → Nat) (μ : zMem) (n nc : Nat) (hp : zPlan μ n nc) (hv : zHV n nc (μ 18)) (f k : Nat) (hf : μ 28 1 = (f : Int)) (hf14 : f < 14) (hk : μ 28 2 = (k : Int)) (hk14 : k ≤ 14) (hz : μ 29 0 = 14) : zCon la g0 yX8_day cX8_day 1 (some .int) 4 ad zSH [.ref (ad 0)] μ (zPd (zup (zup (zup (zup μ 30 (zcpy (μ 18) (μ 30) 0 ((f + k) % 14 * 23) 23)) 28 (if k < 14 then zu1 (μ 28) 2 ((k : Int) + 1) else zu1 (μ 28) 1 (((f + 1) % 14 : Nat) : Int))) 18 (zday n (μ 13) (μ 14) nc (μ 16) (μ 18, μ 19)).1) 19 (zday n (μ 13) (μ 14) nc (μ 16) (μ 18, μ 19)).2) ((zdayM n (μ 13) (μ 14) nc (μ 16) (μ 18, μ 19) : Nat) : Int)) := by
  refine zCon_of (by decide +kernel) (Nat.le_of_ble_eq_true rfl) ?_
  intro χ K T hl1 hg1
  have K : zOk χ cX8_day RX8 1 4 (some .int) := K
  obtain ⟨hn, hn6, hnc, hnc3, hpl, hpk⟩ := id hp
  show zV χ 1 ad zSH 0 0 0 [(0, .ref (ad 0))] [] μ
  refine z_aload_n K dX8_day_0 rfl ?_
  refine z_get (k := 0) (v := .ref (ad 28)) K dX8_day_1 fl_X8_44 rfl rfl rfl ?_
  refine z_aload_n K dX8_day_4 rfl ?_
  refine z_get (k := 0) (v := .ref (ad 17)) K dX8_day_5 fl_X8_28 rfl rfl rfl ?_
  refine z_callVm K hl1 hg1 (kb := 28) (As := [.ref (ad 17)]) (rest := []) (ct_remember la g0 ad μ f k hf hf14 hk hk14 hz) (by decide) lk_X8_159 cd_X3_remember rfl rfl rfl rfl (Nat.le_of_ble_eq_true rfl) dX8_day_8 ?_
  refine z_mem (ν := zup (zup (zup (zup μ 30 (zcpy (μ 18) (μ 30) 0 ((f + k) % 14 * 23) 23)) 28 (if k < 14 then zu1 (μ 28) 2 ((k : Int) + 1) else zu1 (μ 28) 1 (((f + 1) % 14 : Nat) : Int))) 18 (μ 18)) 19 (μ 19)) (zup_id2 (zup (zup μ 30 (zcpy (μ 18) (μ 30) 0 ((f + k) % 14 * 23) 23)) 28 (if k < 14 then zu1 (μ 28) 2 ((k : Int) + 1) else zu1 (μ 28) 1 (((f + 1) % 14 : Nat) : Int))) 18 19 (by decide)) ?_
  refine z_aload_n K dX8_day_11 rfl ?_
  refine z_get (k := 0) (v := .ref (ad 17)) K dX8_day_12 fl_X8_28 rfl rfl rfl ?_
  refine z_callVd K hl1 hg1 (kb := 17) (As := []) (rest := []) (ct_passDay_n la g0 ad (zup (zup μ 30 (zcpy (μ 18) (μ 30) 0 ((f + k) % 14 * 23) 23)) 28 (if k < 14 then zu1 (μ 28) 2 ((k : Int) + 1) else zu1 (μ 28) 1 (((f + 1) % 14 : Nat) : Int))) n nc hp (μ 18) (μ 19) hv) (by decide) lk_X8_163 cd_X1_passDay rfl rfl rfl rfl (Nat.le_of_ble_eq_true rfl) dX8_day_15 ?_
  show zV χ 1 ad zSH 0 0 18 [(0, .ref (ad 0))] [.int (zi ((zdayM n (μ 13) (μ 14) nc (μ 16) (μ 18, μ 19) : Nat) : Int))] (zup (zup (zup (zup μ 30 (zcpy (μ 18) (μ 30) 0 ((f + k) % 14 * 23) 23)) 28 (if k < 14 then zu1 (μ 28) 2 ((k : Int) + 1) else zu1 (μ 28) 1 (((f + 1) % 14 : Nat) : Int))) 18 ((zday n (μ 13) (μ 14) nc (μ 16) (μ 18, μ 19)).1)) 19 ((zday n (μ 13) (μ 14) nc (μ 16) (μ 18, μ 19)).2))
  exact z_iretd K T rfl dX8_day_18 rfl rfl
set_option maxHeartbeats 4000000 in
set_option maxRecDepth 100000 in
theorem cp_put (la : Launch) (g0 : zG) (ad : Nat → Nat) (μ : zMem) (n nc : Nat) (hp : zPlan μ n nc) (hv : zHV n nc (μ 18)) (f k : Nat) (hf : μ 28 1 = (f : Int)) (hf14 : f < 14) (hk : μ 28 2 = (k : Int)) (hk14 : k ≤ 14) (hz : μ 29 0 = 14) (x y : Int) (hx : zR x) (hy : zR y) : zCon la g0 yX8_put cX8_put 4 (some .int) 3 ad zSH [.ref (ad 0), .int (zi x), .int (zi y)] μ (zPd (if zcpI n (μ 18) x y = 0 then μ else zup (zup (zup μ 30 (zcpy (μ 18) (μ 30) 0 ((f + k) % 14 * 23) 23)) 28 (if k < 14 then zu1 (μ 28) 2 ((k : Int) + 1) else zu1 (μ 28) 1 (((f + 1) % 14 : Nat) : Int))) 18 (zu1 (μ 18) x.toNat y)) (if ¬ ((0 ≤ x ∧ x < (n : Int)) ∧ 0 ≤ y ∧ y < 12) then -1 else if zcpI n (μ 18) x y = 0 then -3 else μ 18 x.toNat)) := by
  refine zCon_of (by decide +kernel) (Nat.le_of_ble_eq_true rfl) ?_
  intro χ K T hl1 hg1
  have K : zOk χ cX8_put RX8 4 3 (some .int) := K
  obtain ⟨hn, hn6, hnc, hnc3, hpl, hpk⟩ := id hp
  show zV χ 4 ad zSH 0 0 0 [(0, .ref (ad 0)), (1, .int (zi x)), (2, .int (zi y))] [] μ
  refine z_aload_n K dX8_put_0 rfl ?_
  refine z_get (k := 0) (v := .ref (ad 10)) K dX8_put_1 fl_X8_19 rfl rfl rfl ?_
  refine z_iload_n K dX8_put_4 rfl ?_
  refine z_callVd K hl1 hg1 (kb := 10) (As := [.int (zi x)]) (rest := []) (ct_hasLetter la g0 ad μ n nc hp x (by omega)) (by decide) lk_X8_121 cd_X4_hasLetter rfl rfl rfl rfl (Nat.le_of_ble_eq_true rfl) dX8_put_5 ?_
  refine z_ifeq (tgt := 18) K dX8_put_8 (by decide) (by omega) (fun h8 => ?_) (fun h8 => ?_)
  · refine z_iconst K dX8_put_18 ?_
    exact z_iretd K T rfl dX8_put_19 (if_pos (by omega)).symm (by rw [if_pos (by unfold zcpI; rw [if_neg (by omega)])])
  · refine z_iload_n K dX8_put_11 rfl ?_
    refine z_callSd K hl1 hg1 (As := [.int (zi y)]) (rest := []) (ct_isHole la g0 ad μ y hy) (by decide) lk_X8_153 cd_X8_isHole rfl rfl (Nat.le_of_ble_eq_true rfl) dX8_put_12 ?_
    refine z_ifne (tgt := 20) K dX8_put_15 (by decide) (by omega) (fun h15 => ?_) (fun h15 => ?_)
    · refine z_aload_n K dX8_put_20 rfl ?_
      refine z_get (k := 0) (v := .ref (ad 17)) K dX8_put_21 fl_X8_28 rfl rfl rfl ?_
      refine z_iload_n K dX8_put_24 rfl ?_
      refine z_iload_n K dX8_put_25 rfl ?_
      refine z_callVd K hl1 hg1 (kb := 17) (As := [.int (zi x), .int (zi y)]) (rest := []) (ct_canPut_n la g0 ad μ n nc hp hv.1 x y hx hy) (by decide) lk_X8_166 cd_X1_canPut rfl rfl rfl rfl (Nat.le_of_ble_eq_true rfl) dX8_put_26 ?_
      show zV χ 4 ad zSH 0 0 29 [(0, .ref (ad 0)), (1, .int (zi x)), (2, .int (zi y))] [.int (zi (zcpI n (μ 18) x y))] μ
      have hrg := zcpI_rg n (μ 18) x y
      refine z_ifne (tgt := 35) K dX8_put_29 (by decide) (by omega) (fun h29 => ?_) (fun h29 => ?_)
      · obtain ⟨l, rfl⟩ : ∃ l : Nat, x = (l : Int) := ⟨x.toNat, by omega⟩
        refine z_aload_n K dX8_put_35 rfl ?_
        refine z_get (k := 0) (v := .ref (ad 17)) K dX8_put_36 fl_X8_28 rfl rfl rfl ?_
        refine z_iload_n K dX8_put_39 rfl ?_
        refine z_callVd K hl1 hg1 (kb := 17) (As := [.int (zi ((l : Nat) : Int))]) (rest := []) (ct_holeOf la g0 ad μ n nc hp hv.1 l (by omega)) (by decide) lk_X8_125 cd_X1_holeOf rfl rfl rfl rfl (Nat.le_of_ble_eq_true rfl) dX8_put_40 ?_
        refine z_istore_n (lv' := [(0, .ref (ad 0)), (1, .int (zi ((l : Nat) : Int))), (2, .int (zi y)), (3, .int (zi (μ 18 l)))]) K dX8_put_43 (by decide) rfl ?_
        refine z_aload_n K dX8_put_44 rfl ?_
        refine z_get (k := 0) (v := .ref (ad 28)) K dX8_put_45 fl_X8_44 rfl rfl rfl ?_
        refine z_aload_n K dX8_put_48 rfl ?_
        refine z_get (k := 0) (v := .ref (ad 17)) K dX8_put_49 fl_X8_28 rfl rfl rfl ?_
        refine z_callVm K hl1 hg1 (kb := 28) (As := [.ref (ad 17)]) (rest := []) (ct_remember la g0 ad μ f k hf hf14 hk hk14 hz) (by decide) lk_X8_159 cd_X3_remember rfl rfl rfl rfl (Nat.le_of_ble_eq_true rfl) dX8_put_52 ?_
        refine z_aload_n K dX8_put_55 rfl ?_
        refine z_get (k := 0) (v := .ref (ad 17)) K dX8_put_56 fl_X8_28 rfl rfl rfl ?_
        refine z_iload_n K dX8_put_59 rfl ?_
        refine z_iload_n K dX8_put_60 rfl ?_
        refine z_callVm K hl1 hg1 (kb := 17) (As := [.int (zi ((l : Nat) : Int)), .int (zi y)]) (rest := []) (ct_moveTo_n la g0 ad (zup (zup μ 30 (zcpy (μ 18) (μ 30) 0 ((f + k) % 14 * 23) 23)) 28 (if k < 14 then zu1 (μ 28) 2 ((k : Int) + 1) else zu1 (μ 28) 1 (((f + 1) % 14 : Nat) : Int))) l (by omega) y) (by decide) lk_X8_170 cd_X1_moveTo rfl rfl rfl rfl (Nat.le_of_ble_eq_true rfl) dX8_put_61 ?_
        refine z_iload_n K dX8_put_64 rfl ?_
        exact z_iretd K T rfl dX8_put_65 (by rw [if_neg (by omega), if_neg h29, Int.toNat_natCast]) (by rw [if_neg h29, Int.toNat_natCast]; rfl)
      · refine z_bipush K dX8_put_32 (by decide +kernel) ?_
        exact z_iretd K T rfl dX8_put_34 (by rw [if_neg (by omega), if_pos h29]) (if_pos h29).symm
    · refine z_iconst K dX8_put_18 ?_
      exact z_iretd K T rfl dX8_put_19 (if_pos (by omega)).symm (by rw [if_pos (by unfold zcpI; rw [if_neg (by omega)])])
set_option maxHeartbeats 4000000 in
set_option maxRecDepth 100000 in
theorem cp_send (la : Launch) (g0 : zG) (ad : Nat → Nat) (μ : zMem) (n nc : Nat) (hp : zPlan μ n nc) (hv : zHV n nc (μ 18)) (f k : Nat) (hf : μ 28 1 = (f : Int)) (hf14 : f < 14) (hk : μ 28 2 = (k : Int)) (hk14 : k ≤ 14) (hz : μ 29 0 = 14) (x y : Int) (hx : zR x) (hy : zR y) : zCon la g0 yX8_send cX8_send 4 (some .int) 3 ad zSH [.ref (ad 0), .int (zi x), .int (zi y)] μ (zPd (if zcsI nc (μ 18) x y = 0 then μ else zup (zup (zup μ 30 (zcpy (μ 18) (μ 30) 0 ((f + k) % 14 * 23) 23)) 28 (if k < 14 then zu1 (μ 28) 2 ((k : Int) + 1) else zu1 (μ 28) 1 (((f + 1) % 14 : Nat) : Int))) 18 (zu1 (μ 18) (18 + x.toNat) y)) (if ¬ ((0 ≤ x ∧ x < (nc : Int)) ∧ 0 ≤ y ∧ y < 3) then -1 else if zcsI nc (μ 18) x y = 0 then -3 else μ 18 (18 + x.toNat))) := by
  refine zCon_of (by decide +kernel) (Nat.le_of_ble_eq_true rfl) ?_
  intro χ K T hl1 hg1
  have K : zOk χ cX8_send RX8 4 3 (some .int) := K
  obtain ⟨hn, hn6, hnc, hnc3, hpl, hpk⟩ := id hp
  show zV χ 4 ad zSH 0 0 0 [(0, .ref (ad 0)), (1, .int (zi x)), (2, .int (zi y))] [] μ
  refine z_aload_n K dX8_send_0 rfl ?_
  refine z_get (k := 0) (v := .ref (ad 10)) K dX8_send_1 fl_X8_19 rfl rfl rfl ?_
  refine z_iload_n K dX8_send_4 rfl ?_
  refine z_callVd K hl1 hg1 (kb := 10) (As := [.int (zi x)]) (rest := []) (ct_hasClerk la g0 ad μ n nc hp x (by omega)) (by decide) lk_X8_144 cd_X4_hasClerk rfl rfl rfl rfl (Nat.le_of_ble_eq_true rfl) dX8_send_5 ?_
  refine z_ifeq (tgt := 18) K dX8_send_8 (by decide) (by omega) (fun h8 => ?_) (fun h8 => ?_)
  · refine z_iconst K dX8_send_18 ?_
    exact z_iretd K T rfl dX8_send_19 (if_pos (by omega)).symm (by rw [if_pos (by unfold zcsI; rw [if_neg (by omega)])])
  · refine z_iload_n K dX8_send_11 rfl ?_
    refine z_callSd K hl1 hg1 (As := [.int (zi y)]) (rest := []) (ct_isRow la g0 ad μ y hy) (by decide) lk_X8_177 cd_X8_isRow rfl rfl (Nat.le_of_ble_eq_true rfl) dX8_send_12 ?_
    refine z_ifne (tgt := 20) K dX8_send_15 (by decide) (by omega) (fun h15 => ?_) (fun h15 => ?_)
    · refine z_aload_n K dX8_send_20 rfl ?_
      refine z_get (k := 0) (v := .ref (ad 17)) K dX8_send_21 fl_X8_28 rfl rfl rfl ?_
      refine z_iload_n K dX8_send_24 rfl ?_
      refine z_iload_n K dX8_send_25 rfl ?_
      refine z_callVd K hl1 hg1 (kb := 17) (As := [.int (zi x), .int (zi y)]) (rest := []) (ct_canSend_n la g0 ad μ n nc hp hv.1 x y hx hy) (by decide) lk_X8_180 cd_X1_canSend rfl rfl rfl rfl (Nat.le_of_ble_eq_true rfl) dX8_send_26 ?_
      show zV χ 4 ad zSH 0 0 29 [(0, .ref (ad 0)), (1, .int (zi x)), (2, .int (zi y))] [.int (zi (zcsI nc (μ 18) x y))] μ
      have hrg := zcsI_rg nc (μ 18) x y
      refine z_ifne (tgt := 35) K dX8_send_29 (by decide) (by omega) (fun h29 => ?_) (fun h29 => ?_)
      · obtain ⟨l, rfl⟩ : ∃ l : Nat, x = (l : Int) := ⟨x.toNat, by omega⟩
        refine z_aload_n K dX8_send_35 rfl ?_
        refine z_get (k := 0) (v := .ref (ad 17)) K dX8_send_36 fl_X8_28 rfl rfl rfl ?_
        refine z_iload_n K dX8_send_39 rfl ?_
        refine z_callVd K hl1 hg1 (kb := 17) (As := [.int (zi ((l : Nat) : Int))]) (rest := []) (ct_rowOf la g0 ad μ n nc hp hv.1 l (by omega)) (by decide) lk_X8_147 cd_X1_rowOf rfl rfl rfl rfl (Nat.le_of_ble_eq_true rfl) dX8_send_40 ?_
        refine z_istore_n (lv' := [(0, .ref (ad 0)), (1, .int (zi ((l : Nat) : Int))), (2, .int (zi y)), (3, .int (zi (μ 18 (18 + l))))]) K dX8_send_43 (by decide) rfl ?_
        refine z_aload_n K dX8_send_44 rfl ?_
        refine z_get (k := 0) (v := .ref (ad 28)) K dX8_send_45 fl_X8_44 rfl rfl rfl ?_
        refine z_aload_n K dX8_send_48 rfl ?_
        refine z_get (k := 0) (v := .ref (ad 17)) K dX8_send_49 fl_X8_28 rfl rfl rfl ?_
        refine z_callVm K hl1 hg1 (kb := 28) (As := [.ref (ad 17)]) (rest := []) (ct_remember la g0 ad μ f k hf hf14 hk hk14 hz) (by decide) lk_X8_159 cd_X3_remember rfl rfl rfl rfl (Nat.le_of_ble_eq_true rfl) dX8_send_52 ?_
        refine z_aload_n K dX8_send_55 rfl ?_
        refine z_get (k := 0) (v := .ref (ad 17)) K dX8_send_56 fl_X8_28 rfl rfl rfl ?_
        refine z_iload_n K dX8_send_59 rfl ?_
        refine z_iload_n K dX8_send_60 rfl ?_
        refine z_callVm K hl1 hg1 (kb := 17) (As := [.int (zi ((l : Nat) : Int)), .int (zi y)]) (rest := []) (ct_sendTo_n la g0 ad (zup (zup μ 30 (zcpy (μ 18) (μ 30) 0 ((f + k) % 14 * 23) 23)) 28 (if k < 14 then zu1 (μ 28) 2 ((k : Int) + 1) else zu1 (μ 28) 1 (((f + 1) % 14 : Nat) : Int))) l (by omega) y) (by decide) lk_X8_183 cd_X1_sendTo rfl rfl rfl rfl (Nat.le_of_ble_eq_true rfl) dX8_send_61 ?_
        refine z_iload_n K dX8_send_64 rfl ?_
        exact z_iretd K T rfl dX8_send_65 (by rw [if_neg (by omega), if_neg h29, Int.toNat_natCast]) (by rw [if_neg h29, Int.toNat_natCast]; rfl)
      · refine z_bipush K dX8_send_32 (by decide +kernel) ?_
        exact z_iretd K T rfl dX8_send_34 (by rw [if_neg (by omega), if_pos h29]) (if_pos h29).symm
    · refine z_iconst K dX8_send_18 ?_
      exact z_iretd K T rfl dX8_send_19 (if_pos (by omega)).symm (by rw [if_pos (by unfold zcsI; rw [if_neg (by omega)])])
set_option maxHeartbeats 4000000 in
set_option maxRecDepth 100000 in
theorem cp_feed (la : Launch) (g0 : zG) (ad : Nat → Nat) (μ : zMem) (n nc : Nat) (hp : zPlan μ n nc) (hv : zHV n nc (μ 18)) (f k : Nat) (hf : μ 28 1 = (f : Int)) (hf14 : f < 14) (hk : μ 28 2 = (k : Int)) (hk14 : k ≤ 14) (hz : μ 29 0 = 14) (x : Int) (hx : zR x) : zCon la g0 yX8_feed cX8_feed 2 (some .int) 3 ad zSH [.ref (ad 0), .int (zi x)] μ (zPd (if 1 ≤ x ∧ x ≤ 9 then zup (zup (zup μ 30 (zcpy (μ 18) (μ 30) 0 ((f + k) % 14 * 23) 23)) 28 (if k < 14 then zu1 (μ 28) 2 ((k : Int) + 1) else zu1 (μ 28) 1 (((f + 1) % 14 : Nat) : Int))) 18 (zu1 (μ 18) 21 (min 99 (μ 18 21 + x))) else μ) (if 1 ≤ x ∧ x ≤ 9 then min 99 (μ 18 21 + x) else -2)) := by
  refine zCon_of (by decide +kernel) (Nat.le_of_ble_eq_true rfl) ?_
  intro χ K T hl1 hg1
  have K : zOk χ cX8_feed RX8 2 3 (some .int) := K
  obtain ⟨hn, hn6, hnc, hnc3, hpl, hpk⟩ := id hp
  show zV χ 2 ad zSH 0 0 0 [(0, .ref (ad 0)), (1, .int (zi x))] [] μ
  refine z_iload_n K dX8_feed_0 rfl ?_
  refine z_iconst K dX8_feed_1 ?_
  refine z_icmplt (tgt := 11) K dX8_feed_2 (by decide) (by omega) ⟨by decide, by decide⟩ (fun h2 => ?_) (fun h2 => ?_)
  · refine z_bipush K dX8_feed_11 (by decide +kernel) ?_
    exact z_iretd K T rfl dX8_feed_13 (if_neg (by omega)).symm (if_neg (by omega)).symm
  · refine z_iload_n K dX8_feed_5 rfl ?_
    refine z_bipush K dX8_feed_6 (by decide +kernel) ?_
    refine z_icmple (tgt := 14) K dX8_feed_8 (by decide) (by omega) ⟨by decide, by decide⟩ (fun h8 => ?_) (fun h8 => ?_)
    · refine z_aload_n K dX8_feed_14 rfl ?_
      refine z_get (k := 0) (v := .ref (ad 28)) K dX8_feed_15 fl_X8_44 rfl rfl rfl ?_
      refine z_aload_n K dX8_feed_18 rfl ?_
      refine z_get (k := 0) (v := .ref (ad 17)) K dX8_feed_19 fl_X8_28 rfl rfl rfl ?_
      refine z_callVm K hl1 hg1 (kb := 28) (As := [.ref (ad 17)]) (rest := []) (ct_remember la g0 ad μ f k hf hf14 hk hk14 hz) (by decide) lk_X8_159 cd_X3_remember rfl rfl rfl rfl (Nat.le_of_ble_eq_true rfl) dX8_feed_22 ?_
      refine z_aload_n K dX8_feed_25 rfl ?_
      refine z_get (k := 0) (v := .ref (ad 17)) K dX8_feed_26 fl_X8_28 rfl rfl rfl ?_
      refine z_iload_n K dX8_feed_29 rfl ?_
      refine z_callVm K hl1 hg1 (kb := 17) (As := [.int (zi x)]) (rest := []) (ct_addGrain_n la g0 ad (zup (zup μ 30 (zcpy (μ 18) (μ 30) 0 ((f + k) % 14 * 23) 23)) 28 (if k < 14 then zu1 (μ 28) 2 ((k : Int) + 1) else zu1 (μ 28) 1 (((f + 1) % 14 : Nat) : Int))) x ⟨by omega, by omega⟩ hv.1.2.2) (by decide) lk_X8_174 cd_X1_addGrain rfl rfl rfl rfl (Nat.le_of_ble_eq_true rfl) dX8_feed_30 ?_
      refine z_aload_n K dX8_feed_33 rfl ?_
      refine z_get (k := 0) (v := .ref (ad 17)) K dX8_feed_34 fl_X8_28 rfl rfl rfl ?_
      refine z_callVd K hl1 hg1 (kb := 17) (As := []) (rest := []) (ct_grain la g0 ad (zup (zup (zup μ 30 (zcpy (μ 18) (μ 30) 0 ((f + k) % 14 * 23) 23)) 28 (if k < 14 then zu1 (μ 28) 2 ((k : Int) + 1) else zu1 (μ 28) 1 (((f + 1) % 14 : Nat) : Int))) 18 (zu1 (μ 18) 21 (min 99 (μ 18 21 + x))))) (by decide) lk_X8_105 cd_X1_grain rfl rfl rfl rfl (Nat.le_of_ble_eq_true rfl) dX8_feed_37 ?_
      show zV χ 2 ad zSH 0 0 40 [(0, .ref (ad 0)), (1, .int (zi x))] [.int (zi (zu1 (μ 18) 21 (min 99 (μ 18 21 + x)) 21))] (zup (zup (zup μ 30 (zcpy (μ 18) (μ 30) 0 ((f + k) % 14 * 23) 23)) 28 (if k < 14 then zu1 (μ 28) 2 ((k : Int) + 1) else zu1 (μ 28) 1 (((f + 1) % 14 : Nat) : Int))) 18 (zu1 (μ 18) 21 (min 99 (μ 18 21 + x))))
      exact z_iretd K T rfl dX8_feed_40 (by rw [zu1_eq, if_pos (show 1 ≤ x ∧ x ≤ 9 by omega)]) (by rw [if_pos (show 1 ≤ x ∧ x ≤ 9 by omega)])
    · refine z_bipush K dX8_feed_11 (by decide +kernel) ?_
      exact z_iretd K T rfl dX8_feed_13 (if_neg (by omega)).symm (if_neg (by omega)).symm
set_option maxHeartbeats 4000000 in
set_option maxRecDepth 100000 in
theorem cp_undo (la : Launch) (g0 : zG) (ad : Nat → Nat) (μ : zMem) (f k : Nat) (hf : μ 28 1 = (f : Int)) (hf14 : f < 14) (hk : μ 28 2 = (k : Int)) (hk14 : k ≤ 14) (hz : μ 29 0 = 14) : zCon la g0 yX8_undo cX8_undo 1 (some .int) 3 ad zSH [.ref (ad 0)] μ (zPd (if k = 0 then μ else zup (zup μ 28 (zu1 (μ 28) 2 ((k : Int) - 1))) 18 (zcpy (μ 30) (μ 18) ((f + (k - 1)) % 14 * 23) 0 23)) (if k = 0 then -3 else (k : Int) - 1)) := by
  refine zCon_of (by decide +kernel) (Nat.le_of_ble_eq_true rfl) ?_
  intro χ K T hl1 hg1
  have K : zOk χ cX8_undo RX8 1 3 (some .int) := K
  show zV χ 1 ad zSH 0 0 0 [(0, .ref (ad 0))] [] μ
  refine z_aload_n K dX8_undo_0 rfl ?_
  refine z_get (k := 0) (v := .ref (ad 28)) K dX8_undo_1 fl_X8_44 rfl rfl rfl ?_
  refine z_get (k := 28) (v := .int (zi (μ 28 2))) K dX8_undo_4 fl_X8_114 rfl rfl rfl ?_
  refine z_ifne (tgt := 13) K dX8_undo_7 (by decide) (by omega) (fun h7 => ?_) (fun h7 => ?_)
  · refine z_aload_n K dX8_undo_13 rfl ?_
    refine z_get (k := 0) (v := .ref (ad 28)) K dX8_undo_14 fl_X8_44 rfl rfl rfl ?_
    refine z_aload_n K dX8_undo_17 rfl ?_
    refine z_get (k := 0) (v := .ref (ad 17)) K dX8_undo_18 fl_X8_28 rfl rfl rfl ?_
    refine z_callVm K hl1 hg1 (kb := 28) (As := [.ref (ad 17)]) (rest := []) (ct_goBack la g0 ad μ f k hf hf14 hk hk14 hz (by omega)) (by decide) lk_X8_186 cd_X3_goBack rfl rfl rfl rfl (Nat.le_of_ble_eq_true rfl) dX8_undo_21 ?_
    refine z_aload_n K dX8_undo_24 rfl ?_
    refine z_get (k := 0) (v := .ref (ad 28)) K dX8_undo_25 fl_X8_44 rfl rfl rfl ?_
    refine z_get (k := 28) (v := .int (zi ((zu1 (μ 28) 2 ((k : Int) - 1)) 2))) K dX8_undo_28 fl_X8_114 rfl rfl rfl ?_
    exact z_iretd K T rfl dX8_undo_31 (by rw [if_neg (by omega)]; exact zu1_eq _ _ _) (if_neg (by omega)).symm
  · refine z_bipush K dX8_undo_10 (by decide +kernel) ?_
    exact z_iretd K T rfl dX8_undo_12 (if_pos (by omega)).symm (if_pos (by omega)).symm
set_option maxHeartbeats 4000000 in
set_option maxRecDepth 100000 in
theorem cp_seed (la : Launch) (g0 : zG) (ad : Nat → Nat) (μ : zMem) (v : Int) : zCon la g0 yX8_seed cX8_seed 5 (some .long) 0 ad zSH [.ref (ad 0), .long (zl v)] μ (zPl (fun r ν => r = μ 0 9 ∧ ν = zup μ 0 (zu1 (μ 0) 9 v))) := by
  refine zCon_of (by decide +kernel) (Nat.le_of_ble_eq_true rfl) ?_
  intro χ K T hl1 hg1
  have K : zOk χ cX8_seed RX8 5 0 (some .long) := K
  show zV χ 5 ad zSH 0 0 0 [(0, .ref (ad 0)), (1, .long (zl v))] [] μ
  refine z_aload_n K dX8_seed_0 rfl ?_
  refine z_get (k := 0) (v := .long (zl (μ 0 9))) K dX8_seed_1 fl_X8_236 rfl rfl rfl ?_
  refine z_lstore_n (lv' := [(0, .ref (ad 0)), (1, .long (zl v)), (3, .long (zl (μ 0 9)))]) K dX8_seed_4 (by decide) rfl ?_
  refine z_aload_n K dX8_seed_5 rfl ?_
  refine z_lload_n K dX8_seed_6 rfl ?_
  refine z_putl (k := 0) K dX8_seed_7 fp_X8_236 rfl rfl ?_
  refine z_lload_n K dX8_seed_10 rfl ?_
  exact z_lreti K T rfl dX8_seed_11 ⟨rfl, rfl⟩
set_option maxHeartbeats 4000000 in
set_option maxRecDepth 100000 in
theorem cp_tell (la : Launch) (g0 : zG) (ad : Nat → Nat) (μ : zMem) (t : Nat) (ht : μ 34 2 = (t : Int)) (ht6 : t ≤ 6) (x y : Int) (hx : zR x) (hy : zR y) : zCon la g0 yX8_tell cX8_tell 3 (some .int) 1 ad zSH [.ref (ad 0), .int (zi x), .int (zi y)] μ (zPd (if (0 ≤ x ∧ x ≤ 9) ∧ 0 ≤ y ∧ y ≤ 1 ∧ t < 6 then zup (zup (zup μ 35 (zu1 (μ 35) t x)) 36 (zu1 (μ 36) t y)) 34 (zu1 (μ 34) 2 ((t : Int) + 1)) else μ) (if (0 ≤ x ∧ x ≤ 9) ∧ 0 ≤ y ∧ y ≤ 1 then (if t < 6 then (t : Int) + 1 else -4) else -2)) := by
  refine zCon_of (by decide +kernel) (Nat.le_of_ble_eq_true rfl) ?_
  intro χ K T hl1 hg1
  have K : zOk χ cX8_tell RX8 3 1 (some .int) := K
  show zV χ 3 ad zSH 0 0 0 [(0, .ref (ad 0)), (1, .int (zi x)), (2, .int (zi y))] [] μ
  refine z_iload_n K dX8_tell_0 rfl ?_
  refine z_iflt (tgt := 19) K dX8_tell_1 (by decide) (by omega) (fun h1 => ?_) (fun h1 => ?_)
  · refine z_bipush K dX8_tell_19 (by decide +kernel) ?_
    exact z_iretd K T rfl dX8_tell_21 (if_neg (by omega)).symm (if_neg (by omega)).symm
  · refine z_iload_n K dX8_tell_4 rfl ?_
    refine z_bipush K dX8_tell_5 (by decide +kernel) ?_
    refine z_icmpgt (tgt := 19) K dX8_tell_7 (by decide) (by omega) ⟨by decide, by decide⟩ (fun h7 => ?_) (fun h7 => ?_)
    · refine z_bipush K dX8_tell_19 (by decide +kernel) ?_
      exact z_iretd K T rfl dX8_tell_21 (if_neg (by omega)).symm (if_neg (by omega)).symm
    · refine z_iload_n K dX8_tell_10 rfl ?_
      refine z_iflt (tgt := 19) K dX8_tell_11 (by decide) (by omega) (fun h11 => ?_) (fun h11 => ?_)
      · refine z_bipush K dX8_tell_19 (by decide +kernel) ?_
        exact z_iretd K T rfl dX8_tell_21 (if_neg (by omega)).symm (if_neg (by omega)).symm
      · refine z_iload_n K dX8_tell_14 rfl ?_
        refine z_iconst K dX8_tell_15 ?_
        refine z_icmple (tgt := 22) K dX8_tell_16 (by decide) (by omega) ⟨by decide, by decide⟩ (fun h16 => ?_) (fun h16 => ?_)
        · refine z_aload_n K dX8_tell_22 rfl ?_
          refine z_get (k := 0) (v := .ref (ad 34)) K dX8_tell_23 fl_X8_64 rfl rfl rfl ?_
          refine z_iload_n K dX8_tell_26 rfl ?_
          refine z_iload_n K dX8_tell_27 rfl ?_
          refine z_iconst K dX8_tell_28 ?_
          refine z_icmpne (tgt := 36) K dX8_tell_29 (by decide) (by omega) ⟨by decide, by decide⟩ (fun h29 => ?_) (fun h29 => ?_)
          · refine z_iconst K dX8_tell_36 ?_
            rw [show (0 : Int) = y by omega]
            refine z_callVd K hl1 hg1 (kb := 34) (As := [.int (zi x), .int (zi y)]) (rest := []) (ct_told_add la g0 ad μ t ht ht6 x y (by omega)) (by decide) lk_X8_214 cd_X7_add rfl rfl rfl rfl (Nat.le_of_ble_eq_true rfl) dX8_tell_37 ?_
            exact z_iretd K T rfl dX8_tell_40 (if_pos (by omega)).symm (by by_cases h9 : t < 6; rw [if_pos h9, if_pos (by omega)]; rw [if_neg h9, if_neg (by omega)])
          · refine z_iconst K dX8_tell_32 ?_
            refine z_goto (tgt := 37) K dX8_tell_33 (by decide) ?_
            rw [show (1 : Int) = y by omega]
            refine z_callVd K hl1 hg1 (kb := 34) (As := [.int (zi x), .int (zi y)]) (rest := []) (ct_told_add la g0 ad μ t ht ht6 x y (by omega)) (by decide) lk_X8_214 cd_X7_add rfl rfl rfl rfl (Nat.le_of_ble_eq_true rfl) dX8_tell_37 ?_
            exact z_iretd K T rfl dX8_tell_40 (if_pos (by omega)).symm (by by_cases h9 : t < 6; rw [if_pos h9, if_pos (by omega)]; rw [if_neg h9, if_neg (by omega)])
        · refine z_bipush K dX8_tell_19 (by decide +kernel) ?_
          exact z_iretd K T rfl dX8_tell_21 (if_neg (by omega)).symm (if_neg (by omega)).symm
set_option maxHeartbeats 4000000 in
set_option maxRecDepth 100000 in
theorem cp_untell (la : Launch) (g0 : zG) (ad : Nat → Nat) (μ : zMem)  : zCon la g0 yX8_untell cX8_untell 1 (some .int) 1 ad zSH [.ref (ad 0)] μ (zPd (zup μ 34 (zu1 (μ 34) 2 0)) (μ 34 2)) := by
  refine zCon_of (by decide +kernel) (Nat.le_of_ble_eq_true rfl) ?_
  intro χ K T hl1 hg1
  have K : zOk χ cX8_untell RX8 1 1 (some .int) := K
  show zV χ 1 ad zSH 0 0 0 [(0, .ref (ad 0))] [] μ
  refine z_aload_n K dX8_untell_0 rfl ?_
  refine z_get (k := 0) (v := .ref (ad 34)) K dX8_untell_1 fl_X8_64 rfl rfl rfl ?_
  refine z_callVd K hl1 hg1 (kb := 34) (As := []) (rest := []) (ct_told_clear la g0 ad μ) (by decide) lk_X8_216 cd_X7_clear rfl rfl rfl rfl (Nat.le_of_ble_eq_true rfl) dX8_untell_4 ?_
  exact z_iretd K T rfl dX8_untell_7 rfl rfl
set_option maxHeartbeats 4000000 in
set_option maxRecDepth 100000 in
theorem cp_may (la : Launch) (g0 : zG) (ad : Nat → Nat) (μ : zMem) (t : Nat) (ht : μ 34 2 = (t : Int)) (ht6 : t ≤ 6) (hd : ∀ i, i < t → 0 ≤ μ 35 i ∧ μ 35 i ≤ 9 ∧ (μ 36 i = 0 ∨ μ 36 i = 1)) (x : Int) (hx : zR x) : zCon la g0 yX8_may cX8_may 2 (some .int) 3 ad zSH [.ref (ad 0), .int (zi x)] μ (zPd μ (zA_may (μ 35) (μ 36) t x)) := by
  refine zCon_of (by decide +kernel) (Nat.le_of_ble_eq_true rfl) ?_
  intro χ K T hl1 hg1
  have K : zOk χ cX8_may RX8 2 3 (some .int) := K
  show zV χ 2 ad zSH 0 0 0 [(0, .ref (ad 0)), (1, .int (zi x))] [] μ
  refine z_iload_n K dX8_may_0 rfl ?_
  refine z_iflt (tgt := 9) K dX8_may_1 (by decide) (by omega) (fun h1 => ?_) (fun h1 => ?_)
  · refine z_bipush K dX8_may_9 (by decide +kernel) ?_
    exact z_iretd K T rfl dX8_may_11 (by unfold zA_may; rw [if_pos (by omega)]) rfl
  · refine z_iload_n K dX8_may_4 rfl ?_
    refine z_iconst K dX8_may_5 ?_
    refine z_icmple (tgt := 12) K dX8_may_6 (by decide) (by omega) ⟨by decide, by decide⟩ (fun h6 => ?_) (fun h6 => ?_)
    · refine z_iload_n K dX8_may_12 rfl ?_
      refine z_ifne (tgt := 26) K dX8_may_13 (by decide) (by omega) (fun h13 => ?_) (fun h13 => ?_)
      · refine z_aload_n K dX8_may_26 rfl ?_
        refine z_get (k := 0) (v := .ref (ad 34)) K dX8_may_27 fl_X8_64 rfl rfl rfl ?_
        refine z_callVd K hl1 hg1 (kb := 34) (As := []) (rest := []) (ct_firstTold la g0 ad μ t ht ht6 hd) (by decide) lk_X8_220 cd_X7_first rfl rfl rfl rfl (Nat.le_of_ble_eq_true rfl) dX8_may_30 ?_
        exact z_iretd K T rfl dX8_may_33 (by unfold zA_may; rw [if_neg (by omega), if_neg h13]) rfl
      · refine z_aload_n K dX8_may_16 rfl ?_
        refine z_get (k := 0) (v := .ref (ad 34)) K dX8_may_17 fl_X8_64 rfl rfl rfl ?_
        refine z_callVd K hl1 hg1 (kb := 34) (As := []) (rest := []) (ct_howMany la g0 ad μ t ht ht6 hd) (by decide) lk_X8_217 cd_X7_howMany rfl rfl rfl rfl (Nat.le_of_ble_eq_true rfl) dX8_may_20 ?_
        refine z_goto (tgt := 33) K dX8_may_23 (by decide) ?_
        exact z_iretd K T rfl dX8_may_33 (by unfold zA_may; rw [if_neg (by omega), if_pos h13]) rfl
    · refine z_bipush K dX8_may_9 (by decide +kernel) ?_
      exact z_iretd K T rfl dX8_may_11 (by unfold zA_may; rw [if_pos (by omega)]) rfl
set_option maxHeartbeats 4000000 in
set_option maxRecDepth 100000 in
theorem cp_keep (la : Launch) (g0 : zG) (ad : Nat → Nat) (μ : zMem) (hz2 : μ 31 0 = 2) (x : Int) (hx : zR x) : zCon la g0 yX8_keep cX8_keep 2 (some .int) 2 ad zSH [.ref (ad 0), .int (zi x)] μ (zPd (if 0 ≤ x ∧ x < 2 then zup (zup μ 32 (zcpy (μ 18) (μ 32) 0 (x.toNat * 23) 23)) 33 (zu1 (μ 33) x.toNat 1) else μ) (if 0 ≤ x ∧ x < 2 then μ 18 22 else -1)) := by
  refine zCon_of (by decide +kernel) (Nat.le_of_ble_eq_true rfl) ?_
  intro χ K T hl1 hg1
  have K : zOk χ cX8_keep RX8 2 2 (some .int) := K
  show zV χ 2 ad zSH 0 0 0 [(0, .ref (ad 0)), (1, .int (zi x))] [] μ
  refine z_iload_n K dX8_keep_0 rfl ?_
  refine z_iflt (tgt := 9) K dX8_keep_1 (by decide) (by omega) (fun h1 => ?_) (fun h1 => ?_)
  · refine z_iconst K dX8_keep_9 ?_
    exact z_iretd K T rfl dX8_keep_10 (if_neg (by omega)).symm (if_neg (by omega)).symm
  · refine z_iload_n K dX8_keep_4 rfl ?_
    refine z_iconst K dX8_keep_5 ?_
    refine z_icmplt (tgt := 11) K dX8_keep_6 (by decide) (by omega) ⟨by decide, by decide⟩ (fun h6 => ?_) (fun h6 => ?_)
    · obtain ⟨l, rfl⟩ : ∃ l : Nat, x = (l : Int) := ⟨x.toNat, by omega⟩
      refine z_aload_n K dX8_keep_11 rfl ?_
      refine z_get (k := 0) (v := .ref (ad 31)) K dX8_keep_12 fl_X8_53 rfl rfl rfl ?_
      refine z_iload_n K dX8_keep_15 rfl ?_
      refine z_aload_n K dX8_keep_16 rfl ?_
      refine z_get (k := 0) (v := .ref (ad 17)) K dX8_keep_17 fl_X8_28 rfl rfl rfl ?_
      refine z_callVm K hl1 hg1 (kb := 31) (As := [.int (zi ((l : Nat) : Int)), .ref (ad 17)]) (rest := []) (ct_store_s la g0 ad μ ((l : Nat) : Int) l rfl (by omega) hz2) (by decide) lk_X8_246 cd_X6_store rfl rfl rfl rfl (Nat.le_of_ble_eq_true rfl) dX8_keep_20 ?_
      refine z_aload_n K dX8_keep_23 rfl ?_
      refine z_get (k := 0) (v := .ref (ad 33)) K dX8_keep_24 fl_X8_57 rfl rfl rfl ?_
      refine z_iload_n K dX8_keep_27 rfl ?_
      refine z_iconst K dX8_keep_28 ?_
      refine z_zast (k := 33) K dX8_keep_29 l rfl (by decide) (by omega) (by omega) (Or.inr rfl) (z_mem (ν := zup (zup μ 32 (zcpy (μ 18) (μ 32) 0 (l * 23) 23)) 33 (zu1 (μ 33) l (1 : Int))) rfl ?_)
      refine z_aload_n K dX8_keep_30 rfl ?_
      refine z_get (k := 0) (v := .ref (ad 17)) K dX8_keep_31 fl_X8_28 rfl rfl rfl ?_
      refine z_callVd K hl1 hg1 (kb := 17) (As := []) (rest := []) (ct_theDay la g0 ad (zup (zup μ 32 (zcpy (μ 18) (μ 32) 0 (l * 23) 23)) 33 (zu1 (μ 33) l (1 : Int)))) (by decide) lk_X8_102 cd_X1_theDay rfl rfl rfl rfl (Nat.le_of_ble_eq_true rfl) dX8_keep_34 ?_
      show zV χ 2 ad zSH 0 0 37 [(0, .ref (ad 0)), (1, .int (zi ((l : Nat) : Int)))] [.int (zi (μ 18 22))] (zup (zup μ 32 (zcpy (μ 18) (μ 32) 0 (l * 23) 23)) 33 (zu1 (μ 33) l (1 : Int)))
      exact z_iretd K T rfl dX8_keep_37 (if_pos (by omega)).symm (by rw [if_pos (by omega), Int.toNat_natCast])
    · refine z_iconst K dX8_keep_9 ?_
      exact z_iretd K T rfl dX8_keep_10 (if_neg (by omega)).symm (if_neg (by omega)).symm
set_option maxHeartbeats 4000000 in
set_option maxRecDepth 100000 in
theorem cp_again (la : Launch) (g0 : zG) (ad : Nat → Nat) (μ : zMem) (hz2 : μ 31 0 = 2) (x : Int) (hx : zR x) (hk2 : ∀ i, i < 2 → μ 33 i = 0 ∨ μ 33 i = 1) : zCon la g0 yX8_again cX8_again 2 (some .int) 2 ad zSH [.ref (ad 0), .int (zi x)] μ (zPd (if (0 ≤ x ∧ x < 2) ∧ ¬ μ 33 x.toNat = 0 then zup (zup μ 18 (zcpy (μ 32) (μ 18) (x.toNat * 23) 0 23)) 28 (zu1 (zu1 (μ 28) 1 0) 2 0) else μ) (if 0 ≤ x ∧ x < 2 then (if μ 33 x.toNat = 0 then -3 else μ 32 (x.toNat * 23 + 22)) else -1)) := by
  refine zCon_of (by decide +kernel) (Nat.le_of_ble_eq_true rfl) ?_
  intro χ K T hl1 hg1
  have K : zOk χ cX8_again RX8 2 2 (some .int) := K
  show zV χ 2 ad zSH 0 0 0 [(0, .ref (ad 0)), (1, .int (zi x))] [] μ
  refine z_iload_n K dX8_again_0 rfl ?_
  refine z_iflt (tgt := 9) K dX8_again_1 (by decide) (by omega) (fun h1 => ?_) (fun h1 => ?_)
  · refine z_iconst K dX8_again_9 ?_
    exact z_iretd K T rfl dX8_again_10 (if_neg (by omega)).symm (if_neg (by omega)).symm
  · refine z_iload_n K dX8_again_4 rfl ?_
    refine z_iconst K dX8_again_5 ?_
    refine z_icmplt (tgt := 11) K dX8_again_6 (by decide) (by omega) ⟨by decide, by decide⟩ (fun h6 => ?_) (fun h6 => ?_)
    · obtain ⟨l, rfl⟩ : ∃ l : Nat, x = (l : Int) := ⟨x.toNat, by omega⟩
      have hkl := hk2 l (by omega)
      refine z_aload_n K dX8_again_11 rfl ?_
      refine z_get (k := 0) (v := .ref (ad 33)) K dX8_again_12 fl_X8_57 rfl rfl rfl ?_
      refine z_iload_n K dX8_again_15 rfl ?_
      refine z_zald (k := 33) (v := μ 33 l) K dX8_again_16 l rfl (by decide) (by omega) (by omega) rfl ?_
      refine z_ifne (tgt := 23) K dX8_again_17 (by decide) (by omega) (fun h17 => ?_) (fun h17 => ?_)
      · refine z_aload_n K dX8_again_23 rfl ?_
        refine z_get (k := 0) (v := .ref (ad 31)) K dX8_again_24 fl_X8_53 rfl rfl rfl ?_
        refine z_iload_n K dX8_again_27 rfl ?_
        refine z_aload_n K dX8_again_28 rfl ?_
        refine z_get (k := 0) (v := .ref (ad 17)) K dX8_again_29 fl_X8_28 rfl rfl rfl ?_
        refine z_callVm K hl1 hg1 (kb := 31) (As := [.int (zi ((l : Nat) : Int)), .ref (ad 17)]) (rest := []) (ct_fetch_s la g0 ad μ ((l : Nat) : Int) l rfl (by omega) hz2) (by decide) lk_X8_250 cd_X6_fetch rfl rfl rfl rfl (Nat.le_of_ble_eq_true rfl) dX8_again_32 ?_
        refine z_aload_n K dX8_again_35 rfl ?_
        refine z_get (k := 0) (v := .ref (ad 28)) K dX8_again_36 fl_X8_44 rfl rfl rfl ?_
        refine z_callVm K hl1 hg1 (kb := 28) (As := []) (rest := []) (ct_past_clear la g0 ad (zup μ 18 (zcpy (μ 32) (μ 18) (l * 23) 0 23))) (by decide) lk_X8_93 cd_X3_clear rfl rfl rfl rfl (Nat.le_of_ble_eq_true rfl) dX8_again_39 ?_
        refine z_aload_n K dX8_again_42 rfl ?_
        refine z_get (k := 0) (v := .ref (ad 17)) K dX8_again_43 fl_X8_28 rfl rfl rfl ?_
        refine z_callVd K hl1 hg1 (kb := 17) (As := []) (rest := []) (ct_theDay la g0 ad (zup (zup μ 18 (zcpy (μ 32) (μ 18) (l * 23) 0 23)) 28 (zu1 (zu1 (μ 28) 1 0) 2 0))) (by decide) lk_X8_102 cd_X1_theDay rfl rfl rfl rfl (Nat.le_of_ble_eq_true rfl) dX8_again_46 ?_
        show zV χ 2 ad zSH 0 0 49 [(0, .ref (ad 0)), (1, .int (zi ((l : Nat) : Int)))] [.int (zi (zcpy (μ 32) (μ 18) (l * 23) 0 23 22))] (zup (zup μ 18 (zcpy (μ 32) (μ 18) (l * 23) 0 23)) 28 (zu1 (zu1 (μ 28) 1 0) 2 0))
        exact z_iretd K T rfl dX8_again_49 (by rw [if_pos (by omega), Int.toNat_natCast, if_neg h17]; unfold zcpy; rw [if_pos ⟨by omega, by omega⟩]) (by rw [if_pos ⟨by omega, by rw [Int.toNat_natCast]; exact h17⟩, Int.toNat_natCast])
      · refine z_bipush K dX8_again_20 (by decide +kernel) ?_
        exact z_iretd K T rfl dX8_again_22 (by rw [if_pos (by omega), Int.toNat_natCast, if_pos h17]) (by rw [if_neg (fun q => q.2 (by rw [Int.toNat_natCast]; exact h17))])
    · refine z_iconst K dX8_again_9 ?_
      exact z_iretd K T rfl dX8_again_10 (if_neg (by omega)).symm (if_neg (by omega)).symm
set_option maxHeartbeats 4000000 in
set_option maxRecDepth 100000 in
theorem cp_ahead (la : Launch) (g0 : zG) (ad : Nat → Nat) (μ : zMem) (n nc : Nat) (hp : zPlan μ n nc) (hv : zHV n nc (μ 18)) (x w : Int) (hx : zR x) (hw : zR w) : zCon la g0 yX8_ahead cX8_ahead 3 (some .int) 5 ad zSH [.ref (ad 0), .int (zi x), .int (zi w)] μ (zPi (zQu μ (zA_ahead n (μ 13) (μ 14) nc (μ 16) (μ 18) x w))) := by
  refine zCon_of (by decide +kernel) (Nat.le_of_ble_eq_true rfl) ?_
  intro χ K T hl1 hg1
  have K : zOk χ cX8_ahead RX8 3 5 (some .int) := K
  obtain ⟨hn, hn6, hnc, hnc3, hpl, hpk⟩ := id hp
  show zV χ 3 ad zSH 0 0 0 [(0, .ref (ad 0)), (1, .int (zi x)), (2, .int (zi w))] [] μ
  refine z_iload_n K dX8_ahead_0 rfl ?_
  refine z_iflt (tgt := 19) K dX8_ahead_1 (by decide) (by omega) (fun h1 => ?_) (fun h1 => ?_)
  · refine z_bipush K dX8_ahead_19 (by decide +kernel) ?_
    exact z_ireti K T rfl dX8_ahead_21 ⟨(by unfold zA_ahead; rw [if_neg (by omega)]), fun _ _ => rfl⟩
  · refine z_iload_n K dX8_ahead_4 rfl ?_
    refine z_bipush K dX8_ahead_5 (by decide +kernel) ?_
    refine z_icmpgt (tgt := 19) K dX8_ahead_7 (by decide) (by omega) ⟨by decide, by decide⟩ (fun h7 => ?_) (fun h7 => ?_)
    · refine z_bipush K dX8_ahead_19 (by decide +kernel) ?_
      exact z_ireti K T rfl dX8_ahead_21 ⟨(by unfold zA_ahead; rw [if_neg (by omega)]), fun _ _ => rfl⟩
    · refine z_iload_n K dX8_ahead_10 rfl ?_
      refine z_iflt (tgt := 19) K dX8_ahead_11 (by decide) (by omega) (fun h11 => ?_) (fun h11 => ?_)
      · refine z_bipush K dX8_ahead_19 (by decide +kernel) ?_
        exact z_ireti K T rfl dX8_ahead_21 ⟨(by unfold zA_ahead; rw [if_neg (by omega)]), fun _ _ => rfl⟩
      · refine z_iload_n K dX8_ahead_14 rfl ?_
        refine z_iconst K dX8_ahead_15 ?_
        refine z_icmplt (tgt := 22) K dX8_ahead_16 (by decide) (by omega) ⟨by decide, by decide⟩ (fun h16 => ?_) (fun h16 => ?_)
        · refine z_mem (ν := zup (zup μ 26 (μ 26)) 27 (μ 27)) (zup_id2 μ 26 27 (by decide)) ?_
          obtain ⟨l, rfl⟩ : ∃ l : Nat, x = (l : Int) := ⟨x.toNat, by omega⟩
          refine z_aload_n K dX8_ahead_22 rfl ?_
          refine z_get (k := 0) (v := .ref (ad 20)) K dX8_ahead_23 fl_X8_37 rfl rfl rfl ?_
          refine z_iload_n K dX8_ahead_26 rfl ?_
          refine z_iload_n K dX8_ahead_27 rfl ?_
          refine z_callVi K hl1 hg1 (kb := 20) (As := [.int (zi ((l : Nat) : Int)), .int (zi w)]) (rest := []) (ct_whoIn la g0 ad μ n nc hp hv (μ 26) (μ 27) l (by omega) w hw) (by decide) lk_X8_189 cd_X2_whoIn rfl rfl rfl rfl (Nat.le_of_ble_eq_true rfl) dX8_ahead_28 (fun r28 μ28 h28 => ?_)
          exact z_ireti K T rfl dX8_ahead_31 ⟨(by rw [h28.1]; unfold zA_ahead; rw [if_pos (by omega), Int.toNat_natCast]), zfr2 h28.2⟩
        · refine z_bipush K dX8_ahead_19 (by decide +kernel) ?_
          exact z_ireti K T rfl dX8_ahead_21 ⟨(by unfold zA_ahead; rw [if_neg (by omega)]), fun _ _ => rfl⟩
set_option maxHeartbeats 4000000 in
set_option maxRecDepth 100000 in
theorem cp_hatches (la : Launch) (g0 : zG) (ad : Nat → Nat) (μ : zMem) (n nc : Nat) (hp : zPlan μ n nc) (hv : zHV n nc (μ 18)) (x : Int) (hx : zR x) : zCon la g0 yX8_hatches cX8_hatches 3 (some .int) 5 ad zSH [.ref (ad 0), .int (zi x)] μ (zPi (zQu μ (zA_hatches n (μ 13) (μ 14) nc (μ 16) (μ 18) x))) := by
  refine zCon_of (by decide +kernel) (Nat.le_of_ble_eq_true rfl) ?_
  intro χ K T hl1 hg1
  have K : zOk χ cX8_hatches RX8 3 5 (some .int) := K
  obtain ⟨hn, hn6, hnc, hnc3, hpl, hpk⟩ := id hp
  show zV χ 3 ad zSH 0 0 0 [(0, .ref (ad 0)), (1, .int (zi x))] [] μ
  refine z_aload_n K dX8_hatches_0 rfl ?_
  refine z_get (k := 0) (v := .ref (ad 10)) K dX8_hatches_1 fl_X8_19 rfl rfl rfl ?_
  refine z_iload_n K dX8_hatches_4 rfl ?_
  refine z_callVd K hl1 hg1 (kb := 10) (As := [.int (zi x)]) (rest := []) (ct_hasLetter la g0 ad μ n nc hp x (by omega)) (by decide) lk_X8_121 cd_X4_hasLetter rfl rfl rfl rfl (Nat.le_of_ble_eq_true rfl) dX8_hatches_5 ?_
  refine z_ifne (tgt := 13) K dX8_hatches_8 (by decide) (by omega) (fun h8 => ?_) (fun h8 => ?_)
  · refine z_mem (ν := zup (zup μ 26 (μ 26)) 27 (μ 27)) (zup_id2 μ 26 27 (by decide)) ?_
    obtain ⟨l, rfl⟩ : ∃ l : Nat, x = (l : Int) := ⟨x.toNat, by omega⟩
    have hvl := hv.1.1 l (by omega)
    refine z_aload_n K dX8_hatches_13 rfl ?_
    refine z_get (k := 0) (v := .ref (ad 20)) K dX8_hatches_14 fl_X8_37 rfl rfl rfl ?_
    refine z_iload_n K dX8_hatches_17 rfl ?_
    refine z_aload_n K dX8_hatches_18 rfl ?_
    refine z_get (k := 0) (v := .ref (ad 17)) K dX8_hatches_19 fl_X8_28 rfl rfl rfl ?_
    refine z_iload_n K dX8_hatches_22 rfl ?_
    refine z_callVd K hl1 hg1 (kb := 17) (As := [.int (zi ((l : Nat) : Int))]) (rest := [.int (zi ((l : Nat) : Int)), .ref (ad 20)]) (ct_holeOf la g0 ad (zup (zup μ 26 (μ 26)) 27 (μ 27)) n nc hp hv.1 l (by omega)) (by decide) lk_X8_125 cd_X1_holeOf rfl rfl rfl rfl (Nat.le_of_ble_eq_true rfl) dX8_hatches_23 ?_
    show zV χ 3 ad zSH 0 0 26 [(0, .ref (ad 0)), (1, .int (zi ((l : Nat) : Int)))] [.int (zi (μ 18 l)), .int (zi ((l : Nat) : Int)), .ref (ad 20)] (zup (zup μ 26 (μ 26)) 27 (μ 27))
    refine z_callVi K hl1 hg1 (kb := 20) (As := [.int (zi ((l : Nat) : Int)), .int (zi (μ 18 l))]) (rest := []) (ct_daysToHatch la g0 ad μ n nc hp hv (μ 26) (μ 27) l (by omega) (μ 18 l) ⟨by omega, by omega⟩) (by decide) lk_X8_193 cd_X2_daysToHatch rfl rfl rfl rfl (Nat.le_of_ble_eq_true rfl) dX8_hatches_26 (fun r26 μ26 h26 => ?_)
    have hdt := zdt_rg (n := n) (nc := nc) (kd := μ 13) (al := μ 14) (an := μ 16) l 21 0 (zu1 (μ 18) l (μ 18 l), zz0) (by omega)
    have hdt2 : zdth n (μ 13) (μ 14) nc (μ 16) (μ 18) l (μ 18 l) = zdt n (μ 13) (μ 14) nc (μ 16) l 21 0 (zu1 (μ 18) l (μ 18 l), zz0) := rfl
    obtain ⟨hr26, hfr⟩ := h26
    refine z_istore_n (lv' := [(0, .ref (ad 0)), (1, .int (zi ((l : Nat) : Int))), (2, .int (zi r26))]) K dX8_hatches_29 (by decide) rfl ?_
    refine z_iload_n K dX8_hatches_30 rfl ?_
    refine z_bipush K dX8_hatches_31 (by decide +kernel) ?_
    refine z_icmple (tgt := 41) K dX8_hatches_33 (by decide) (by omega) ⟨by decide, by decide⟩ (fun h33 => ?_) (fun h33 => ?_)
    · refine z_iload_n K dX8_hatches_41 rfl ?_
      exact z_ireti K T rfl dX8_hatches_42 ⟨(by unfold zA_hatches; rw [if_pos (by omega), Int.toNat_natCast]; omega), zfr2 hfr⟩
    · refine z_bipush K dX8_hatches_36 (by decide +kernel) ?_
      refine z_goto (tgt := 42) K dX8_hatches_38 (by decide) ?_
      exact z_ireti K T rfl dX8_hatches_42 ⟨(by unfold zA_hatches; rw [if_pos (by omega), Int.toNat_natCast]; omega), zfr2 hfr⟩
  · refine z_iconst K dX8_hatches_11 ?_
    exact z_ireti K T rfl dX8_hatches_12 ⟨(by unfold zA_hatches; rw [if_neg (by omega)]), fun _ _ => rfl⟩
set_option maxHeartbeats 4000000 in
set_option maxRecDepth 100000 in
theorem cp_rows (la : Launch) (g0 : zG) (ad : Nat → Nat) (μ : zMem) (n nc : Nat) (hp : zPlan μ n nc) (hv : zHV n nc (μ 18)) (q : Int) (hq : q = 0 ∨ q = 1) : zCon la g0 yX8_rows cX8_rows 2 (some .int) 5 ad zSH [.ref (ad 0), .int (zi q)] μ (zPi (zQu μ (if q = 0 then (zbr n (μ 13) (μ 14) nc (μ 16) (μ 18) (zp3 nc)).2 else (zbr n (μ 13) (μ 14) nc (μ 16) (μ 18) (zp3 nc)).1))) := by
  refine zCon_of (by decide +kernel) (Nat.le_of_ble_eq_true rfl) ?_
  intro χ K T hl1 hg1
  have K : zOk χ cX8_rows RX8 2 5 (some .int) := K
  obtain ⟨hn, hn6, hnc, hnc3, hpl, hpk⟩ := id hp
  show zV χ 2 ad zSH 0 0 0 [(0, .ref (ad 0)), (1, .int (zi q))] [] μ
  refine z_mem (ν := zup (zup μ 26 (μ 26)) 27 (μ 27)) (zup_id2 μ 26 27 (by decide)) ?_
  refine z_aload_n K dX8_rows_0 rfl ?_
  refine z_get (k := 0) (v := .ref (ad 20)) K dX8_rows_1 fl_X8_37 rfl rfl rfl ?_
  refine z_iload_n K dX8_rows_4 rfl ?_
  refine z_callVi K hl1 hg1 (kb := 20) (As := [.int (zi q)]) (rest := []) (ct_bestRows la g0 ad μ n nc hp hv (μ 26) (μ 27) q hq) (by decide) lk_X8_196 cd_X2_bestRows rfl rfl rfl rfl (Nat.le_of_ble_eq_true rfl) dX8_rows_5 (fun r5 μ5 h5 => ?_)
  exact z_ireti K T rfl dX8_rows_8 ⟨h5.1, zfr2 h5.2⟩
set_option maxHeartbeats 4000000 in
set_option maxRecDepth 100000 in
theorem cp_saved (la : Launch) (g0 : zG) (ad : Nat → Nat) (μ : zMem) (n nc : Nat) (hp : zPlan μ n nc) (hv : zHV n nc (μ 18)) (x : Int) (hx : zR x) : zCon la g0 yX8_saved cX8_saved 2 (some .int) 6 ad zSH [.ref (ad 0), .int (zi x)] μ (zPi (zQu μ (zA_saved n (μ 13) (μ 14) nc (μ 16) (μ 18) x))) := by
  refine zCon_of (by decide +kernel) (Nat.le_of_ble_eq_true rfl) ?_
  intro χ K T hl1 hg1
  have K : zOk χ cX8_saved RX8 2 6 (some .int) := K
  obtain ⟨hn, hn6, hnc, hnc3, hpl, hpk⟩ := id hp
  show zV χ 2 ad zSH 0 0 0 [(0, .ref (ad 0)), (1, .int (zi x))] [] μ
  refine z_aload_n K dX8_saved_0 rfl ?_
  refine z_get (k := 0) (v := .ref (ad 10)) K dX8_saved_1 fl_X8_19 rfl rfl rfl ?_
  refine z_iload_n K dX8_saved_4 rfl ?_
  refine z_callVd K hl1 hg1 (kb := 10) (As := [.int (zi x)]) (rest := []) (ct_hasLetter la g0 ad μ n nc hp x (by omega)) (by decide) lk_X8_121 cd_X4_hasLetter rfl rfl rfl rfl (Nat.le_of_ble_eq_true rfl) dX8_saved_5 ?_
  refine z_ifne (tgt := 13) K dX8_saved_8 (by decide) (by omega) (fun h8 => ?_) (fun h8 => ?_)
  · obtain ⟨l, rfl⟩ : ∃ l : Nat, x = (l : Int) := ⟨x.toNat, by omega⟩
    have hvl := hv.1.1 l (by omega)
    refine z_aload_n K dX8_saved_13 rfl ?_
    refine z_get (k := 0) (v := .ref (ad 17)) K dX8_saved_14 fl_X8_28 rfl rfl rfl ?_
    refine z_iload_n K dX8_saved_17 rfl ?_
    refine z_callVd K hl1 hg1 (kb := 17) (As := [.int (zi ((l : Nat) : Int))]) (rest := []) (ct_fateOf_n la g0 ad μ n nc hp hv.1 l (by omega)) (by decide) lk_X8_135 cd_X1_fateOf rfl rfl rfl rfl (Nat.le_of_ble_eq_true rfl) dX8_saved_18 ?_
    refine z_ifeq (tgt := 27) K dX8_saved_21 (by decide) (by omega) (fun h21 => ?_) (fun h21 => ?_)
    · refine z_mem (ν := zup (zup μ 26 (μ 26)) 27 (μ 27)) (zup_id2 μ 26 27 (by decide)) ?_
      refine z_aload_n K dX8_saved_27 rfl ?_
      refine z_get (k := 0) (v := .ref (ad 20)) K dX8_saved_28 fl_X8_37 rfl rfl rfl ?_
      refine z_iload_n K dX8_saved_31 rfl ?_
      refine z_callVi K hl1 hg1 (kb := 20) (As := [.int (zi ((l : Nat) : Int))]) (rest := []) (ct_safestHole la g0 ad μ n nc hp hv (μ 26) (μ 27) l (by omega)) (by decide) lk_X8_200 cd_X2_safestHole rfl rfl rfl rfl (Nat.le_of_ble_eq_true rfl) dX8_saved_32 (fun r32 μ32 h32 => ?_)
      exact z_ireti K T rfl dX8_saved_35 ⟨(by rw [h32.1]; unfold zA_saved; rw [if_pos (by omega), Int.toNat_natCast, if_pos h21]), zfr2 h32.2⟩
    · refine z_bipush K dX8_saved_24 (by decide +kernel) ?_
      exact z_ireti K T rfl dX8_saved_26 ⟨(by unfold zA_saved; rw [if_pos (by omega), Int.toNat_natCast, if_neg h21]), fun _ _ => rfl⟩
  · refine z_iconst K dX8_saved_11 ?_
    exact z_ireti K T rfl dX8_saved_12 ⟨(by unfold zA_saved; rw [if_neg (by omega)]), fun _ _ => rfl⟩
set_option maxHeartbeats 4000000 in
set_option maxRecDepth 100000 in
theorem cp_quiet (la : Launch) (g0 : zG) (ad : Nat → Nat) (μ : zMem) (n nc : Nat) (hp : zPlan μ n nc) (hv : zHV n nc (μ 18)) : zCon la g0 yX8_quiet cX8_quiet 1 (some .int) 6 ad zSH [.ref (ad 0)] μ (zPi (zQu μ (((zqo (zqu n (μ 13) (μ 14) nc (μ 16) (μ 18)) (zwho (μ 18) 0 n) 6 0 : Nat) : Int)))) := by
  refine zCon_of (by decide +kernel) (Nat.le_of_ble_eq_true rfl) ?_
  intro χ K T hl1 hg1
  have K : zOk χ cX8_quiet RX8 1 6 (some .int) := K
  obtain ⟨hn, hn6, hnc, hnc3, hpl, hpk⟩ := id hp
  show zV χ 1 ad zSH 0 0 0 [(0, .ref (ad 0))] [] μ
  refine z_mem (ν := zup (zup μ 26 (μ 26)) 27 (μ 27)) (zup_id2 μ 26 27 (by decide)) ?_
  refine z_aload_n K dX8_quiet_0 rfl ?_
  refine z_get (k := 0) (v := .ref (ad 20)) K dX8_quiet_1 fl_X8_37 rfl rfl rfl ?_
  refine z_callVi K hl1 hg1 (kb := 20) (As := []) (rest := []) (ct_fewestForQuiet la g0 ad μ n nc hp hv (μ 26) (μ 27)) (by decide) lk_X8_203 cd_X2_fewestForQuiet rfl rfl rfl rfl (Nat.le_of_ble_eq_true rfl) dX8_quiet_4 (fun r4 μ4 h4 => ?_)
  exact z_ireti K T rfl dX8_quiet_7 ⟨h4.1, zfr2 h4.2⟩
set_option maxHeartbeats 4000000 in
set_option maxRecDepth 100000 in
theorem cp_judge (la : Launch) (g0 : zG) (ad : Nat → Nat) (μ : zMem) (n nc : Nat) (hp : zPlan μ n nc) (hv : zHV n nc (μ 18)) (x y : Int) (hx : zR x) (hy : zR8 y) : zCon la g0 yX8_judge cX8_judge 4 (some .int) 6 ad zSH [.ref (ad 0), .int (zi x), .long (zl y)] μ (zPi (zQu μ (zA_judge n (μ 13) (μ 14) nc (μ 16) (μ 18) x y))) := by
  refine zCon_of (by decide +kernel) (Nat.le_of_ble_eq_true rfl) ?_
  intro χ K T hl1 hg1
  have K : zOk χ cX8_judge RX8 4 6 (some .int) := K
  obtain ⟨hn, hn6, hnc, hnc3, hpl, hpk⟩ := id hp
  show zV χ 4 ad zSH 0 0 0 [(0, .ref (ad 0)), (1, .int (zi x)), (2, .long (zl y))] [] μ
  refine z_iload_n K dX8_judge_0 rfl ?_
  refine z_iconst K dX8_judge_1 ?_
  refine z_icmplt (tgt := 16) K dX8_judge_2 (by decide) (by omega) ⟨by decide, by decide⟩ (fun h2 => ?_) (fun h2 => ?_)
  · refine z_bipush K dX8_judge_16 (by decide +kernel) ?_
    exact z_ireti K T rfl dX8_judge_18 ⟨(by unfold zA_judge; rw [if_neg (by first | omega | (unfold zc at h13; omega))]), fun _ _ => rfl⟩
  · refine z_iload_n K dX8_judge_5 rfl ?_
    refine z_iconst K dX8_judge_6 ?_
    refine z_icmpgt (tgt := 16) K dX8_judge_7 (by decide) (by omega) ⟨by decide, by decide⟩ (fun h7 => ?_) (fun h7 => ?_)
    · refine z_bipush K dX8_judge_16 (by decide +kernel) ?_
      exact z_ireti K T rfl dX8_judge_18 ⟨(by unfold zA_judge; rw [if_neg (by first | omega | (unfold zc at h13; omega))]), fun _ _ => rfl⟩
    · refine z_lload_n K dX8_judge_10 rfl ?_
      refine z_lconst (z := 0) K dX8_judge_11 rfl ?_
      refine z_lcmp K dX8_judge_12 (by omega) (by omega) ?_
      refine z_ifge (tgt := 19) K dX8_judge_13 (by decide) (zc_rg _ _) (fun h13 => ?_) (fun h13 => ?_)
      · refine z_mem (ν := zup (zup (zup μ 21 (μ 21)) 26 (μ 26)) 27 (μ 27)) (zup_id3 μ 21 26 27 (by decide) (by decide) (by decide)) ?_
        obtain ⟨l, rfl⟩ : ∃ l : Nat, x = (l : Int) := ⟨x.toNat, by omega⟩
        have hy0 : 0 ≤ y := by unfold zc at h13; omega
        obtain ⟨r, rfl⟩ : ∃ r : Nat, y = (r : Int) := ⟨y.toNat, by omega⟩
        refine z_aload_n K dX8_judge_19 rfl ?_
        refine z_get (k := 0) (v := .ref (ad 20)) K dX8_judge_20 fl_X8_37 rfl rfl rfl ?_
        refine z_iload_n K dX8_judge_23 rfl ?_
        refine z_lload_n K dX8_judge_24 rfl ?_
        refine z_callVi K hl1 hg1 (kb := 20) (As := [.int (zi ((l : Nat) : Int)), .long (zl ((r : Nat) : Int))]) (rest := []) (ct_first la g0 ad μ n nc hp hv (μ 26) (μ 27) (μ 21) l r ⟨by omega, by omega⟩ (by omega)) (by decide) lk_X8_206 cd_X2_firstThatCanNotBe rfl rfl rfl rfl (Nat.le_of_ble_eq_true rfl) dX8_judge_25 (fun r25 μ25 h25 => ?_)
        exact z_ireti K T rfl dX8_judge_28 ⟨(by
            rw [h25.1]; unfold zA_judge; rw [if_pos (show (1 ≤ ((l : Nat) : Int) ∧ ((l : Nat) : Int) ≤ 4) ∧ 0 ≤ ((r : Nat) : Int) by omega), Int.toNat_natCast, Int.toNat_natCast]
            have hcg := zfd_cg l (μ 21) zz0 r
            rw [hcg.1, zju_cg (m := l) (fun j hj => hcg.2 j (Or.inl hj)) l 0 _ (by omega)]), zfr3 (Or.inl rfl) h25.2⟩
      · refine z_bipush K dX8_judge_16 (by decide +kernel) ?_
        exact z_ireti K T rfl dX8_judge_18 ⟨(by unfold zA_judge; rw [if_neg (by first | omega | (unfold zc at h13; omega))]), fun _ _ => rfl⟩
set_option maxHeartbeats 4000000 in
set_option maxRecDepth 100000 in
theorem cp_share (la : Launch) (g0 : zG) (ad : Nat → Nat) (μ : zMem) (n nc : Nat) (hp : zPlan μ n nc) (hv : zHV n nc (μ 18)) (x q : Int) (hx : zR x) (hq : q = 0 ∨ q = 1) : zCon la g0 yX8_share cX8_share 3 (some .int) 6 ad zSH [.ref (ad 0), .int (zi x), .int (zi q)] μ (zPi (zQu μ (zA_share n (μ 13) (μ 14) nc (μ 16) (μ 18) x q))) := by
  refine zCon_of (by decide +kernel) (Nat.le_of_ble_eq_true rfl) ?_
  intro χ K T hl1 hg1
  have K : zOk χ cX8_share RX8 3 6 (some .int) := K
  obtain ⟨hn, hn6, hnc, hnc3, hpl, hpk⟩ := id hp
  show zV χ 3 ad zSH 0 0 0 [(0, .ref (ad 0)), (1, .int (zi x)), (2, .int (zi q))] [] μ
  refine z_aload_n K dX8_share_0 rfl ?_
  refine z_get (k := 0) (v := .ref (ad 10)) K dX8_share_1 fl_X8_19 rfl rfl rfl ?_
  refine z_iload_n K dX8_share_4 rfl ?_
  refine z_callVd K hl1 hg1 (kb := 10) (As := [.int (zi x)]) (rest := []) (ct_hasClerk la g0 ad μ n nc hp x (by omega)) (by decide) lk_X8_144 cd_X4_hasClerk rfl rfl rfl rfl (Nat.le_of_ble_eq_true rfl) dX8_share_5 ?_
  refine z_ifne (tgt := 13) K dX8_share_8 (by decide) (by omega) (fun h8 => ?_) (fun h8 => ?_)
  · refine z_mem (ν := zup (zup (zup μ 22 (μ 22)) 26 (μ 26)) 27 (μ 27)) (zup_id3 μ 22 26 27 (by decide) (by decide) (by decide)) ?_
    obtain ⟨l, rfl⟩ : ∃ l : Nat, x = (l : Int) := ⟨x.toNat, by omega⟩
    refine z_aload_n K dX8_share_13 rfl ?_
    refine z_get (k := 0) (v := .ref (ad 20)) K dX8_share_14 fl_X8_37 rfl rfl rfl ?_
    refine z_iload_n K dX8_share_17 rfl ?_
    refine z_iload_n K dX8_share_18 rfl ?_
    refine z_callVi K hl1 hg1 (kb := 20) (As := [.int (zi ((l : Nat) : Int)), .int (zi q)]) (rest := []) (ct_shareOf la g0 ad μ n nc hp hv (μ 26) (μ 27) (μ 22) l (by omega) q hq) (by decide) lk_X8_210 cd_X2_shareOf rfl rfl rfl rfl (Nat.le_of_ble_eq_true rfl) dX8_share_19 (fun r19 μ19 h19 => ?_)
    exact z_ireti K T rfl dX8_share_22 ⟨(by rw [h19.1]; unfold zA_share; rw [if_pos (by omega), Int.toNat_natCast]), zfr3 (Or.inr rfl) h19.2⟩
  · refine z_iconst K dX8_share_11 ?_
    exact z_ireti K T rfl dX8_share_12 ⟨(by unfold zA_share; rw [if_neg (by omega)]), fun _ _ => rfl⟩
set_option maxHeartbeats 4000000 in
set_option maxRecDepth 100000 in
theorem cp_rests (la : Launch) (g0 : zG) (ad : Nat → Nat) (μ : zMem) (n nc : Nat) (hp : zPlan μ n nc) (hv : zHV n nc (μ 18)) (x y w : Int) (hx : zR x) (hy : zR y) (hw : zR w) : zCon la g0 yX8_rests cX8_rests 4 (some .int) 6 ad zSH [.ref (ad 0), .int (zi x), .int (zi y), .int (zi w)] μ (zPi (zQu μ (zA_rests n (μ 13) (μ 14) nc (μ 16) (μ 18) x y w))) := by
  refine zCon_of (by decide +kernel) (Nat.le_of_ble_eq_true rfl) ?_
  intro χ K T hl1 hg1
  have K : zOk χ cX8_rests RX8 4 6 (some .int) := K
  obtain ⟨hn, hn6, hnc, hnc3, hpl, hpk⟩ := id hp
  show zV χ 4 ad zSH 0 0 0 [(0, .ref (ad 0)), (1, .int (zi x)), (2, .int (zi y)), (3, .int (zi w))] [] μ
  refine z_aload_n K dX8_rests_0 rfl ?_
  refine z_get (k := 0) (v := .ref (ad 10)) K dX8_rests_1 fl_X8_19 rfl rfl rfl ?_
  refine z_iload_n K dX8_rests_4 rfl ?_
  refine z_callVd K hl1 hg1 (kb := 10) (As := [.int (zi x)]) (rest := []) (ct_hasClerk la g0 ad μ n nc hp x (by omega)) (by decide) lk_X8_144 cd_X4_hasClerk rfl rfl rfl rfl (Nat.le_of_ble_eq_true rfl) dX8_rests_5 ?_
  refine z_ifeq (tgt := 22) K dX8_rests_8 (by decide) (by omega) (fun h8 => ?_) (fun h8 => ?_)
  · refine z_iconst K dX8_rests_22 ?_
    exact z_ireti K T rfl dX8_rests_23 ⟨(by unfold zA_rests; rw [if_pos (by omega)]), fun _ _ => rfl⟩
  · refine z_aload_n K dX8_rests_11 rfl ?_
    refine z_get (k := 0) (v := .ref (ad 10)) K dX8_rests_12 fl_X8_19 rfl rfl rfl ?_
    refine z_iload_n K dX8_rests_15 rfl ?_
    refine z_callVd K hl1 hg1 (kb := 10) (As := [.int (zi y)]) (rest := []) (ct_hasClerk la g0 ad μ n nc hp y (by omega)) (by decide) lk_X8_144 cd_X4_hasClerk rfl rfl rfl rfl (Nat.le_of_ble_eq_true rfl) dX8_rests_16 ?_
    refine z_ifne (tgt := 24) K dX8_rests_19 (by decide) (by omega) (fun h19 => ?_) (fun h19 => ?_)
    · refine z_iload_n K dX8_rests_24 rfl ?_
      refine z_iload_n K dX8_rests_25 rfl ?_
      refine z_icmpeq (tgt := 38) K dX8_rests_26 (by decide) (by omega) (by omega) (fun h26 => ?_) (fun h26 => ?_)
      · refine z_bipush K dX8_rests_38 (by decide +kernel) ?_
        exact z_ireti K T rfl dX8_rests_40 ⟨(by unfold zA_rests; rw [if_neg (by omega), if_pos (by omega)]), fun _ _ => rfl⟩
      · refine z_iload_n K dX8_rests_29 rfl ?_
        refine z_iflt (tgt := 38) K dX8_rests_30 (by decide) (by omega) (fun h30 => ?_) (fun h30 => ?_)
        · refine z_bipush K dX8_rests_38 (by decide +kernel) ?_
          exact z_ireti K T rfl dX8_rests_40 ⟨(by unfold zA_rests; rw [if_neg (by omega), if_pos (by omega)]), fun _ _ => rfl⟩
        · refine z_iload_n K dX8_rests_33 rfl ?_
          refine z_iconst K dX8_rests_34 ?_
          refine z_icmple (tgt := 41) K dX8_rests_35 (by decide) (by omega) ⟨by decide, by decide⟩ (fun h35 => ?_) (fun h35 => ?_)
          · refine z_mem (ν := zup (zup (zup (zup μ 23 (μ 23)) 24 (μ 24)) 26 (μ 26)) 27 (μ 27)) (zup_id4 μ 23 24 26 27) ?_
            obtain ⟨l, rfl⟩ : ∃ l : Nat, x = (l : Int) := ⟨x.toNat, by omega⟩
            obtain ⟨m, rfl⟩ : ∃ m : Nat, y = (m : Int) := ⟨y.toNat, by omega⟩
            refine z_aload_n K dX8_rests_41 rfl ?_
            refine z_get (k := 0) (v := .ref (ad 20)) K dX8_rests_42 fl_X8_37 rfl rfl rfl ?_
            refine z_iload_n K dX8_rests_45 rfl ?_
            refine z_iload_n K dX8_rests_46 rfl ?_
            refine z_iload_n K dX8_rests_47 rfl ?_
            refine z_iconst K dX8_rests_48 ?_
            refine z_icmpne (tgt := 56) K dX8_rests_49 (by decide) (by omega) ⟨by decide, by decide⟩ (fun h49 => ?_) (fun h49 => ?_)
            · refine z_iconst K dX8_rests_56 ?_
              rw [show (0 : Int) = w by omega]
              refine z_callVi K hl1 hg1 (kb := 20) (As := [.int (zi ((l : Nat) : Int)), .int (zi ((m : Nat) : Int)), .int (zi w)]) (rest := []) (ct_restsOf la g0 ad μ n nc hp hv (μ 26) (μ 27) (μ 23) (μ 24) l m (by omega) (by omega) w (by omega)) (by decide) lk_X8_223 cd_X2_restsOf rfl rfl rfl rfl (Nat.le_of_ble_eq_true rfl) dX8_rests_57 (fun r57 μ57 h57 => ?_)
              exact z_ireti K T rfl dX8_rests_60 ⟨(by rw [h57.1]; unfold zA_rests; rw [if_neg (show ¬ ¬ ((0 ≤ ((l : Nat) : Int) ∧ ((l : Nat) : Int) < (nc : Int)) ∧ 0 ≤ ((m : Nat) : Int) ∧ ((m : Nat) : Int) < (nc : Int)) by omega), if_neg (show ¬ (((l : Nat) : Int) = ((m : Nat) : Int) ∨ w < 0 ∨ 1 < w) by omega), Int.toNat_natCast, Int.toNat_natCast]), zfr4 h57.2⟩
            · refine z_iconst K dX8_rests_52 ?_
              refine z_goto (tgt := 57) K dX8_rests_53 (by decide) ?_
              rw [show (1 : Int) = w by omega]
              refine z_callVi K hl1 hg1 (kb := 20) (As := [.int (zi ((l : Nat) : Int)), .int (zi ((m : Nat) : Int)), .int (zi w)]) (rest := []) (ct_restsOf la g0 ad μ n nc hp hv (μ 26) (μ 27) (μ 23) (μ 24) l m (by omega) (by omega) w (by omega)) (by decide) lk_X8_223 cd_X2_restsOf rfl rfl rfl rfl (Nat.le_of_ble_eq_true rfl) dX8_rests_57 (fun r57 μ57 h57 => ?_)
              exact z_ireti K T rfl dX8_rests_60 ⟨(by rw [h57.1]; unfold zA_rests; rw [if_neg (show ¬ ¬ ((0 ≤ ((l : Nat) : Int) ∧ ((l : Nat) : Int) < (nc : Int)) ∧ 0 ≤ ((m : Nat) : Int) ∧ ((m : Nat) : Int) < (nc : Int)) by omega), if_neg (show ¬ (((l : Nat) : Int) = ((m : Nat) : Int) ∨ w < 0 ∨ 1 < w) by omega), Int.toNat_natCast, Int.toNat_natCast]), zfr4 h57.2⟩
          · refine z_bipush K dX8_rests_38 (by decide +kernel) ?_
            exact z_ireti K T rfl dX8_rests_40 ⟨(by unfold zA_rests; rw [if_neg (by omega), if_pos (by omega)]), fun _ _ => rfl⟩
    · refine z_iconst K dX8_rests_22 ?_
      exact z_ireti K T rfl dX8_rests_23 ⟨(by unfold zA_rests; rw [if_pos (by omega)]), fun _ _ => rfl⟩
set_option maxHeartbeats 4000000 in
set_option maxRecDepth 100000 in
theorem cp_hawks (la : Launch) (g0 : zG) (ad : Nat → Nat) (μ : zMem) (n nc : Nat) (hp : zPlan μ n nc) (hv : zHV n nc (μ 18)) (x y q : Int) (hx : zR x) (hy : zR y) (hq : q = 0 ∨ q = 1) : zCon la g0 yX8_hawks cX8_hawks 4 (some .int) 3 ad zSH [.ref (ad 0), .int (zi x), .int (zi y), .int (zi q)] μ (zPi (zQu μ (zA_hawks n (μ 18) x y q))) := by
  refine zCon_of (by decide +kernel) (Nat.le_of_ble_eq_true rfl) ?_
  intro χ K T hl1 hg1
  have K : zOk χ cX8_hawks RX8 4 3 (some .int) := K
  obtain ⟨hn, hn6, hnc, hnc3, hpl, hpk⟩ := id hp
  show zV χ 4 ad zSH 0 0 0 [(0, .ref (ad 0)), (1, .int (zi x)), (2, .int (zi y)), (3, .int (zi q))] [] μ
  refine z_iload_n K dX8_hawks_0 rfl ?_
  refine z_iflt (tgt := 20) K dX8_hawks_1 (by decide) (by omega) (fun h1 => ?_) (fun h1 => ?_)
  · refine z_bipush K dX8_hawks_20 (by decide +kernel) ?_
    exact z_ireti K T rfl dX8_hawks_22 ⟨(by unfold zA_hawks; rw [if_neg (by omega)]), fun _ _ => rfl⟩
  · refine z_iload_n K dX8_hawks_4 rfl ?_
    refine z_bipush K dX8_hawks_5 (by decide +kernel) ?_
    refine z_icmpgt (tgt := 20) K dX8_hawks_7 (by decide) (by omega) ⟨by decide, by decide⟩ (fun h7 => ?_) (fun h7 => ?_)
    · refine z_bipush K dX8_hawks_20 (by decide +kernel) ?_
      exact z_ireti K T rfl dX8_hawks_22 ⟨(by unfold zA_hawks; rw [if_neg (by omega)]), fun _ _ => rfl⟩
    · refine z_iload_n K dX8_hawks_10 rfl ?_
      refine z_iflt (tgt := 20) K dX8_hawks_11 (by decide) (by omega) (fun h11 => ?_) (fun h11 => ?_)
      · refine z_bipush K dX8_hawks_20 (by decide +kernel) ?_
        exact z_ireti K T rfl dX8_hawks_22 ⟨(by unfold zA_hawks; rw [if_neg (by omega)]), fun _ _ => rfl⟩
      · refine z_iload_n K dX8_hawks_14 rfl ?_
        refine z_bipush K dX8_hawks_15 (by decide +kernel) ?_
        refine z_icmple (tgt := 23) K dX8_hawks_17 (by decide) (by omega) ⟨by decide, by decide⟩ (fun h17 => ?_) (fun h17 => ?_)
        · obtain ⟨l, rfl⟩ : ∃ l : Nat, x = (l : Int) := ⟨x.toNat, by omega⟩
          obtain ⟨m, rfl⟩ : ∃ m : Nat, y = (m : Int) := ⟨y.toNat, by omega⟩
          refine z_aload_n K dX8_hawks_23 rfl ?_
          refine z_get (k := 0) (v := .ref (ad 37)) K dX8_hawks_24 fl_X8_71 rfl rfl rfl ?_
          refine z_aload_n K dX8_hawks_27 rfl ?_
          refine z_get (k := 0) (v := .ref (ad 17)) K dX8_hawks_28 fl_X8_28 rfl rfl rfl ?_
          refine z_iconst K dX8_hawks_31 ?_
          refine z_callVd K hl1 hg1 (kb := 17) (As := [.int (zi (2 : Int))]) (rest := [.ref (ad 37)]) (ct_who_n la g0 ad μ n nc hp hv.1 2 ⟨by decide, by decide⟩) (by decide) lk_X8_108 cd_X1_who rfl rfl rfl rfl (Nat.le_of_ble_eq_true rfl) dX8_hawks_32 ?_
          refine z_callSd K hl1 hg1 (As := [.int (zi ((zwho (μ 18) 2 n : Nat) : Int))]) (rest := [.ref (ad 37)]) (ct_bitCount la g0 ad μ (zwho (μ 18) 2 n) (z64 (zwho_lt _ _ _) hn6)) (by decide) lk_X8_227 cd_J6_bitCount_0f7a4 rfl rfl (Nat.le_of_ble_eq_true rfl) dX8_hawks_35 ?_
          have hp6 := zpop_le (zwho (μ 18) 2 n)
          refine z_iload_n K dX8_hawks_38 rfl ?_
          refine z_iload_n K dX8_hawks_39 rfl ?_
          refine z_iload_n K dX8_hawks_40 rfl ?_
          refine z_callVi K hl1 hg1 (kb := 37) (As := [.int (zi ((zpop (zwho (μ 18) 2 n) : Nat) : Int)), .int (zi ((l : Nat) : Int)), .int (zi ((m : Nat) : Int)), .int (zi q)]) (rest := []) (ct_left la g0 ad μ (zpop (zwho (μ 18) 2 n)) l m hp6 (by omega) (by omega) q hq) (by decide) lk_X8_232 cd_X0_left rfl rfl rfl rfl (Nat.le_of_ble_eq_true rfl) dX8_hawks_41 (fun r41 μ41 h41 => ?_)
          exact z_ireti K T rfl dX8_hawks_44 ⟨(by rw [h41.1]; unfold zA_hawks; rw [if_pos (by omega), Int.toNat_natCast]), fun k hk => by obtain ⟨f, hf⟩ := h41.2; rw [hf]; unfold zScr at hk; unfold zup; rw [if_neg (by omega)]⟩
        · refine z_bipush K dX8_hawks_20 (by decide +kernel) ?_
          exact z_ireti K T rfl dX8_hawks_22 ⟨(by unfold zA_hawks; rw [if_neg (by omega)]), fun _ _ => rfl⟩
set_option maxHeartbeats 4000000 in
set_option maxRecDepth 100000 in
theorem cp_years (la : Launch) (g0 : zG) (ad : Nat → Nat) (μ : zMem) (n nc : Nat) (hp : zPlan μ n nc) (hv : zHV n nc (μ 18)) (x : Int) (hx : zR x) : zCon la g0 yX8_years cX8_years 3 (some .int) 6 ad zSH [.ref (ad 0), .int (zi x)] μ (zPi (fun r ν => r = zA_years n (μ 13) (μ 14) nc (μ 16) (μ 18) (μ 0 9) x ∧ ν 0 = (if 1 ≤ x ∧ x ≤ 30 then zu1 (μ 0) 9 (zyr n (μ 13) (μ 14) nc (μ 16) (μ 18, zz0) (μ 0 9) x.toNat).2.1 else μ 0) ∧ ∀ q, ¬ zScr q → q ≠ 0 → ν q = μ q)) := by
  refine zCon_of (by decide +kernel) (Nat.le_of_ble_eq_true rfl) ?_
  intro χ K T hl1 hg1
  have K : zOk χ cX8_years RX8 3 6 (some .int) := K
  obtain ⟨hn, hn6, hnc, hnc3, hpl, hpk⟩ := id hp
  show zV χ 3 ad zSH 0 0 0 [(0, .ref (ad 0)), (1, .int (zi x))] [] μ
  refine z_iload_n K dX8_years_0 rfl ?_
  refine z_iconst K dX8_years_1 ?_
  refine z_icmplt (tgt := 11) K dX8_years_2 (by decide) (by omega) ⟨by decide, by decide⟩ (fun h2 => ?_) (fun h2 => ?_)
  · refine z_bipush K dX8_years_11 (by decide +kernel) ?_
    exact z_ireti K T rfl dX8_years_13 ⟨(by unfold zA_years; rw [if_neg (by omega)]), (if_neg (by omega)).symm, fun _ _ _ => rfl⟩
  · refine z_iload_n K dX8_years_5 rfl ?_
    refine z_bipush K dX8_years_6 (by decide +kernel) ?_
    refine z_icmple (tgt := 14) K dX8_years_8 (by decide) (by omega) ⟨by decide, by decide⟩ (fun h8 => ?_) (fun h8 => ?_)
    · refine z_mem (ν := zup (zup μ 26 (μ 26)) 27 (μ 27)) (zup_id2 μ 26 27 (by decide)) ?_
      obtain ⟨l, rfl⟩ : ∃ l : Nat, x = (l : Int) := ⟨x.toNat, by omega⟩
      refine z_aload_n K dX8_years_14 rfl ?_
      refine z_get (k := 0) (v := .ref (ad 20)) K dX8_years_15 fl_X8_37 rfl rfl rfl ?_
      refine z_iload_n K dX8_years_18 rfl ?_
      refine z_aload_n K dX8_years_19 rfl ?_
      refine z_get (k := 0) (v := .long (zl (μ 0 9))) K dX8_years_20 fl_X8_236 rfl rfl rfl ?_
      refine z_callVi K hl1 hg1 (kb := 20) (As := [.int (zi ((l : Nat) : Int)), .long (zl (μ 0 9))]) (rest := []) (ct_birdsOfYears la g0 ad μ n nc hp hv (μ 26) (μ 27) l (by omega) (μ 0 9)) (by decide) lk_X8_240 cd_X2_birdsOfYears rfl rfl rfl rfl (Nat.le_of_ble_eq_true rfl) dX8_years_23 (fun r23 ν h23 => ?_)
      obtain ⟨hr23, x2, y2, hν⟩ := h23
      subst hν
      refine z_istore_n (lv' := [(0, .ref (ad 0)), (1, .int (zi ((l : Nat) : Int))), (2, .int (zi r23))]) K dX8_years_26 (by decide) rfl ?_
      refine z_aload_n K dX8_years_27 rfl ?_
      refine z_aload_n K dX8_years_28 rfl ?_
      refine z_get (k := 0) (v := .ref (ad 20)) K dX8_years_29 fl_X8_37 rfl rfl rfl ?_
      refine z_get (k := 20) (v := .long (zl ((zup (zup (zup μ 20 (zu1 (μ 20) 7 (zyr n (μ 13) (μ 14) nc (μ 16) (μ 18, zz0) (μ 0 9) l).2.1)) 26 x2) 27 y2) 20 7))) K dX8_years_32 fl_X8_243 rfl rfl rfl ?_
      refine z_putl (k := 0) K dX8_years_35 fp_X8_236 rfl rfl ?_
      refine z_iload_n K dX8_years_38 rfl ?_
      exact z_ireti K T rfl dX8_years_39 ⟨(by rw [hr23]; unfold zA_years; rw [if_pos (by omega), Int.toNat_natCast]), (by rw [if_pos (by omega), Int.toNat_natCast]; rfl), fun k hk hk0 => by unfold zScr at hk; unfold zup; rw [if_neg (by omega), if_neg (by omega), if_neg (by omega), if_neg (by omega)]⟩
    · refine z_bipush K dX8_years_11 (by decide +kernel) ?_
      exact z_ireti K T rfl dX8_years_13 ⟨(by unfold zA_years; rw [if_neg (by omega)]), (if_neg (by omega)).symm, fun _ _ _ => rfl⟩
