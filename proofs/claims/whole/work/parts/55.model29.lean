theorem zup_idk {μ X : zMem} (h : X = μ) (k : Nat) : zup X k (μ k) = μ := by rw [h]; exact (zup_id μ k).symm
/-- a room told: what the reference holds then -/
def zRm (μ : zMem) (t n nc : Nat) (gr : Int) (ho wt kd po an : Nat → Int) (r : Int) (ν : zMem) : Prop :=
  (zfault (μ 40) t = -9 ∧ r = 10 * (n : Int) + (nc : Int) ∧ ν 39 4 = (n : Int) ∧ ν 39 7 = (nc : Int) ∧ ν 39 17 = 0 ∧ ν 39 2 = μ 39 2 ∧ ν 39 20 = μ 39 20 ∧ ν 39 23 = μ 39 23 ∧ (∀ l, l < n → ν 46 l = ho l ∧ ν 46 (6 + l) = 0 ∧ ν 46 (12 + l) = 0 ∧ ν 41 l = wt l ∧ ν 42 l = kd l) ∧ (∀ k, k < nc → ν 46 (18 + k) = po k ∧ ν 43 k = an k) ∧ ν 46 21 = gr ∧ ν 46 22 = 0 ∧ ν 50 0 = 0 ∧ ν 50 1 = 0 ∧
    ∀ q, q < 39 ∨ q = 40 ∨ (46 < q ∧ q ≠ 50) → ν q = μ q) ∨ (¬ zfault (μ 40) t = -9 ∧ r = -3 ∧ zFr μ ν)
theorem zeq8 {μ : zMem} {g u v : Nat → Int} (_ : True) : zup (zup (zup μ 39 g) 44 u) 45 v = zup (zup (zup (zup (zup (zup (zup (zup μ 39 g) 44 u) 45 v) 46 (μ 46)) 41 (μ 41)) 42 (μ 42)) 43 (μ 43)) 50 (μ 50) := by
  funext q; unfold zup
  by_cases h1 : q = 50
  · subst h1; rfl
  · by_cases h2 : q = 43
    · subst h2; rfl
    · by_cases h3 : q = 42
      · subst h3; rfl
      · by_cases h4 : q = 41
        · subst h4; rfl
        · by_cases h5 : q = 46
          · subst h5; rfl
          · simp [h1, h2, h3, h4, h5]
theorem zfault_r48 (y : Nat → Int) (t : Nat) (ht : t ≤ 48) : -9 ≤ zfault y t ∧ zfault y t ≤ 48 := by
  have key : ∀ r j, j + r = t → -9 ≤ zflt y t r j ∧ zflt y t r j ≤ 48 := by
    intro r
    induction r with
    | zero => intro j _; show -9 ≤ (if (zpre y t).1 = 2 then (-9 : Int) else (t : Int)) ∧ (if (zpre y t).1 = 2 then (-9 : Int) else (t : Int)) ≤ 48; split <;> omega
    | succ r ih => intro j hj; rw [zflt_s]; split; · omega
                   · exact ih (j + 1) (by omega)
  exact key t 0 (by omega)
set_option maxHeartbeats 4000000 in
set_option maxRecDepth 100000 in
theorem cm_room (la : Launch) (g0 : zG) (ad : Nat → Nat) (μ : zMem) (t : Nat) (ht : μ 39 2 = (t : Int)) (ht48 : t ≤ 48) (hx : ∀ j, j < 48 → 0 ≤ μ 40 j ∧ μ 40 j ≤ 255) (n nc : Nat) (gr : Int) (ho wt kd po an : Nat → Int) (hP : (zpre (μ 40) t).2 = (n, nc, gr, ho, wt, kd, po, an)) : zCon la g0 yX9_room cX9_room 2 (some .int) 5 ad zSH [.ref (ad 39)] μ (zPi (zRm μ t n nc gr ho wt kd po an)) := by
  refine zCon_of (by decide +kernel) (Nat.le_of_ble_eq_true rfl) ?_
  intro χ K T hl1 hg1
  have K : zOk χ cX9_room RX9 2 5 (some .int) := K
  have hflt := zfault_r48 (μ 40) t ht48
  refine z_mem (ν := zup (zup (zup μ 39 (μ 39)) 44 (μ 44)) 45 (μ 45)) (zup_id3 μ 39 44 45 (by decide) (by decide) (by decide)) ?_
  show zV χ 2 ad zSH 0 0 0 [(0, .ref (ad 39))] [] (zup (zup (zup μ 39 (μ 39)) 44 (μ 44)) 45 (μ 45))
  refine z_aload_n K dX9_room_0 rfl ?_
  refine z_iconst K dX9_room_1 ?_
  refine z_puti (k := 39) K dX9_room_2 fp_X9_59 rfl rfl (z_mem (ν := zup (zup (zup μ 39 (zu1 (μ 39) 0 (0 : Int))) 44 (μ 44)) 45 (μ 45)) (zup_sw3 _ (by decide) (by decide) _ _ _ _) ?_)
  refine z_aload_n K dX9_room_5 rfl ?_
  refine z_callVi K hl1 hg1 (kb := 39) (As := []) (rest := []) (cm_readRoom la g0 ad (μ) (zu1 (μ 39) 0 (0 : Int)) (μ 44) (μ 45) t ht ht48 hx) (by decide) lk_X9_108 cd_X9_readRoom rfl rfl rfl rfl (Nat.le_of_ble_eq_true rfl) dX9_room_6 (fun r ν h6 => ?_)
  obtain ⟨hr, g, u2, v2, hν, hgf, hR⟩ := h6
  subst hν
  have hr9 : -9 ≤ r ∧ r ≤ 48 := by omega
  refine z_bipush K dX9_room_9 (by decide +kernel) ?_
  refine z_icmpeq (tgt := 17) K dX9_room_11 (by decide) (by omega) ⟨by decide, by decide⟩ (fun h11 => ?_) (fun h11 => ?_)
  · have hf9 : zfault (μ 40) t = -9 := by omega
    obtain ⟨hst, hok⟩ := zfault_inv hf9
    have hPV := zPV_pre _ t hok
    have hR := hR (by omega)
    rw [hP] at hPV hR
    obtain ⟨v1, v2b, v3, v4, v5, v6, v7, v8, v9, v10, v11, v12⟩ := hPV
    dsimp only at v1 v2b v8 v9 v10 v11 v12
    have hR5 : ∀ l, l < n → u2 (3 * l) = ho l ∧ u2 (3 * l + 1) = wt l ∧ u2 (3 * l + 2) = kd l := hR.2.2.2.2.1
    have hR6 : ∀ k, k < nc → v2 (2 * k) = po k ∧ v2 (2 * k + 1) = an k := hR.2.2.2.2.2
    refine z_mem (ν := zup (zup (zup (zup (zup (zup (zup (zup μ 39 g) 44 u2) 45 v2) 46 (μ 46)) 41 (μ 41)) 42 (μ 42)) 43 (μ 43)) 50 (μ 50)) (zeq8 trivial) ?_
    refine z_aload_n K dX9_room_17 rfl ?_
    refine z_aload_n K dX9_room_18 rfl ?_
    refine z_get (k := 39) (v := .int (zi (g 10))) K dX9_room_19 fl_X9_81 rfl rfl rfl ?_
    rw [show (g 10) = ((n : Nat) : Int) from hR.2.1]
    refine z_puti (k := 39) K dX9_room_22 fp_X9_63 rfl rfl (z_mem (ν := zup (zup (zup (zup (zup (zup (zup (zup μ 39 (zu1 g 4 ((n : Nat) : Int))) 44 u2) 45 v2) 46 (μ 46)) 41 (μ 41)) 42 (μ 42)) 43 (μ 43)) 50 (μ 50)) (zup_in (zup_in (zup_in (zup_in (zup_in (zup_in (zup_in (zup_same _ _ _ _) (by decide)) (by decide)) (by decide)) (by decide)) (by decide)) (by decide)) (by decide)) ?_)
    refine z_aload_n K dX9_room_25 rfl ?_
    refine z_aload_n K dX9_room_26 rfl ?_
    refine z_get (k := 39) (v := .int (zi ((zu1 g 4 ((n : Nat) : Int)) 12))) K dX9_room_27 fl_X9_92 rfl rfl rfl ?_
    rw [show ((zu1 g 4 ((n : Nat) : Int)) 12) = ((nc : Nat) : Int) from hR.2.2.1]
    refine z_puti (k := 39) K dX9_room_30 fp_X9_70 rfl rfl (z_mem (ν := zup (zup (zup (zup (zup (zup (zup (zup μ 39 (zu1 (zu1 g 4 ((n : Nat) : Int)) 7 ((nc : Nat) : Int))) 44 u2) 45 v2) 46 (μ 46)) 41 (μ 41)) 42 (μ 42)) 43 (μ 43)) 50 (μ 50)) (zup_in (zup_in (zup_in (zup_in (zup_in (zup_in (zup_in (zup_same _ _ _ _) (by decide)) (by decide)) (by decide)) (by decide)) (by decide)) (by decide)) (by decide)) ?_)
    refine z_iconst K dX9_room_33 ?_
    refine z_istore_n (lv' := [(0, .ref (ad 39)), (1, .int (zi (0 : Int)))]) K dX9_room_34 (by decide) rfl ?_
    have L35 : ∀ i, i ≤ 23 → ∀ (q : Nat → Int), (∀ j, j < i → q j = 0) → zV χ 2 ad zSH 0 0 35 [(0, .ref (ad 39)), (1, .int (zi ((i : Nat) : Int)))] [] (zup (zup (zup (zup (zup (zup (zup (zup μ 39 (zu1 (zu1 g 4 ((n : Nat) : Int)) 7 ((nc : Nat) : Int))) 44 u2) 45 v2) 46 q) 41 (μ 41)) 42 (μ 42)) 43 (μ 43)) 50 (μ 50)) := by
      refine zfor ?_
      intro i hi ih q hq
      refine z_iload_n K dX9_room_35 rfl ?_
      refine z_bipush K dX9_room_36 (by decide +kernel) ?_
      refine z_icmpge (tgt := 54) K dX9_room_38 (by decide) (by omega) ⟨by decide, by decide⟩ (fun h38 => ?_) (fun h38 => ?_)
      · refine z_iconst K dX9_room_54 ?_
        refine z_istore_n (lv' := [(0, .ref (ad 39)), (1, .int (zi (0 : Int)))]) K dX9_room_55 (by decide) rfl ?_
        have L56 : ∀ l, l ≤ n → ∀ (q w1 w2 : Nat → Int), (∀ j, j < l → q j = ho j ∧ w1 j = wt j ∧ w2 j = kd j) → (∀ j, 6 ≤ j → j < 23 → q j = 0) → zV χ 2 ad zSH 0 0 56 [(0, .ref (ad 39)), (1, .int (zi ((l : Nat) : Int)))] [] (zup (zup (zup (zup (zup (zup (zup (zup μ 39 (zu1 (zu1 g 4 ((n : Nat) : Int)) 7 ((nc : Nat) : Int))) 44 u2) 45 v2) 46 q) 41 w1) 42 w2) 43 (μ 43)) 50 (μ 50)) := by
          refine zfor ?_
          intro l hl ih2 q w1 w2 hq1 hq2
          refine z_iload_n K dX9_room_56 rfl ?_
          refine z_aload_n K dX9_room_57 rfl ?_
          refine z_get (k := 39) (v := .int (zi ((zu1 (zu1 g 4 ((n : Nat) : Int)) 7 ((nc : Nat) : Int)) 4))) K dX9_room_58 fl_X9_63 rfl rfl rfl ?_
          rw [show ((zu1 (zu1 g 4 ((n : Nat) : Int)) 7 ((nc : Nat) : Int)) 4) = ((n : Nat) : Int) from rfl]
          refine z_icmpge (tgt := 116) K dX9_room_61 (by decide) (by omega) (by omega) (fun h61 => ?_) (fun h61 => ?_)
          · refine z_iconst K dX9_room_116 ?_
            refine z_istore_n (lv' := [(0, .ref (ad 39)), (1, .int (zi (0 : Int)))]) K dX9_room_117 (by decide) rfl ?_
            have L118 : ∀ k, k ≤ nc → ∀ (q3 w3 : Nat → Int), (∀ j, j < k → q3 (18 + j) = po j ∧ w3 j = an j) → (∀ j, (j < 18 ∨ j = 22) → q3 j = q j) → zV χ 2 ad zSH 0 0 118 [(0, .ref (ad 39)), (1, .int (zi ((k : Nat) : Int)))] [] (zup (zup (zup (zup (zup (zup (zup (zup μ 39 (zu1 (zu1 g 4 ((n : Nat) : Int)) 7 ((nc : Nat) : Int))) 44 u2) 45 v2) 46 q3) 41 w1) 42 w2) 43 w3) 50 (μ 50)) := by
              refine zfor ?_
              intro k hk ih3 q3 w3 hq3 hq4
              refine z_iload_n K dX9_room_118 rfl ?_
              refine z_aload_n K dX9_room_119 rfl ?_
              refine z_get (k := 39) (v := .int (zi ((zu1 (zu1 g 4 ((n : Nat) : Int)) 7 ((nc : Nat) : Int)) 7))) K dX9_room_120 fl_X9_70 rfl rfl rfl ?_
              rw [show ((zu1 (zu1 g 4 ((n : Nat) : Int)) 7 ((nc : Nat) : Int)) 7) = ((nc : Nat) : Int) from rfl]
              refine z_icmpge (tgt := 165) K dX9_room_123 (by decide) (by omega) (by omega) (fun h123 => ?_) (fun h123 => ?_)
              · refine z_aload_n K dX9_room_165 rfl ?_
                refine z_get (k := 39) (v := .ref (ad 46)) K dX9_room_166 fl_X9_28 rfl rfl rfl ?_
                refine z_bipush K dX9_room_169 (by decide +kernel) ?_
                refine z_aload_n K dX9_room_171 rfl ?_
                refine z_get (k := 39) (v := .int (zi ((zu1 (zu1 g 4 ((n : Nat) : Int)) 7 ((nc : Nat) : Int)) 9))) K dX9_room_172 fl_X9_102 rfl rfl rfl ?_
                rw [show ((zu1 (zu1 g 4 ((n : Nat) : Int)) 7 ((nc : Nat) : Int)) 9) = gr from hR.2.2.2.1]
                refine z_iast (k := 46) K dX9_room_175 21 rfl (by decide) (by omega) (by omega) (z_mem (ν := zup (zup (zup (zup (zup (zup (zup (zup μ 39 (zu1 (zu1 g 4 ((n : Nat) : Int)) 7 ((nc : Nat) : Int))) 44 u2) 45 v2) 46 (zu1 q3 21 gr)) 41 w1) 42 w2) 43 w3) 50 (μ 50)) (zup_in (zup_in (zup_in (zup_in (zup_same _ _ _ _) (by decide)) (by decide)) (by decide)) (by decide)) ?_)
                refine z_aload_n K dX9_room_176 rfl ?_
                refine z_iconst K dX9_room_177 ?_
                refine z_puti (k := 39) K dX9_room_178 fp_X9_112 rfl rfl (z_mem (ν := zup (zup (zup (zup (zup (zup (zup (zup μ 39 (zu1 (zu1 (zu1 g 4 ((n : Nat) : Int)) 7 ((nc : Nat) : Int)) 17 (0 : Int))) 44 u2) 45 v2) 46 (zu1 q3 21 gr)) 41 w1) 42 w2) 43 w3) 50 (μ 50)) (zup_in (zup_in (zup_in (zup_in (zup_in (zup_in (zup_in (zup_same _ _ _ _) (by decide)) (by decide)) (by decide)) (by decide)) (by decide)) (by decide)) (by decide)) ?_)
                refine z_aload_n K dX9_room_181 rfl ?_
                refine z_get (k := 39) (v := .ref (ad 50)) K dX9_room_182 fl_X9_40 rfl rfl rfl ?_
                refine z_iconst K dX9_room_185 ?_
                refine z_iconst K dX9_room_186 ?_
                refine z_zast (k := 50) K dX9_room_187 0 rfl (by decide) (by omega) (by omega) (by omega) (z_mem (ν := zup (zup (zup (zup (zup (zup (zup (zup μ 39 (zu1 (zu1 (zu1 g 4 ((n : Nat) : Int)) 7 ((nc : Nat) : Int)) 17 (0 : Int))) 44 u2) 45 v2) 46 (zu1 q3 21 gr)) 41 w1) 42 w2) 43 w3) 50 (zu1 (μ 50) 0 (0 : Int))) (zup_same _ _ _ _) ?_)
                refine z_aload_n K dX9_room_188 rfl ?_
                refine z_get (k := 39) (v := .ref (ad 50)) K dX9_room_189 fl_X9_40 rfl rfl rfl ?_
                refine z_iconst K dX9_room_192 ?_
                refine z_iconst K dX9_room_193 ?_
                refine z_zast (k := 50) K dX9_room_194 1 rfl (by decide) (by omega) (by omega) (by omega) (z_mem (ν := zup (zup (zup (zup (zup (zup (zup (zup μ 39 (zu1 (zu1 (zu1 g 4 ((n : Nat) : Int)) 7 ((nc : Nat) : Int)) 17 (0 : Int))) 44 u2) 45 v2) 46 (zu1 q3 21 gr)) 41 w1) 42 w2) 43 w3) 50 (zu1 (zu1 (μ 50) 0 (0 : Int)) 1 (0 : Int))) (zup_same _ _ _ _) ?_)
                refine z_bipush K dX9_room_195 (by decide +kernel) ?_
                refine z_aload_n K dX9_room_197 rfl ?_
                refine z_get (k := 39) (v := .int (zi ((zu1 (zu1 (zu1 g 4 ((n : Nat) : Int)) 7 ((nc : Nat) : Int)) 17 (0 : Int)) 4))) K dX9_room_198 fl_X9_63 rfl rfl rfl ?_
                rw [show ((zu1 (zu1 (zu1 g 4 ((n : Nat) : Int)) 7 ((nc : Nat) : Int)) 17 (0 : Int)) 4) = ((n : Nat) : Int) from rfl]
                refine z_imul K dX9_room_201 ?_
                refine z_aload_n K dX9_room_202 rfl ?_
                refine z_get (k := 39) (v := .int (zi ((zu1 (zu1 (zu1 g 4 ((n : Nat) : Int)) 7 ((nc : Nat) : Int)) 17 (0 : Int)) 7))) K dX9_room_203 fl_X9_70 rfl rfl rfl ?_
                rw [show ((zu1 (zu1 (zu1 g 4 ((n : Nat) : Int)) 7 ((nc : Nat) : Int)) 17 (0 : Int)) 7) = ((nc : Nat) : Int) from rfl]
                refine z_iadd K dX9_room_206 ?_
                refine z_ireti K T rfl dX9_room_207 (Or.inl ⟨hf9, by omega, rfl, rfl, rfl, hgf 2 (by decide) (by decide) (by decide) (by decide), hgf 20 (by decide) (by decide) (by decide) (by decide), hgf 23 (by decide) (by decide) (by decide) (by decide), fun j hj => ?_, fun j hj => ?_, rfl, ?_, rfl, rfl, fun q9 hq9 => ?_⟩)
                · show zu1 q3 21 gr j = ho j ∧ zu1 q3 21 gr (6 + j) = 0 ∧ zu1 q3 21 gr (12 + j) = 0 ∧ w1 j = wt j ∧ w2 j = kd j
                  rw [zu1_ne _ _ (by omega), zu1_ne _ _ (by omega), zu1_ne _ _ (by omega), hq4 j (by omega), hq4 (6 + j) (by omega), hq4 (12 + j) (by omega)]
                  have := hq1 j (by omega)
                  exact ⟨this.1, hq2 _ (by omega) (by omega), hq2 _ (by omega) (by omega), this.2⟩
                · show zu1 q3 21 gr (18 + j) = po j ∧ w3 j = an j
                  rw [zu1_ne _ _ (by omega)]
                  exact hq3 j (by omega)
                · show zu1 q3 21 gr 22 = 0
                  rw [zu1_ne _ _ (by decide), hq4 22 (Or.inr rfl)]
                  exact hq2 22 (by decide) (by decide)
                · unfold zup
                  rw [if_neg (by omega), if_neg (by omega), if_neg (by omega), if_neg (by omega), if_neg (by omega), if_neg (by omega), if_neg (by omega), if_neg (by omega)]
              · refine z_aload_n K dX9_room_126 rfl ?_
                refine z_get (k := 39) (v := .ref (ad 46)) K dX9_room_127 fl_X9_28 rfl rfl rfl ?_
                refine z_bipush K dX9_room_130 (by decide +kernel) ?_
                refine z_iload_n K dX9_room_132 rfl ?_
                refine z_iadd K dX9_room_133 ?_
                refine z_aload_n K dX9_room_134 rfl ?_
                refine z_get (k := 39) (v := .ref (ad 45)) K dX9_room_135 fl_X9_25 rfl rfl rfl ?_
                refine z_iconst K dX9_room_138 ?_
                refine z_iload_n K dX9_room_139 rfl ?_
                refine z_imul K dX9_room_140 ?_
                refine z_iald (k := 45) (v := po k) K dX9_room_141 (2 * k) rfl (by decide) (by omega) (by omega) (hR6 k (by omega)).1 ?_
                refine z_iast (k := 46) K dX9_room_142 (18 + k) rfl (by decide) (by omega) (by omega) (z_mem (ν := zup (zup (zup (zup (zup (zup (zup (zup μ 39 (zu1 (zu1 g 4 ((n : Nat) : Int)) 7 ((nc : Nat) : Int))) 44 u2) 45 v2) 46 (zu1 q3 (18 + k) (po k))) 41 w1) 42 w2) 43 w3) 50 (μ 50)) (zup_in (zup_in (zup_in (zup_in (zup_same _ _ _ _) (by decide)) (by decide)) (by decide)) (by decide)) ?_)
                refine z_aload_n K dX9_room_143 rfl ?_
                refine z_get (k := 39) (v := .ref (ad 43)) K dX9_room_144 fl_X9_19 rfl rfl rfl ?_
                refine z_iload_n K dX9_room_147 rfl ?_
                refine z_aload_n K dX9_room_148 rfl ?_
                refine z_get (k := 39) (v := .ref (ad 45)) K dX9_room_149 fl_X9_25 rfl rfl rfl ?_
                refine z_iconst K dX9_room_152 ?_
                refine z_iload_n K dX9_room_153 rfl ?_
                refine z_imul K dX9_room_154 ?_
                refine z_iconst K dX9_room_155 ?_
                refine z_iadd K dX9_room_156 ?_
                refine z_iald (k := 45) (v := an k) K dX9_room_157 (2 * k + 1) rfl (by decide) (by omega) (by omega) (hR6 k (by omega)).2 ?_
                refine z_iast (k := 43) K dX9_room_158 k rfl (by decide) (by omega) (by omega) (z_mem (ν := zup (zup (zup (zup (zup (zup (zup (zup μ 39 (zu1 (zu1 g 4 ((n : Nat) : Int)) 7 ((nc : Nat) : Int))) 44 u2) 45 v2) 46 (zu1 q3 (18 + k) (po k))) 41 w1) 42 w2) 43 (zu1 w3 k (an k))) 50 (μ 50)) (zup_sw _ (by decide) _ _ _) ?_)
                refine z_iincN (lv' := [(0, .ref (ad 39)), (1, .int (zi ((k + 1 : Nat) : Int)))]) K dX9_room_159 rfl (by decide) rfl ?_
                refine z_goto (tgt := 118) K dX9_room_162 (by decide) ?_
                exact ih3 (k + 1) (by omega) (by omega) _ _ (fun j hj => by
                  by_cases e : j = k
                  · subst e; exact ⟨zu1_eq _ _ _, zu1_eq _ _ _⟩
                  · rw [zu1_ne _ _ (show 18 + j ≠ 18 + k by omega), zu1_ne _ _ e]; exact hq3 j (by omega)) (fun j h1 => by rw [zu1_ne _ _ (by omega)]; exact hq4 j h1)
            exact L118 0 (Nat.zero_le _) q (μ 43) (fun j hj => absurd hj (by omega)) (fun _ _ => rfl)
          · refine z_aload_n K dX9_room_64 rfl ?_
            refine z_get (k := 39) (v := .ref (ad 46)) K dX9_room_65 fl_X9_28 rfl rfl rfl ?_
            refine z_iload_n K dX9_room_68 rfl ?_
            refine z_aload_n K dX9_room_69 rfl ?_
            refine z_get (k := 39) (v := .ref (ad 44)) K dX9_room_70 fl_X9_22 rfl rfl rfl ?_
            refine z_iconst K dX9_room_73 ?_
            refine z_iload_n K dX9_room_74 rfl ?_
            refine z_imul K dX9_room_75 ?_
            refine z_iald (k := 44) (v := ho l) K dX9_room_76 (3 * l) rfl (by decide) (by omega) (by omega) (hR5 l (by omega)).1 ?_
            refine z_iast (k := 46) K dX9_room_77 l rfl (by decide) (by omega) (by omega) (z_mem (ν := zup (zup (zup (zup (zup (zup (zup (zup μ 39 (zu1 (zu1 g 4 ((n : Nat) : Int)) 7 ((nc : Nat) : Int))) 44 u2) 45 v2) 46 (zu1 q l (ho l))) 41 w1) 42 w2) 43 (μ 43)) 50 (μ 50)) (zup_in (zup_in (zup_in (zup_in (zup_same _ _ _ _) (by decide)) (by decide)) (by decide)) (by decide)) ?_)
            refine z_aload_n K dX9_room_78 rfl ?_
            refine z_get (k := 39) (v := .ref (ad 41)) K dX9_room_79 fl_X9_13 rfl rfl rfl ?_
            refine z_iload_n K dX9_room_82 rfl ?_
            refine z_aload_n K dX9_room_83 rfl ?_
            refine z_get (k := 39) (v := .ref (ad 44)) K dX9_room_84 fl_X9_22 rfl rfl rfl ?_
            refine z_iconst K dX9_room_87 ?_
            refine z_iload_n K dX9_room_88 rfl ?_
            refine z_imul K dX9_room_89 ?_
            refine z_iconst K dX9_room_90 ?_
            refine z_iadd K dX9_room_91 ?_
            refine z_iald (k := 44) (v := wt l) K dX9_room_92 (3 * l + 1) rfl (by decide) (by omega) (by omega) (hR5 l (by omega)).2.1 ?_
            refine z_iast (k := 41) K dX9_room_93 l rfl (by decide) (by omega) (by omega) (z_mem (ν := zup (zup (zup (zup (zup (zup (zup (zup μ 39 (zu1 (zu1 g 4 ((n : Nat) : Int)) 7 ((nc : Nat) : Int))) 44 u2) 45 v2) 46 (zu1 q l (ho l))) 41 (zu1 w1 l (wt l))) 42 w2) 43 (μ 43)) 50 (μ 50)) (zup_sw4 _ (by decide) (by decide) (by decide) _ _ _ _ _) ?_)
            refine z_aload_n K dX9_room_94 rfl ?_
            refine z_get (k := 39) (v := .ref (ad 42)) K dX9_room_95 fl_X9_16 rfl rfl rfl ?_
            refine z_iload_n K dX9_room_98 rfl ?_
            refine z_aload_n K dX9_room_99 rfl ?_
            refine z_get (k := 39) (v := .ref (ad 44)) K dX9_room_100 fl_X9_22 rfl rfl rfl ?_
            refine z_iconst K dX9_room_103 ?_
            refine z_iload_n K dX9_room_104 rfl ?_
            refine z_imul K dX9_room_105 ?_
            refine z_iconst K dX9_room_106 ?_
            refine z_iadd K dX9_room_107 ?_
            refine z_iald (k := 44) (v := kd l) K dX9_room_108 (3 * l + 2) rfl (by decide) (by omega) (by omega) (hR5 l (by omega)).2.2 ?_
            refine z_iast (k := 42) K dX9_room_109 l rfl (by decide) (by omega) (by omega) (z_mem (ν := zup (zup (zup (zup (zup (zup (zup (zup μ 39 (zu1 (zu1 g 4 ((n : Nat) : Int)) 7 ((nc : Nat) : Int))) 44 u2) 45 v2) 46 (zu1 q l (ho l))) 41 (zu1 w1 l (wt l))) 42 (zu1 w2 l (kd l))) 43 (μ 43)) 50 (μ 50)) (zup_sw3 _ (by decide) (by decide) _ _ _ _) ?_)
            refine z_iincN (lv' := [(0, .ref (ad 39)), (1, .int (zi ((l + 1 : Nat) : Int)))]) K dX9_room_110 rfl (by decide) rfl ?_
            refine z_goto (tgt := 56) K dX9_room_113 (by decide) ?_
            exact ih2 (l + 1) (by omega) (by omega) _ _ _ (fun j hj => by
              by_cases e : j = l
              · subst e; exact ⟨zu1_eq _ _ _, zu1_eq _ _ _, zu1_eq _ _ _⟩
              · rw [zu1_ne _ _ e, zu1_ne _ _ e, zu1_ne _ _ e]; exact hq1 j (by omega)) (fun j h1 h2 => by rw [zu1_ne _ _ (by omega)]; exact hq2 j h1 h2)
        exact L56 0 (Nat.zero_le _) _ _ _ (fun j hj => absurd hj (by omega)) (fun j _ hj => hq j (by omega))
      · refine z_aload_n K dX9_room_41 rfl ?_
        refine z_get (k := 39) (v := .ref (ad 46)) K dX9_room_42 fl_X9_28 rfl rfl rfl ?_
        refine z_iload_n K dX9_room_45 rfl ?_
        refine z_iconst K dX9_room_46 ?_
        refine z_iast (k := 46) K dX9_room_47 i rfl (by decide) (by omega) (by omega) (z_mem (ν := zup (zup (zup (zup (zup (zup (zup (zup μ 39 (zu1 (zu1 g 4 ((n : Nat) : Int)) 7 ((nc : Nat) : Int))) 44 u2) 45 v2) 46 (zu1 q i (0 : Int))) 41 (μ 41)) 42 (μ 42)) 43 (μ 43)) 50 (μ 50)) (zup_in (zup_in (zup_in (zup_in (zup_same _ _ _ _) (by decide)) (by decide)) (by decide)) (by decide)) ?_)
        refine z_iincN (lv' := [(0, .ref (ad 39)), (1, .int (zi ((i + 1 : Nat) : Int)))]) K dX9_room_48 rfl (by decide) rfl ?_
        refine z_goto (tgt := 35) K dX9_room_51 (by decide) ?_
        exact ih (i + 1) (by omega) (by omega) _ (fun j hj => by
          by_cases e : j = i
          · subst e; exact zu1_eq _ _ _
          · rw [zu1_ne _ _ e]; exact hq j (by omega))
    exact L35 0 (by omega) _ (fun j hj => absurd hj (by omega))
  · refine z_bipush K dX9_room_14 (by decide +kernel) ?_
    exact z_ireti K T rfl dX9_room_16 (Or.inr ⟨by omega, rfl, zFr_c (zFr_c (zFr_h (zFr_0 μ) (fun j hj => by
        have hj : j = 2 ∨ j = 4 ∨ j = 7 ∨ j = 17 ∨ j = 20 ∨ j = 23 := hj
        rw [hgf j (by omega) (by omega) (by omega) (by omega), zu1_ne _ _ (by omega)])) (by decide) _) (by decide) _⟩)
