theorem zdo_1 {n nc : Nat} {kd al an c a : Nat → Int} {D : Nat} (h : D / 1000 = 1) (h1 : D / 100 % 10 < n) (h2 : D % 100 < 12) (h3 : c (12 + D / 100 % 10) = 0 ∧ c (D / 100 % 10) ≠ ((D % 100 : Nat) : Int) ∧ zpop (zin c ((D % 100 : Nat) : Int) n) < 2) : zdo n kd al nc an D (c, a) = ((zu1 c (D / 100 % 10) ((D % 100 : Nat) : Int), a), 1) := by
  have e : zcpI n c ((D / 100 % 10 : Nat) : Int) ((D % 100 : Nat) : Int) = 1 := by
    unfold zcpI
    rw [if_pos]
    simp only [Int.toNat_natCast]
    exact ⟨⟨by omega, by omega⟩, ⟨by omega, by omega⟩, h3⟩
  unfold zdo zputC
  dsimp only
  rw [if_neg (by omega), if_pos h, e, if_neg (by decide), Int.toNat_natCast]
theorem zdo_1n {n nc : Nat} {kd al an c a : Nat → Int} {D : Nat} (h : D / 1000 = 1) (h3 : ¬ (D / 100 % 10 < n ∧ D % 100 < 12 ∧ c (12 + D / 100 % 10) = 0 ∧ c (D / 100 % 10) ≠ ((D % 100 : Nat) : Int) ∧ zpop (zin c ((D % 100 : Nat) : Int) n) < 2)) : zdo n kd al nc an D (c, a) = ((c, a), 0) := by
  have e : zcpI n c ((D / 100 % 10 : Nat) : Int) ((D % 100 : Nat) : Int) = 0 := by
    unfold zcpI
    rw [if_neg]
    simp only [Int.toNat_natCast]
    exact fun q => h3 ⟨by omega, by omega, q.2.2⟩
  unfold zdo zputC
  dsimp only
  rw [if_neg (by omega), if_pos h, e, if_pos rfl]
theorem zdo_2 {n nc : Nat} {kd al an c a : Nat → Int} {D : Nat} (h : D / 1000 = 2) (h1 : D / 100 % 10 = 0) (h2 : 1 ≤ D % 100 ∧ D % 100 ≤ 9) : zdo n kd al nc an D (c, a) = ((zu1 c 21 (min 99 (c 21 + ((D % 100 : Nat) : Int))), a), 1) := by
  unfold zdo
  dsimp only
  rw [if_neg (by omega), if_neg (by omega), if_pos h, if_pos ⟨h1, by omega, by omega⟩, show D % 10 = D % 100 by omega]
theorem zdo_2n {n nc : Nat} {kd al an c a : Nat → Int} {D : Nat} (h : D / 1000 = 2) (h1 : ¬ (D / 100 % 10 = 0 ∧ 1 ≤ D % 100 ∧ D % 100 ≤ 9)) : zdo n kd al nc an D (c, a) = ((c, a), 0) := by
  unfold zdo
  dsimp only
  rw [if_neg (by omega), if_neg (by omega), if_pos h, if_neg (by omega)]
theorem zdo_3 {n nc : Nat} {kd al an c a : Nat → Int} {D : Nat} (h : D / 1000 = 3) (h1 : D / 100 % 10 < nc) (h2 : D % 100 < 3) (h3 : c (18 + D / 100 % 10) ≠ ((D % 100 : Nat) : Int)) : zdo n kd al nc an D (c, a) = ((zu1 c (18 + D / 100 % 10) ((D % 100 : Nat) : Int), a), 1) := by
  have e : zcsI nc c ((D / 100 % 10 : Nat) : Int) ((D % 10 : Nat) : Int) = 1 := by
    unfold zcsI
    rw [if_pos]
    rw [Int.toNat_natCast, show D % 10 = D % 100 by omega]
    exact ⟨⟨by omega, by omega⟩, ⟨by omega, by omega⟩, h3⟩
  unfold zdo zsndC
  dsimp only
  rw [if_neg (by omega), if_neg (by omega), if_neg (by omega), if_pos h, if_pos (by omega), e, if_neg (by decide), Int.toNat_natCast, show D % 10 = D % 100 by omega]
theorem zdo_3n {n nc : Nat} {kd al an c a : Nat → Int} {D : Nat} (h : D / 1000 = 3) (h3 : ¬ (D / 100 % 10 < nc ∧ D % 100 < 3 ∧ c (18 + D / 100 % 10) ≠ ((D % 100 : Nat) : Int))) : zdo n kd al nc an D (c, a) = ((c, a), 0) := by
  unfold zdo zsndC
  dsimp only
  rw [if_neg (by omega), if_neg (by omega), if_neg (by omega), if_pos h]
  by_cases h0 : D / 10 % 10 = 0
  · have e : zcsI nc c ((D / 100 % 10 : Nat) : Int) ((D % 10 : Nat) : Int) = 0 := by
      unfold zcsI
      rw [if_neg]
      rw [Int.toNat_natCast, show D % 10 = D % 100 by omega]
      exact fun q => h3 ⟨by omega, by omega, q.2.2⟩
    rw [if_pos h0, e, if_pos rfl]
  · rw [if_neg h0]
theorem zdo_4 {n nc : Nat} {kd al an c a : Nat → Int} {D : Nat} (h : D / 1000 = 4) (h1 : D / 100 % 10 < n) (h2 : D % 100 < 4) (h3 : c (12 + D / 100 % 10) = ((D % 100 : Nat) : Int)) : zdo n kd al nc an D (c, a) = ((c, a), 1) := by
  unfold zdo
  dsimp only
  rw [if_neg (by omega), if_neg (by omega), if_neg (by omega), if_neg (by omega), if_pos h, if_pos ⟨by omega, h1, by rw [show D % 10 = D % 100 by omega]; exact h3⟩]
theorem zdo_4n {n nc : Nat} {kd al an c a : Nat → Int} {D : Nat} (hw : zHW n nc c) (h : D / 1000 = 4) (h3 : ¬ (D / 100 % 10 < n ∧ D % 100 < 4 ∧ c (12 + D / 100 % 10) = ((D % 100 : Nat) : Int))) : zdo n kd al nc an D (c, a) = ((c, a), 0) := by
  unfold zdo
  dsimp only
  rw [if_neg (by omega), if_neg (by omega), if_neg (by omega), if_neg (by omega), if_pos h, if_neg]
  intro q
  have h9 := hw.1 _ q.2.1
  have e : D % 10 = D % 100 := by omega
  have h8 := q.2.2
  rw [e] at h8
  exact h3 ⟨q.2.1, by omega, h8⟩
theorem zdo_o {n nc : Nat} {kd al an c a : Nat → Int} {D : Nat} (h0 : D ≠ 0) (h : D / 1000 ≠ 1 ∧ D / 1000 ≠ 2 ∧ D / 1000 ≠ 3 ∧ D / 1000 ≠ 4) : zdo n kd al nc an D (c, a) = ((c, a), 0) := by
  unfold zdo
  dsimp only
  rw [if_neg h0, if_neg h.1, if_neg h.2.1, if_neg h.2.2.1, if_neg h.2.2.2]
set_option maxHeartbeats 4000000 in
set_option maxRecDepth 100000 in
theorem cm_does (la : Launch) (g0 : zG) (ad : Nat → Nat) (μ : zMem) (n nc : Nat) (kd al wt an p c a : Nat → Int) (hm : zMP μ n nc kd al wt an) (hw : zHV n nc c) (hg : zAg n nc 7 p c) (hS : μ 39 24 = 7) (D : Nat) (hD : D ≤ 9999) : zCon la g0 yX9_does cX9_does 5 (some .boolean) 6 ad zSH [.ref (ad 39), .int (zi ((D : Nat) : Int))] (zup (zup μ 47 p) 53 a) (zPi (fun r ν => r = (zdo n kd al nc an D (c, a)).2 ∧ zGo μ 47 n nc 7 (zdo n kd al nc an D (c, a)).1 ν)) := by
  refine zCon_of (by decide +kernel) (Nat.le_of_ble_eq_true rfl) ?_
  intro χ K T hl1 hg1
  have K : zOk χ cX9_does RX9 5 6 (some .boolean) := K
  obtain ⟨hn, hnc, hpl, hpa, hpk⟩ := id hm
  have hn6 := hpk.1
  have hnc3 := hpk.2.1
  have hgr := hg.2.2.1
  have hg21 := hw.1.2.2
  show zV χ 5 ad zSH 0 0 0 [(0, .ref (ad 39)), (1, .int (zi ((D : Nat) : Int)))] [] (zup (zup μ 47 p) 53 a)
  refine z_iload_n K dX9_does_0 rfl ?_
  refine z_sipush K dX9_does_1 (by decide +kernel) ?_
  refine z_idiv K dX9_does_4 (by omega) (by omega) ?_
  refine z_istore_n (lv' := [(0, .ref (ad 39)), (1, .int (zi ((D : Nat) : Int))), (2, .int (zi (((D : Nat) : Int) / (1000 : Int))))]) K dX9_does_5 (by decide) rfl ?_
  refine z_iload_n K dX9_does_6 rfl ?_
  refine z_bipush K dX9_does_7 (by decide +kernel) ?_
  refine z_idiv K dX9_does_9 (by omega) (by omega) ?_
  refine z_bipush K dX9_does_10 (by decide +kernel) ?_
  refine z_irem K dX9_does_12 (by omega) (by omega) ?_
  refine z_istore_n (lv' := [(0, .ref (ad 39)), (1, .int (zi ((D : Nat) : Int))), (2, .int (zi (((D : Nat) : Int) / (1000 : Int)))), (3, .int (zi ((((D : Nat) : Int) / (100 : Int)) % (10 : Int))))]) K dX9_does_13 (by decide) rfl ?_
  refine z_iload_n K dX9_does_14 rfl ?_
  refine z_bipush K dX9_does_15 (by decide +kernel) ?_
  refine z_irem K dX9_does_17 (by omega) (by omega) ?_
  refine z_istore (lv' := [(0, .ref (ad 39)), (1, .int (zi ((D : Nat) : Int))), (2, .int (zi (((D : Nat) : Int) / (1000 : Int)))), (3, .int (zi ((((D : Nat) : Int) / (100 : Int)) % (10 : Int)))), (4, .int (zi (((D : Nat) : Int) % (100 : Int))))]) K dX9_does_18 (by decide) rfl ?_
  refine z_iload_n K dX9_does_20 rfl ?_
  refine z_ifne (tgt := 35) K dX9_does_21 (by decide) (by omega) (fun h21 => ?_) (fun h21 => ?_)
  · refine z_iload_n K dX9_does_35 rfl ?_
    refine z_iconst K dX9_does_36 ?_
    refine z_icmpne (tgt := 79) K dX9_does_37 (by decide) (by omega) ⟨by decide, by decide⟩ (fun h37 => ?_) (fun h37 => ?_)
    · refine z_iload_n K dX9_does_79 rfl ?_
      refine z_iconst K dX9_does_80 ?_
      refine z_icmpne (tgt := 112) K dX9_does_81 (by decide) (by omega) ⟨by decide, by decide⟩ (fun h81 => ?_) (fun h81 => ?_)
      · refine z_iload_n K dX9_does_112 rfl ?_
        refine z_iconst K dX9_does_113 ?_
        refine z_icmpne (tgt := 158) K dX9_does_114 (by decide) (by omega) ⟨by decide, by decide⟩ (fun h114 => ?_) (fun h114 => ?_)
        · refine z_iload_n K dX9_does_158 rfl ?_
          refine z_iconst K dX9_does_159 ?_
          refine z_icmpne (tgt := 195) K dX9_does_160 (by decide) (by omega) ⟨by decide, by decide⟩ (fun h160 => ?_) (fun h160 => ?_)
          · refine z_iconst K dX9_does_195 ?_
            exact z_zreti K T rfl dX9_does_196 (Or.inl rfl) (by
                have e := zdo_o (n := n) (nc := nc) (kd := kd) (al := al) (an := an) (c := c) (a := a) (D := D) (by omega) (by omega)
                exact ⟨by rw [e], p, by rw [e], by rw [e]; exact hg⟩)
          · refine z_aload_n K dX9_does_163 rfl ?_
            refine z_iload_n K dX9_does_164 rfl ?_
            refine z_callVd K hl1 hg1 (kb := 39) (As := [.int (zi ((((D : Nat) : Int) / (100 : Int)) % (10 : Int)))]) (rest := []) (cm_noLetter la g0 ad (zup (zup μ 47 p) 53 a) n hn (by omega) ((D / 100 % 10 : Nat) : Int) (by omega)) (by decide) lk_X9_164 cd_X9_noLetter rfl rfl rfl rfl (Nat.le_of_ble_eq_true rfl) dX9_does_165 ?_
            show zV χ 5 ad zSH 0 0 168 [(0, .ref (ad 39)), (1, .int (zi ((D : Nat) : Int))), (2, .int (zi (((D : Nat) : Int) / (1000 : Int)))), (3, .int (zi ((((D : Nat) : Int) / (100 : Int)) % (10 : Int)))), (4, .int (zi (((D : Nat) : Int) % (100 : Int))))] [.int (zi (if 0 ≤ ((D / 100 % 10 : Nat) : Int) ∧ ((D / 100 % 10 : Nat) : Int) < (n : Int) then 0 else 1))] (zup (zup μ 47 p) 53 a)
            refine z_ifne (tgt := 195) K dX9_does_168 (by decide) (by omega) (fun h168 => ?_) (fun h168 => ?_)
            · refine z_iconst K dX9_does_195 ?_
              exact z_zreti K T rfl dX9_does_196 (Or.inl rfl) (by
                  have e := zdo_4n (n := n) (nc := nc) (kd := kd) (al := al) (an := an) (c := c) (a := a) (D := D) hw.1 (by omega) (by omega)
                  exact ⟨by rw [e], p, by rw [e], by rw [e]; exact hg⟩)
            · refine z_iload K dX9_does_171 rfl ?_
              refine z_iconst K dX9_does_173 ?_
              refine z_icmpge (tgt := 195) K dX9_does_174 (by decide) (by omega) ⟨by decide, by decide⟩ (fun h174 => ?_) (fun h174 => ?_)
              · refine z_iconst K dX9_does_195 ?_
                exact z_zreti K T rfl dX9_does_196 (Or.inl rfl) (by
                    have e := zdo_4n (n := n) (nc := nc) (kd := kd) (al := al) (an := an) (c := c) (a := a) (D := D) hw.1 (by omega) (by omega)
                    exact ⟨by rw [e], p, by rw [e], by rw [e]; exact hg⟩)
              · have ag := hg.1 (D / 100 % 10) (by omega)
                have hvl := hw.1.1 (D / 100 % 10) (by omega)
                refine z_aload_n K dX9_does_177 rfl ?_
                refine z_get (k := 39) (v := .ref (ad 47)) K dX9_does_178 fl_X9_31 rfl rfl rfl ?_
                refine z_bipush K dX9_does_181 (by decide +kernel) ?_
                refine z_iload_n K dX9_does_183 rfl ?_
                refine z_iadd K dX9_does_184 ?_
                refine z_iald (k := 47) (v := c (12 + D / 100 % 10)) K dX9_does_185 (6 + ((D / 100) % 10)) rfl (by decide) (by omega) (by omega) ag.2.1 ?_
                refine z_iload K dX9_does_186 rfl ?_
                refine z_icmpne (tgt := 195) K dX9_does_188 (by decide) (by omega) (by omega) (fun h188 => ?_) (fun h188 => ?_)
                · refine z_iconst K dX9_does_195 ?_
                  exact z_zreti K T rfl dX9_does_196 (Or.inl rfl) (by
                      have e := zdo_4n (n := n) (nc := nc) (kd := kd) (al := al) (an := an) (c := c) (a := a) (D := D) hw.1 (by omega) (by omega)
                      exact ⟨by rw [e], p, by rw [e], by rw [e]; exact hg⟩)
                · refine z_iconst K dX9_does_191 ?_
                  refine z_goto (tgt := 196) K dX9_does_192 (by decide) ?_
                  exact z_zreti K T rfl dX9_does_196 (Or.inr rfl) (by
                      have e := zdo_4 (n := n) (nc := nc) (kd := kd) (al := al) (an := an) (c := c) (a := a) (D := D) (by omega) (by omega) (by omega) (by omega)
                      exact ⟨by rw [e], p, by rw [e], by rw [e]; exact hg⟩)
        · refine z_aload_n K dX9_does_117 rfl ?_
          refine z_iload_n K dX9_does_118 rfl ?_
          refine z_callVd K hl1 hg1 (kb := 39) (As := [.int (zi ((((D : Nat) : Int) / (100 : Int)) % (10 : Int)))]) (rest := []) (cm_noClerk la g0 ad (zup (zup μ 47 p) 53 a) nc hnc (by omega) ((D / 100 % 10 : Nat) : Int) (by omega)) (by decide) lk_X9_168 cd_X9_noClerk rfl rfl rfl rfl (Nat.le_of_ble_eq_true rfl) dX9_does_119 ?_
          show zV χ 5 ad zSH 0 0 122 [(0, .ref (ad 39)), (1, .int (zi ((D : Nat) : Int))), (2, .int (zi (((D : Nat) : Int) / (1000 : Int)))), (3, .int (zi ((((D : Nat) : Int) / (100 : Int)) % (10 : Int)))), (4, .int (zi (((D : Nat) : Int) % (100 : Int))))] [.int (zi (if 0 ≤ ((D / 100 % 10 : Nat) : Int) ∧ ((D / 100 % 10 : Nat) : Int) < (nc : Int) then 0 else 1))] (zup (zup μ 47 p) 53 a)
          refine z_ifne (tgt := 158) K dX9_does_122 (by decide) (by omega) (fun h122 => ?_) (fun h122 => ?_)
          · refine z_iload_n K dX9_does_158 rfl ?_
            refine z_iconst K dX9_does_159 ?_
            refine z_icmpne (tgt := 195) K dX9_does_160 (by decide) (by omega) ⟨by decide, by decide⟩ (fun h160 => ?_) (fun h160 => absurd h160 (by omega))
            refine z_iconst K dX9_does_195 ?_
            exact z_zreti K T rfl dX9_does_196 (Or.inl rfl) (by
                have e := zdo_3n (n := n) (nc := nc) (kd := kd) (al := al) (an := an) (c := c) (a := a) (D := D) (by omega) (by omega)
                exact ⟨by rw [e], p, by rw [e], by rw [e]; exact hg⟩)
          · refine z_iload K dX9_does_125 rfl ?_
            refine z_iconst K dX9_does_127 ?_
            refine z_icmpge (tgt := 158) K dX9_does_128 (by decide) (by omega) ⟨by decide, by decide⟩ (fun h128 => ?_) (fun h128 => ?_)
            · refine z_iload_n K dX9_does_158 rfl ?_
              refine z_iconst K dX9_does_159 ?_
              refine z_icmpne (tgt := 195) K dX9_does_160 (by decide) (by omega) ⟨by decide, by decide⟩ (fun h160 => ?_) (fun h160 => absurd h160 (by omega))
              refine z_iconst K dX9_does_195 ?_
              exact z_zreti K T rfl dX9_does_196 (Or.inl rfl) (by
                  have e := zdo_3n (n := n) (nc := nc) (kd := kd) (al := al) (an := an) (c := c) (a := a) (D := D) (by omega) (by omega)
                  exact ⟨by rw [e], p, by rw [e], by rw [e]; exact hg⟩)
            · have hro := (hg.2.1 (D / 100 % 10) (by omega)).1 (zb7 _ (by omega))
              have hvr := hw.1.2.1 (D / 100 % 10) (by omega)
              refine z_aload_n K dX9_does_131 rfl ?_
              refine z_get (k := 39) (v := .ref (ad 47)) K dX9_does_132 fl_X9_31 rfl rfl rfl ?_
              refine z_bipush K dX9_does_135 (by decide +kernel) ?_
              refine z_iload_n K dX9_does_137 rfl ?_
              refine z_iadd K dX9_does_138 ?_
              refine z_iald (k := 47) (v := c (18 + D / 100 % 10)) K dX9_does_139 (18 + ((D / 100) % 10)) rfl (by decide) (by omega) (by omega) hro ?_
              refine z_iload K dX9_does_140 rfl ?_
              refine z_icmpeq (tgt := 158) K dX9_does_142 (by decide) (by omega) (by omega) (fun h142 => ?_) (fun h142 => ?_)
              · refine z_iload_n K dX9_does_158 rfl ?_
                refine z_iconst K dX9_does_159 ?_
                refine z_icmpne (tgt := 195) K dX9_does_160 (by decide) (by omega) ⟨by decide, by decide⟩ (fun h160 => ?_) (fun h160 => absurd h160 (by omega))
                refine z_iconst K dX9_does_195 ?_
                exact z_zreti K T rfl dX9_does_196 (Or.inl rfl) (by
                    have e := zdo_3n (n := n) (nc := nc) (kd := kd) (al := al) (an := an) (c := c) (a := a) (D := D) (by omega) (by omega)
                    exact ⟨by rw [e], p, by rw [e], by rw [e]; exact hg⟩)
              · refine z_aload_n K dX9_does_145 rfl ?_
                refine z_get (k := 39) (v := .ref (ad 47)) K dX9_does_146 fl_X9_31 rfl rfl rfl ?_
                refine z_bipush K dX9_does_149 (by decide +kernel) ?_
                refine z_iload_n K dX9_does_151 rfl ?_
                refine z_iadd K dX9_does_152 ?_
                refine z_iload K dX9_does_153 rfl ?_
                refine z_iast (k := 47) K dX9_does_155 (18 + ((D / 100) % 10)) rfl (by decide) (by omega) (by omega) (z_mem (ν := zup (zup μ 47 (zu1 p (18 + ((D / 100) % 10)) (((D : Nat) : Int) % (100 : Int)))) 53 a) (zup_sw _ (by decide) _ _ _) ?_)
                refine z_iconst K dX9_does_156 ?_
                exact z_zreti K T rfl dX9_does_157 (Or.inr rfl) (by
                    have e := zdo_3 (n := n) (nc := nc) (kd := kd) (al := al) (an := an) (c := c) (a := a) (D := D) (by omega) (by omega) (by omega) (by omega)
                    exact ⟨by rw [e], _, by rw [e], by rw [e]; exact zAg_row hpk.1 hpk.2.1 hg (by omega) _ (zb7 _ (by omega))⟩)
      · refine z_iload_n K dX9_does_84 rfl ?_
        refine z_ifne (tgt := 112) K dX9_does_85 (by decide) (by omega) (fun h85 => ?_) (fun h85 => ?_)
        · refine z_iload_n K dX9_does_112 rfl ?_
          refine z_iconst K dX9_does_113 ?_
          refine z_icmpne (tgt := 158) K dX9_does_114 (by decide) (by omega) ⟨by decide, by decide⟩ (fun h114 => ?_) (fun h114 => absurd h114 (by omega))
          refine z_iload_n K dX9_does_158 rfl ?_
          refine z_iconst K dX9_does_159 ?_
          refine z_icmpne (tgt := 195) K dX9_does_160 (by decide) (by omega) ⟨by decide, by decide⟩ (fun h160 => ?_) (fun h160 => absurd h160 (by omega))
          refine z_iconst K dX9_does_195 ?_
          exact z_zreti K T rfl dX9_does_196 (Or.inl rfl) (by
              have e := zdo_2n (n := n) (nc := nc) (kd := kd) (al := al) (an := an) (c := c) (a := a) (D := D) (by omega) (by omega)
              exact ⟨by rw [e], p, by rw [e], by rw [e]; exact hg⟩)
        · refine z_iload K dX9_does_88 rfl ?_
          refine z_i2l K dX9_does_90 (by omega) ?_
          refine z_lconst (z := 1) K dX9_does_91 rfl ?_
          refine z_ldc2 (z := 9) K dX9_does_92 kc_X9_180 rfl ?_
          refine z_callSd K hl1 hg1 (As := [.long (zl (((D : Nat) : Int) % (100 : Int))), .long (zl (1 : Int)), .long (zl (9 : Int))]) (rest := []) (cm_in la g0 ad (zup (zup μ 47 p) 53 a) (((D : Nat) : Int) % (100 : Int)) (1 : Int) (9 : Int) ⟨by omega, by omega⟩ ⟨by decide, by decide⟩ ⟨by decide, by decide⟩) (by decide) lk_X9_66 cd_X9_in rfl rfl (Nat.le_of_ble_eq_true rfl) dX9_does_95 ?_
          show zV χ 5 ad zSH 0 0 98 [(0, .ref (ad 39)), (1, .int (zi ((D : Nat) : Int))), (2, .int (zi (((D : Nat) : Int) / (1000 : Int)))), (3, .int (zi ((((D : Nat) : Int) / (100 : Int)) % (10 : Int)))), (4, .int (zi (((D : Nat) : Int) % (100 : Int))))] [.int (zi (if (1 : Int) ≤ ((D : Nat) : Int) % (100 : Int) ∧ ((D : Nat) : Int) % (100 : Int) ≤ (9 : Int) then 1 else 0))] (zup (zup μ 47 p) 53 a)
          refine z_ifeq (tgt := 112) K dX9_does_98 (by decide) (by omega) (fun h98 => ?_) (fun h98 => ?_)
          · refine z_iload_n K dX9_does_112 rfl ?_
            refine z_iconst K dX9_does_113 ?_
            refine z_icmpne (tgt := 158) K dX9_does_114 (by decide) (by omega) ⟨by decide, by decide⟩ (fun h114 => ?_) (fun h114 => absurd h114 (by omega))
            refine z_iload_n K dX9_does_158 rfl ?_
            refine z_iconst K dX9_does_159 ?_
            refine z_icmpne (tgt := 195) K dX9_does_160 (by decide) (by omega) ⟨by decide, by decide⟩ (fun h160 => ?_) (fun h160 => absurd h160 (by omega))
            refine z_iconst K dX9_does_195 ?_
            exact z_zreti K T rfl dX9_does_196 (Or.inl rfl) (by
                have e := zdo_2n (n := n) (nc := nc) (kd := kd) (al := al) (an := an) (c := c) (a := a) (D := D) (by omega) (by omega)
                exact ⟨by rw [e], p, by rw [e], by rw [e]; exact hg⟩)
          · refine z_aload_n K dX9_does_101 rfl ?_
            refine z_get (k := 39) (v := .ref (ad 47)) K dX9_does_102 fl_X9_31 rfl rfl rfl ?_
            refine z_iload K dX9_does_105 rfl ?_
            refine z_callSm K hl1 hg1 (As := [.ref (ad 47), .int (zi (((D : Nat) : Int) % (100 : Int)))]) (rest := []) (cm_goFeed_r la g0 ad (zup (zup μ 47 p) 53 a) ((D % 100 : Nat) : Int) (by omega) (by show 0 ≤ p 21 ∧ p 21 ≤ 99; rw [hgr]; omega)) (by decide) lk_X9_182 cd_X9_goFeed rfl rfl (Nat.le_of_ble_eq_true rfl) dX9_does_107 ?_
            refine z_mem (ν := zup (zup μ 47 (zu1 p 21 (min 99 (p 21 + ((D % 100 : Nat) : Int))))) 53 a) (zup_sw _ (by decide) _ _ _) ?_
            refine z_iconst K dX9_does_110 ?_
            exact z_zreti K T rfl dX9_does_111 (Or.inr rfl) (by
                have e := zdo_2 (n := n) (nc := nc) (kd := kd) (al := al) (an := an) (c := c) (a := a) (D := D) (by omega) (by omega) (by omega)
                exact ⟨by rw [e], _, by rw [e], by rw [e]; dsimp only; rw [hgr]; exact zAg_one hpk.1 hpk.2.1 hg (Or.inl rfl) _⟩)
    · refine z_aload_n K dX9_does_40 rfl ?_
      refine z_iload_n K dX9_does_41 rfl ?_
      refine z_callVd K hl1 hg1 (kb := 39) (As := [.int (zi ((((D : Nat) : Int) / (100 : Int)) % (10 : Int)))]) (rest := []) (cm_noLetter la g0 ad (zup (zup μ 47 p) 53 a) n hn (by omega) ((D / 100 % 10 : Nat) : Int) (by omega)) (by decide) lk_X9_164 cd_X9_noLetter rfl rfl rfl rfl (Nat.le_of_ble_eq_true rfl) dX9_does_42 ?_
      show zV χ 5 ad zSH 0 0 45 [(0, .ref (ad 39)), (1, .int (zi ((D : Nat) : Int))), (2, .int (zi (((D : Nat) : Int) / (1000 : Int)))), (3, .int (zi ((((D : Nat) : Int) / (100 : Int)) % (10 : Int)))), (4, .int (zi (((D : Nat) : Int) % (100 : Int))))] [.int (zi (if 0 ≤ ((D / 100 % 10 : Nat) : Int) ∧ ((D / 100 % 10 : Nat) : Int) < (n : Int) then 0 else 1))] (zup (zup μ 47 p) 53 a)
      refine z_ifne (tgt := 79) K dX9_does_45 (by decide) (by omega) (fun h45 => ?_) (fun h45 => ?_)
      · refine z_iload_n K dX9_does_79 rfl ?_
        refine z_iconst K dX9_does_80 ?_
        refine z_icmpne (tgt := 112) K dX9_does_81 (by decide) (by omega) ⟨by decide, by decide⟩ (fun h81 => ?_) (fun h81 => absurd h81 (by omega))
        refine z_iload_n K dX9_does_112 rfl ?_
        refine z_iconst K dX9_does_113 ?_
        refine z_icmpne (tgt := 158) K dX9_does_114 (by decide) (by omega) ⟨by decide, by decide⟩ (fun h114 => ?_) (fun h114 => absurd h114 (by omega))
        refine z_iload_n K dX9_does_158 rfl ?_
        refine z_iconst K dX9_does_159 ?_
        refine z_icmpne (tgt := 195) K dX9_does_160 (by decide) (by omega) ⟨by decide, by decide⟩ (fun h160 => ?_) (fun h160 => absurd h160 (by omega))
        refine z_iconst K dX9_does_195 ?_
        exact z_zreti K T rfl dX9_does_196 (Or.inl rfl) (by
            have e := zdo_1n (n := n) (nc := nc) (kd := kd) (al := al) (an := an) (c := c) (a := a) (D := D) (by omega) (by omega)
            exact ⟨by rw [e], p, by rw [e], by rw [e]; exact hg⟩)
      · refine z_iload K dX9_does_48 rfl ?_
        refine z_bipush K dX9_does_50 (by decide +kernel) ?_
        refine z_icmpge (tgt := 79) K dX9_does_52 (by decide) (by omega) ⟨by decide, by decide⟩ (fun h52 => ?_) (fun h52 => ?_)
        · refine z_iload_n K dX9_does_79 rfl ?_
          refine z_iconst K dX9_does_80 ?_
          refine z_icmpne (tgt := 112) K dX9_does_81 (by decide) (by omega) ⟨by decide, by decide⟩ (fun h81 => ?_) (fun h81 => absurd h81 (by omega))
          refine z_iload_n K dX9_does_112 rfl ?_
          refine z_iconst K dX9_does_113 ?_
          refine z_icmpne (tgt := 158) K dX9_does_114 (by decide) (by omega) ⟨by decide, by decide⟩ (fun h114 => ?_) (fun h114 => absurd h114 (by omega))
          refine z_iload_n K dX9_does_158 rfl ?_
          refine z_iconst K dX9_does_159 ?_
          refine z_icmpne (tgt := 195) K dX9_does_160 (by decide) (by omega) ⟨by decide, by decide⟩ (fun h160 => ?_) (fun h160 => absurd h160 (by omega))
          refine z_iconst K dX9_does_195 ?_
          exact z_zreti K T rfl dX9_does_196 (Or.inl rfl) (by
              have e := zdo_1n (n := n) (nc := nc) (kd := kd) (al := al) (an := an) (c := c) (a := a) (D := D) (by omega) (by omega)
              exact ⟨by rw [e], p, by rw [e], by rw [e]; exact hg⟩)
        · have ag := hg.1 (D / 100 % 10) (by omega)
          have hvl := hw.1.1 (D / 100 % 10) (by omega)
          refine z_aload_n K dX9_does_55 rfl ?_
          refine z_aload_n K dX9_does_56 rfl ?_
          refine z_get (k := 39) (v := .ref (ad 47)) K dX9_does_57 fl_X9_31 rfl rfl rfl ?_
          refine z_iload_n K dX9_does_60 rfl ?_
          refine z_iload K dX9_does_61 rfl ?_
          refine z_callVd K hl1 hg1 (kb := 39) (As := [.ref (ad 47), .int (zi ((((D : Nat) : Int) / (100 : Int)) % (10 : Int))), .int (zi (((D : Nat) : Int) % (100 : Int)))]) (rest := []) (cm_canPut_r la g0 ad (zup (zup μ 47 p) 53 a) n nc 7 kd al wt an c hm hw.1 hg (D / 100 % 10) (by omega) ((D % 100 : Nat) : Int) ⟨by omega, by omega⟩) (by decide) lk_X9_176 cd_X9_canPut rfl rfl rfl rfl (Nat.le_of_ble_eq_true rfl) dX9_does_63 ?_
          show zV χ 5 ad zSH 0 0 66 [(0, .ref (ad 39)), (1, .int (zi ((D : Nat) : Int))), (2, .int (zi (((D : Nat) : Int) / (1000 : Int)))), (3, .int (zi ((((D : Nat) : Int) / (100 : Int)) % (10 : Int)))), (4, .int (zi (((D : Nat) : Int) % (100 : Int))))] [.int (zi (if c (12 + D / 100 % 10) = 0 ∧ c (D / 100 % 10) ≠ ((D % 100 : Nat) : Int) ∧ zpop (zin c ((D % 100 : Nat) : Int) n) < 2 then 1 else 0))] (zup (zup μ 47 p) 53 a)
          refine z_ifeq (tgt := 79) K dX9_does_66 (by decide) (by omega) (fun h66 => ?_) (fun h66 => ?_)
          · refine z_iload_n K dX9_does_79 rfl ?_
            refine z_iconst K dX9_does_80 ?_
            refine z_icmpne (tgt := 112) K dX9_does_81 (by decide) (by omega) ⟨by decide, by decide⟩ (fun h81 => ?_) (fun h81 => absurd h81 (by omega))
            refine z_iload_n K dX9_does_112 rfl ?_
            refine z_iconst K dX9_does_113 ?_
            refine z_icmpne (tgt := 158) K dX9_does_114 (by decide) (by omega) ⟨by decide, by decide⟩ (fun h114 => ?_) (fun h114 => absurd h114 (by omega))
            refine z_iload_n K dX9_does_158 rfl ?_
            refine z_iconst K dX9_does_159 ?_
            refine z_icmpne (tgt := 195) K dX9_does_160 (by decide) (by omega) ⟨by decide, by decide⟩ (fun h160 => ?_) (fun h160 => absurd h160 (by omega))
            refine z_iconst K dX9_does_195 ?_
            exact z_zreti K T rfl dX9_does_196 (Or.inl rfl) (by
                have e := zdo_1n (n := n) (nc := nc) (kd := kd) (al := al) (an := an) (c := c) (a := a) (D := D) (by omega) (by omega)
                exact ⟨by rw [e], p, by rw [e], by rw [e]; exact hg⟩)
          · refine z_aload_n K dX9_does_69 rfl ?_
            refine z_get (k := 39) (v := .ref (ad 47)) K dX9_does_70 fl_X9_31 rfl rfl rfl ?_
            refine z_iload_n K dX9_does_73 rfl ?_
            refine z_iload K dX9_does_74 rfl ?_
            refine z_iast (k := 47) K dX9_does_76 ((D / 100) % 10) rfl (by decide) (by omega) (by omega) (z_mem (ν := zup (zup μ 47 (zu1 p ((D / 100) % 10) (((D : Nat) : Int) % (100 : Int)))) 53 a) (zup_sw _ (by decide) _ _ _) ?_)
            refine z_iconst K dX9_does_77 ?_
            exact z_zreti K T rfl dX9_does_78 (Or.inr rfl) (by
                have e := zdo_1 (n := n) (nc := nc) (kd := kd) (al := al) (an := an) (c := c) (a := a) (D := D) (by omega) (by omega) (by omega) (by omega)
                exact ⟨by rw [e], _, by rw [e], by rw [e]; exact zAg_hole hpk.1 hg (by omega) _⟩)
  · refine z_aload_n K dX9_does_24 rfl ?_
    refine z_aload_n K dX9_does_25 rfl ?_
    refine z_get (k := 39) (v := .ref (ad 47)) K dX9_does_26 fl_X9_31 rfl rfl rfl ?_
    refine z_callVi K hl1 hg1 (kb := 39) (As := [.ref (ad 47)]) (rest := []) (cm_goDay_r la g0 ad μ n nc 7 kd al wt an p c a hm hw hg hS (by decide)) (by decide) lk_X9_155 cd_X9_goDay rfl rfl rfl rfl (Nat.le_of_ble_eq_true rfl) dX9_does_29 (fun r ν h29 => ?_)
    refine z_pop K dX9_does_32 rfl ?_
    refine z_iconst K dX9_does_33 ?_
    exact z_zreti K T rfl dX9_does_34 (Or.inr rfl) (by
        have e : zdo n kd al nc an D (c, a) = (zday n kd al nc an (c, a), 1) := by unfold zdo; rw [if_pos (by omega)]
        exact ⟨by rw [e], by rw [e]; exact h29.2⟩)
