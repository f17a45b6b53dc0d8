set_option maxHeartbeats 4000000 in
set_option maxRecDepth 100000 in
theorem ct_factorial (la : Launch) (g0 : zG) (ad : Nat → Nat) (μ : zMem) (k : Nat) (hk : k ≤ 3) : zCon la g0 yX2_factorial cX2_factorial 3 (some .int) 0 ad zSH [.int (zi ((k : Nat) : Int))] μ (zPd μ ((zfac k : Nat) : Int)) := by
  refine zCon_of (by decide +kernel) (Nat.le_of_ble_eq_true rfl) ?_
  intro χ K T hl1 hg1
  have K : zOk χ cX2_factorial RX2 3 0 (some .int) := K
  show zV χ 3 ad zSH 0 0 0 [(0, .int (zi ((k : Nat) : Int)))] [] μ
  refine z_iconst K dX2_factorial_0 ?_
  refine z_istore_n (lv' := [(0, .int (zi ((k : Nat) : Int))), (1, .int (zi (1 : Int)))]) K dX2_factorial_1 (by decide) rfl ?_
  refine z_iconst K dX2_factorial_2 ?_
  refine z_istore_n (lv' := [(0, .int (zi ((k : Nat) : Int))), (1, .int (zi (1 : Int))), (2, .int (zi (2 : Int)))]) K dX2_factorial_3 (by decide) rfl ?_
  have L4 : ∀ i, i ≤ 4 → 2 ≤ i → i ≤ k + 1 ∨ i = 2 → zV χ 3 ad zSH 0 0 4 [(0, .int (zi ((k : Nat) : Int))), (1, .int (zi ((zfac (i - 1) : Nat) : Int))), (2, .int (zi ((i : Nat) : Int)))] [] μ := by
    refine zfor ?_
    intro i hi ih h2 hik
    refine z_iload_n K dX2_factorial_4 rfl ?_
    refine z_iload_n K dX2_factorial_5 rfl ?_
    refine z_icmpgt (tgt := 19) K dX2_factorial_6 (by decide) (by omega) (by omega) (fun h6 => ?_) (fun h6 => ?_)
    · refine z_iload_n K dX2_factorial_19 rfl ?_
      exact z_iretd K T rfl dX2_factorial_20 (Or.elim (show i = k + 1 ∨ (k = 0 ∧ i = 2) by omega) (fun h => by rw [h]; rfl) (fun h => by rw [h.1, h.2]; rfl)) rfl
    · refine z_iload_n K dX2_factorial_9 rfl ?_
      refine z_iload_n K dX2_factorial_10 rfl ?_
      refine z_imul K dX2_factorial_11 ?_
      rw [show (((zfac (i - 1) : Nat) : Int) * ((i : Nat) : Int)) = ((zfac (i + 1 - 1) : Nat) : Int) from (by rw [show i + 1 - 1 = (i - 1) + 1 by omega]; show _ = (((i - 1 + 1) * zfac (i - 1) : Nat) : Int); rw [show i - 1 + 1 = i by omega, Nat.mul_comm]; push_cast; rfl)]
      refine z_istore_n (lv' := [(0, .int (zi ((k : Nat) : Int))), (1, .int (zi ((zfac (i + 1 - 1) : Nat) : Int))), (2, .int (zi ((i : Nat) : Int)))]) K dX2_factorial_12 (by decide) rfl ?_
      refine z_iincN (lv' := [(0, .int (zi ((k : Nat) : Int))), (1, .int (zi ((zfac (i + 1 - 1) : Nat) : Int))), (2, .int (zi ((i + 1 : Nat) : Int)))]) K dX2_factorial_13 rfl (by decide) rfl ?_
      refine z_goto (tgt := 4) K dX2_factorial_16 (by decide) ?_
      exact ih (i + 1) (by omega) (by omega) (by omega) (by omega)
  exact L4 2 (by omega) (by omega) (by omega)
def zScW (μ : zMem) (n : Nat) (kd al : Nat → Int) (nc : Nat) (an c : Nat → Int) : zMem → Prop := fun ν => ∃ w x y, ν = zup (zup (zup μ 22 w) 26 x) 27 y ∧ ∀ b, b < 2 ^ nc → w b = (zlw n kd al nc an c b : Int)
set_option maxHeartbeats 4000000 in
set_option maxRecDepth 100000 in
theorem ct_fillLostWith (la : Launch) (g0 : zG) (ad : Nat → Nat) (μ : zMem) (n nc : Nat) (hp : zPlan μ n nc) (hv : zHV n nc (μ 18)) (x y : Nat → Int) (w : Nat → Int) : zCon la g0 yX2_fillLostWith cX2_fillLostWith 3 none 4 ad zSH [.ref (ad 20)] (zup (zup (zup μ 22 w) 26 x) 27 y) (zPv (zScW μ n (μ 13) (μ 14) nc (μ 16) (μ 18))) := by
  refine zCon_of (by decide +kernel) (Nat.le_of_ble_eq_true rfl) ?_
  intro χ K T hl1 hg1
  have K : zOk χ cX2_fillLostWith RX2 3 4 none := K
  obtain ⟨hn, hn6, hnc, hnc3, hpl, hpk⟩ := id hp
  have h8 := zp2_le nc hnc3
  show zV χ 3 ad zSH 0 0 0 [(0, .ref (ad 20))] [] (zup (zup (zup μ 22 w) 26 x) 27 y)
  refine z_iconst K dX2_fillLostWith_0 ?_
  refine z_istore_n (lv' := [(0, .ref (ad 20)), (1, .int (zi (0 : Int)))]) K dX2_fillLostWith_1 (by decide) rfl ?_
  have L2 : ∀ b, b ≤ 2 ^ nc → ∀ (w x y : Nat → Int), (∀ j, j < b → w j = (zlw n (μ 13) (μ 14) nc (μ 16) (μ 18) j : Int)) → zV χ 3 ad zSH 0 0 2 [(0, .ref (ad 20)), (1, .int (zi ((b : Nat) : Int)))] [] (zup (zup (zup μ 22 w) 26 x) 27 y) := by
    refine zfor ?_
    intro b hb ih w x y hw
    refine z_iload_n K dX2_fillLostWith_2 rfl ?_
    refine z_iconst K dX2_fillLostWith_3 ?_
    refine z_aload_n K dX2_fillLostWith_4 rfl ?_
    refine z_get (k := 20) (v := .ref (ad 10)) K dX2_fillLostWith_5 fl_X2_24 rfl rfl rfl ?_
    refine z_get (k := 10) (v := .int (zi (μ 10 1))) K dX2_fillLostWith_8 fl_X2_59 rfl rfl rfl ?_
    refine z_ishlR (z := zi ((2 ^ nc : Nat) : Int)) K dX2_fillLostWith_11 (by rw [hnc]; exact zb_shl nc (by omega)) ?_
    refine z_icmpge (tgt := 103) K dX2_fillLostWith_12 (by decide) (by omega) (by omega) (fun h12 => ?_) (fun h12 => ?_)
    · exact z_vreti K T rfl dX2_fillLostWith_103 ⟨w, x, y, rfl, fun j hj => hw j (by omega)⟩
    · have hav := zaw_ok hn6 hnc3 hv b nc (Nat.le_refl _)
      refine z_aload_n K dX2_fillLostWith_15 rfl ?_
      refine z_get (k := 20) (v := .ref (ad 25)) K dX2_fillLostWith_16 fl_X2_37 rfl rfl rfl ?_
      refine z_aload_n K dX2_fillLostWith_19 rfl ?_
      refine z_get (k := 20) (v := .ref (ad 17)) K dX2_fillLostWith_20 fl_X2_28 rfl rfl rfl ?_
      refine z_callVm K hl1 hg1 (kb := 25) (As := [.ref (ad 17)]) (rest := []) (ct_beLike2 la g0 ad (zup μ 22 w) x y) (by decide) lk_X2_40 cd_X1_beLike rfl rfl rfl rfl (Nat.le_of_ble_eq_true rfl) dX2_fillLostWith_23 ?_
      refine z_iconst K dX2_fillLostWith_26 ?_
      refine z_istore_n (lv' := [(0, .ref (ad 20)), (1, .int (zi ((b : Nat) : Int))), (2, .int (zi (0 : Int)))]) K dX2_fillLostWith_27 (by decide) rfl ?_
      have L28 : ∀ k, k ≤ nc → zV χ 3 ad zSH 0 0 28 [(0, .ref (ad 20)), (1, .int (zi ((b : Nat) : Int))), (2, .int (zi ((k : Nat) : Int)))] [] (zup (zup (zup μ 22 w) 26 (zaw (μ 18) b k)) 27 zz0) := by
        refine zfor ?_
        intro k hk ih2
        have hbk : zbit b k < 2 := Nat.mod_lt _ (by decide)
        refine z_iload_n K dX2_fillLostWith_28 rfl ?_
        refine z_aload_n K dX2_fillLostWith_29 rfl ?_
        refine z_get (k := 20) (v := .ref (ad 10)) K dX2_fillLostWith_30 fl_X2_24 rfl rfl rfl ?_
        refine z_get (k := 10) (v := .int (zi (μ 10 1))) K dX2_fillLostWith_33 fl_X2_59 rfl rfl rfl ?_
        refine z_icmpge (tgt := 62) K dX2_fillLostWith_36 (by decide) (by omega) (by omega) (fun h36 => ?_) (fun h36 => ?_)
        · refine z_iconst K dX2_fillLostWith_62 ?_
          refine z_istore_n (lv' := [(0, .ref (ad 20)), (1, .int (zi ((b : Nat) : Int))), (2, .int (zi (0 : Int)))]) K dX2_fillLostWith_63 (by decide) rfl ?_
          have L64 : ∀ t, t ≤ 9 → ∀ (d e : Nat → Int), zdays n (μ 13) (μ 14) nc (μ 16) t (zaw (μ 18) b nc, zz0) = (d, e) → zV χ 3 ad zSH 0 0 64 [(0, .ref (ad 20)), (1, .int (zi ((b : Nat) : Int))), (2, .int (zi ((t : Nat) : Int)))] [] (zup (zup (zup μ 22 w) 26 d) 27 e) := by
            refine zfor ?_
            intro t ht ih3 d e hF
            have hdv := zdays_ok hp.pk (s := (zaw (μ 18) b nc, zz0)) hav t
            rw [hF] at hdv
            dsimp only at hdv
            refine z_iload_n K dX2_fillLostWith_64 rfl ?_
            refine z_bipush K dX2_fillLostWith_65 (by decide +kernel) ?_
            refine z_icmpge (tgt := 84) K dX2_fillLostWith_67 (by decide) (by omega) ⟨by decide, by decide⟩ (fun h67 => ?_) (fun h67 => ?_)
            · refine z_aload_n K dX2_fillLostWith_84 rfl ?_
              refine z_get (k := 20) (v := .ref (ad 22)) K dX2_fillLostWith_85 fl_X2_15 rfl rfl rfl ?_
              refine z_iload_n K dX2_fillLostWith_88 rfl ?_
              refine z_aload_n K dX2_fillLostWith_89 rfl ?_
              refine z_get (k := 20) (v := .ref (ad 25)) K dX2_fillLostWith_90 fl_X2_37 rfl rfl rfl ?_
              refine z_callVd K hl1 hg1 (kb := 25) (As := []) (rest := [.int (zi ((b : Nat) : Int)), .ref (ad 22)]) (ct_lost_t la g0 ad (zup (zup (zup μ 22 w) 26 d) 27 e) n nc hp hdv.1) (by decide) lk_X2_68 cd_X1_lost rfl rfl rfl rfl (Nat.le_of_ble_eq_true rfl) dX2_fillLostWith_93 ?_
              show zV χ 3 ad zSH 0 0 96 [(0, .ref (ad 20)), (1, .int (zi ((b : Nat) : Int))), (2, .int (zi ((t : Nat) : Int)))] [.int (zi ((zlost n d : Nat) : Int)), .int (zi ((b : Nat) : Int)), .ref (ad 22)] (zup (zup (zup μ 22 w) 26 d) 27 e)
              refine z_iast (k := 22) K dX2_fillLostWith_96 b rfl (by decide) (by omega) (by omega) (z_mem (ν := zup (zup (zup μ 22 (zu1 w b ((zlost n d : Nat) : Int))) 26 d) 27 e) (zup_sw3 _ (by decide) (by decide) _ _ _ _) ?_)
              refine z_iincN (lv' := [(0, .ref (ad 20)), (1, .int (zi ((b + 1 : Nat) : Int))), (2, .int (zi ((t : Nat) : Int)))]) K dX2_fillLostWith_97 rfl (by decide) rfl ?_
              refine z_goto (tgt := 2) K dX2_fillLostWith_100 (by decide) ?_
              refine z_ipick [0, 1] rfl ?_
              exact ih (b + 1) (by omega) (by omega) _ _ _ (fun j hj => by
                by_cases e : j = b
                · subst e; rw [zu1_eq]; unfold zlw; rw [show (9 : Nat) = t by omega, hF]
                · rw [zu1_ne _ _ e]; exact hw j (by omega))
            · refine z_aload_n K dX2_fillLostWith_70 rfl ?_
              refine z_get (k := 20) (v := .ref (ad 25)) K dX2_fillLostWith_71 fl_X2_37 rfl rfl rfl ?_
              refine z_callVd K hl1 hg1 (kb := 25) (As := []) (rest := []) (ct_passDay_t la g0 ad (zup μ 22 w) n nc hp d e hdv) (by decide) lk_X2_44 cd_X1_passDay rfl rfl rfl rfl (Nat.le_of_ble_eq_true rfl) dX2_fillLostWith_74 ?_
              show zV χ 3 ad zSH 0 0 77 [(0, .ref (ad 20)), (1, .int (zi ((b : Nat) : Int))), (2, .int (zi ((t : Nat) : Int)))] [.int (zi ((zdayM n (μ 13) (μ 14) nc (μ 16) (d, e) : Nat) : Int))] (zup (zup (zup μ 22 w) 26 ((zday n (μ 13) (μ 14) nc (μ 16) (d, e)).1)) 27 ((zday n (μ 13) (μ 14) nc (μ 16) (d, e)).2))
              refine z_pop K dX2_fillLostWith_77 rfl ?_
              refine z_iincN (lv' := [(0, .ref (ad 20)), (1, .int (zi ((b : Nat) : Int))), (2, .int (zi ((t + 1 : Nat) : Int)))]) K dX2_fillLostWith_78 rfl (by decide) rfl ?_
              refine z_goto (tgt := 64) K dX2_fillLostWith_81 (by decide) ?_
              exact ih3 (t + 1) (by omega) (by omega) _ _ (by show zday n (μ 13) (μ 14) nc (μ 16) (zdays n (μ 13) (μ 14) nc (μ 16) t (zaw (μ 18) b nc, zz0)) = _; rw [hF])
          rw [show k = nc by omega]
          exact L64 0 (by omega) _ _ rfl
        · refine z_iload_n K dX2_fillLostWith_39 rfl ?_
          refine z_iload_n K dX2_fillLostWith_40 rfl ?_
          refine z_ishrR (z := zi ((b : Nat) : Int) >>> (zi ((k : Nat) : Int) &&& 31)) K dX2_fillLostWith_41 rfl ?_
          refine z_iconst K dX2_fillLostWith_42 ?_
          refine z_iandR (z := zi ((zbit b k : Nat) : Int)) K dX2_fillLostWith_43 (zb_bit3 b (by omega) k (by omega)) ?_
          refine z_ifne (tgt := 56) K dX2_fillLostWith_44 (by decide) (by omega) (fun h44 => ?_) (fun h44 => ?_)
          · refine z_iincN (lv' := [(0, .ref (ad 20)), (1, .int (zi ((b : Nat) : Int))), (2, .int (zi ((k + 1 : Nat) : Int)))]) K dX2_fillLostWith_56 rfl (by decide) rfl ?_
            refine z_goto (tgt := 28) K dX2_fillLostWith_59 (by decide) ?_
            have e9 : zaw (μ 18) b (k + 1) = zaw (μ 18) b k := by
              rw [zaw_s]
              rw [if_neg (by omega)]
            have q9 := ih2 (k + 1) (by omega) (by omega)
            rw [e9] at q9
            exact q9
          · refine z_aload_n K dX2_fillLostWith_47 rfl ?_
            refine z_get (k := 20) (v := .ref (ad 25)) K dX2_fillLostWith_48 fl_X2_37 rfl rfl rfl ?_
            refine z_iload_n K dX2_fillLostWith_51 rfl ?_
            refine z_iconst K dX2_fillLostWith_52 ?_
            refine z_callVm K hl1 hg1 (kb := 25) (As := [.int (zi ((k : Nat) : Int)), .int (zi (3 : Int))]) (rest := []) (ct_sendTo2 la g0 ad (zup μ 22 w) (zaw (μ 18) b k) zz0 k (by omega) 3) (by decide) lk_X2_71 cd_X1_sendTo rfl rfl rfl rfl (Nat.le_of_ble_eq_true rfl) dX2_fillLostWith_53 ?_
            refine z_iincN (lv' := [(0, .ref (ad 20)), (1, .int (zi ((b : Nat) : Int))), (2, .int (zi ((k + 1 : Nat) : Int)))]) K dX2_fillLostWith_56 rfl (by decide) rfl ?_
            refine z_goto (tgt := 28) K dX2_fillLostWith_59 (by decide) ?_
            have e9 : zaw (μ 18) b (k + 1) = zu1 (zaw (μ 18) b k) (18 + k) 3 := by
              rw [zaw_s]
              rw [if_pos (by omega)]
            have q9 := ih2 (k + 1) (by omega) (by omega)
            rw [e9] at q9
            exact q9
      exact L28 0 (by omega)
  exact L2 0 (Nat.zero_le _) w x y (fun j hj => absurd hj (by omega))
theorem zsh_or : ∀ nc, nc ≤ 3 → ∀ k, k < nc → ∀ b, b < 2 ^ nc → b ||| 2 ^ k < 2 ^ nc := by decide +kernel
set_option maxHeartbeats 4000000 in
set_option maxRecDepth 100000 in
theorem ct_shareOf (la : Launch) (g0 : zG) (ad : Nat → Nat) (μ : zMem) (n nc : Nat) (hp : zPlan μ n nc) (hv : zHV n nc (μ 18)) (x y : Nat → Int) (w : Nat → Int) (k : Nat) (hk : k < nc) (q : Int) (hq : q = 0 ∨ q = 1) : zCon la g0 yX2_shareOf cX2_shareOf 8 (some .int) 5 ad zSH [.ref (ad 20), .int (zi ((k : Nat) : Int)), .int (zi q)] (zup (zup (zup μ 22 w) 26 x) 27 y) (zPi (zSc3 μ 22 (zpart (zsr (fun b => (zlw n (μ 13) (μ 14) nc (μ 16) (μ 18) b : Int)) nc k (2 ^ nc)).1 (zsr (fun b => (zlw n (μ 13) (μ 14) nc (μ 16) (μ 18) b : Int)) nc k (2 ^ nc)).2 q))) := by
  refine zCon_of (by decide +kernel) (Nat.le_of_ble_eq_true rfl) ?_
  intro χ K T hl1 hg1
  have K : zOk χ cX2_shareOf RX2 8 5 (some .int) := K
  obtain ⟨hn, hn6, hnc, hnc3, hpl, hpk⟩ := id hp
  have h8 := zp2_le nc hnc3
  have hsrg := zsr_rg hnc3 hk (fun b => (zlw n (μ 13) (μ 14) nc (μ 16) (μ 18) b : Int)) (fun b _ => ⟨Int.natCast_nonneg _, by have : zlw n (μ 13) (μ 14) nc (μ 16) (μ 18) b ≤ 6 := zpop_le _; show ((zlw n (μ 13) (μ 14) nc (μ 16) (μ 18) b : Nat) : Int) ≤ 6; omega⟩)
  have hfac := zfac_rg nc hnc3
  show zV χ 8 ad zSH 0 0 0 [(0, .ref (ad 20)), (1, .int (zi ((k : Nat) : Int))), (2, .int (zi q))] [] (zup (zup (zup μ 22 w) 26 x) 27 y)
  refine z_aload_n K dX2_shareOf_0 rfl ?_
  refine z_callVv K hl1 hg1 (kb := 20) (As := []) (rest := []) (ct_fillLostWith la g0 ad μ n nc hp hv x y w) (by decide) lk_X2_126 cd_X2_fillLostWith rfl rfl rfl rfl (Nat.le_of_ble_eq_true rfl) dX2_shareOf_1 (fun ν h1 => ?_)
  obtain ⟨w2, x2, y2, hν, hw⟩ := h1
  subst hν
  refine z_iconst K dX2_shareOf_4 ?_
  refine z_istore_n (lv' := [(0, .ref (ad 20)), (1, .int (zi ((k : Nat) : Int))), (2, .int (zi q)), (3, .int (zi (0 : Int)))]) K dX2_shareOf_5 (by decide) rfl ?_
  refine z_iconst K dX2_shareOf_6 ?_
  refine z_istore (lv' := [(0, .ref (ad 20)), (1, .int (zi ((k : Nat) : Int))), (2, .int (zi q)), (3, .int (zi (0 : Int))), (4, .int (zi (0 : Int)))]) K dX2_shareOf_7 (by decide) rfl ?_
  refine z_iconst K dX2_shareOf_9 ?_
  refine z_istore (lv' := [(0, .ref (ad 20)), (1, .int (zi ((k : Nat) : Int))), (2, .int (zi q)), (3, .int (zi (0 : Int))), (4, .int (zi (0 : Int))), (5, .int (zi (0 : Int)))]) K dX2_shareOf_10 (by decide) rfl ?_
  have L12 : ∀ b, b ≤ 2 ^ nc → zV χ 8 ad zSH 0 0 12 [(0, .ref (ad 20)), (1, .int (zi ((k : Nat) : Int))), (2, .int (zi q)), (3, .int (zi ((zsr (fun b => (zlw n (μ 13) (μ 14) nc (μ 16) (μ 18) b : Int)) nc k b).1))), (4, .int (zi (((zsr (fun b => (zlw n (μ 13) (μ 14) nc (μ 16) (μ 18) b : Int)) nc k b).2 : Nat) : Int))), (5, .int (zi ((b : Nat) : Int)))] [] (zup (zup (zup μ 22 w2) 26 x2) 27 y2) := by
    refine zfor ?_
    intro b hb ih
    refine z_iload K dX2_shareOf_12 rfl ?_
    refine z_iconst K dX2_shareOf_14 ?_
    refine z_aload_n K dX2_shareOf_15 rfl ?_
    refine z_get (k := 20) (v := .ref (ad 10)) K dX2_shareOf_16 fl_X2_24 rfl rfl rfl ?_
    refine z_get (k := 10) (v := .int (zi (μ 10 1))) K dX2_shareOf_19 fl_X2_59 rfl rfl rfl ?_
    refine z_ishlR (z := zi ((2 ^ nc : Nat) : Int)) K dX2_shareOf_22 (by rw [hnc]; exact zb_shl nc (by omega)) ?_
    refine z_icmpge (tgt := 103) K dX2_shareOf_23 (by decide) (by omega) (by omega) (fun h23 => ?_) (fun h23 => ?_)
    · have hbe : b = 2 ^ nc := by omega
      rw [hbe]
      refine z_iload_n K dX2_shareOf_103 rfl ?_
      refine z_iconst K dX2_shareOf_104 ?_
      refine z_iload K dX2_shareOf_105 rfl ?_
      refine z_max K dX2_shareOf_107 lk_X2_132 (by decide) ⟨by decide, by decide⟩ (by omega) (Nat.le_of_ble_eq_true rfl) ?_
      rw [show (max (1 : Int) (((zsr (fun b => (zlw n (μ 13) (μ 14) nc (μ 16) (μ 18) b : Int)) nc k (2 ^ nc)).2 : Nat) : Int)) = (((zsr (fun b => (zlw n (μ 13) (μ 14) nc (μ 16) (μ 18) b : Int)) nc k (2 ^ nc)).2 : Nat) : Int) from (by omega)]
      refine z_iload_n K dX2_shareOf_110 rfl ?_
      refine z_callSd K hl1 hg1 (As := [.int (zi ((zsr (fun b => (zlw n (μ 13) (μ 14) nc (μ 16) (μ 18) b : Int)) nc k (2 ^ nc)).1)), .int (zi (((zsr (fun b => (zlw n (μ 13) (μ 14) nc (μ 16) (μ 18) b : Int)) nc k (2 ^ nc)).2 : Nat) : Int)), .int (zi q)]) (rest := []) (ct_part la g0 ad (zup (zup (zup μ 22 w2) 26 x2) 27 y2) (zsr (fun b => (zlw n (μ 13) (μ 14) nc (μ 16) (μ 18) b : Int)) nc k (2 ^ nc)).1 (zsr (fun b => (zlw n (μ 13) (μ 14) nc (μ 16) (μ 18) b : Int)) nc k (2 ^ nc)).2 q (by omega) (by omega) hq) (by decide) lk_X2_135 cd_X8_part rfl rfl (Nat.le_of_ble_eq_true rfl) dX2_shareOf_111 ?_
      show zV χ 8 ad zSH 0 0 114 [(0, .ref (ad 20)), (1, .int (zi ((k : Nat) : Int))), (2, .int (zi q)), (3, .int (zi ((zsr (fun b => (zlw n (μ 13) (μ 14) nc (μ 16) (μ 18) b : Int)) nc k (2 ^ nc)).1))), (4, .int (zi (((zsr (fun b => (zlw n (μ 13) (μ 14) nc (μ 16) (μ 18) b : Int)) nc k (2 ^ nc)).2 : Nat) : Int))), (5, .int (zi ((2 ^ nc : Nat) : Int)))] [.int (zi (zpart (zsr (fun b => (zlw n (μ 13) (μ 14) nc (μ 16) (μ 18) b : Int)) nc k (2 ^ nc)).1 (zsr (fun b => (zlw n (μ 13) (μ 14) nc (μ 16) (μ 18) b : Int)) nc k (2 ^ nc)).2 q))] (zup (zup (zup μ 22 w2) 26 x2) 27 y2)
      exact z_ireti K T rfl dX2_shareOf_114 ⟨rfl, _, _, _, rfl⟩
    · have hbk : zbit b k < 2 := Nat.mod_lt _ (by decide)
      refine z_iload K dX2_shareOf_26 rfl ?_
      refine z_iload_n K dX2_shareOf_28 rfl ?_
      refine z_ishrR (z := zi ((b : Nat) : Int) >>> (zi ((k : Nat) : Int) &&& 31)) K dX2_shareOf_29 rfl ?_
      refine z_iconst K dX2_shareOf_30 ?_
      refine z_iandR (z := zi ((zbit b k : Nat) : Int)) K dX2_shareOf_31 (zb_bit3 b (by omega) k (by omega)) ?_
      refine z_ifne (tgt := 97) K dX2_shareOf_32 (by decide) (by omega) (fun h32 => ?_) (fun h32 => ?_)
      · refine z_iincN (lv' := [(0, .ref (ad 20)), (1, .int (zi ((k : Nat) : Int))), (2, .int (zi q)), (3, .int (zi ((zsr (fun b => (zlw n (μ 13) (μ 14) nc (μ 16) (μ 18) b : Int)) nc k b).1))), (4, .int (zi (((zsr (fun b => (zlw n (μ 13) (μ 14) nc (μ 16) (μ 18) b : Int)) nc k b).2 : Nat) : Int))), (5, .int (zi ((b + 1 : Nat) : Int)))]) K dX2_shareOf_97 rfl (by decide) rfl ?_
        refine z_goto (tgt := 12) K dX2_shareOf_100 (by decide) ?_
        have e9 : zsr (fun b => (zlw n (μ 13) (μ 14) nc (μ 16) (μ 18) b : Int)) nc k (b + 1) = zsr (fun b => (zlw n (μ 13) (μ 14) nc (μ 16) (μ 18) b : Int)) nc k b := by
          rw [zsr_s]
          rw [if_neg (by omega)]
        have q9 := ih (b + 1) (by omega) (by omega)
        rw [e9] at q9
        exact q9
      · have hpop := zsh_pop nc hnc3 k hk b (by omega) (by omega)
        refine z_iload K dX2_shareOf_35 rfl ?_
        refine z_callSd K hl1 hg1 (As := [.int (zi ((b : Nat) : Int))]) (rest := []) (ct_bitCount la g0 ad (zup (zup (zup μ 22 w2) 26 x2) 27 y2) b (by omega)) (by decide) lk_X2_85 cd_J6_bitCount_0f7a4 rfl rfl (Nat.le_of_ble_eq_true rfl) dX2_shareOf_37 ?_
        show zV χ 8 ad zSH 0 0 40 [(0, .ref (ad 20)), (1, .int (zi ((k : Nat) : Int))), (2, .int (zi q)), (3, .int (zi ((zsr (fun b => (zlw n (μ 13) (μ 14) nc (μ 16) (μ 18) b : Int)) nc k b).1))), (4, .int (zi (((zsr (fun b => (zlw n (μ 13) (μ 14) nc (μ 16) (μ 18) b : Int)) nc k b).2 : Nat) : Int))), (5, .int (zi ((b : Nat) : Int)))] [.int (zi ((zpop b : Nat) : Int))] (zup (zup (zup μ 22 w2) 26 x2) 27 y2)
        refine z_istore (lv' := [(0, .ref (ad 20)), (1, .int (zi ((k : Nat) : Int))), (2, .int (zi q)), (3, .int (zi ((zsr (fun b => (zlw n (μ 13) (μ 14) nc (μ 16) (μ 18) b : Int)) nc k b).1))), (4, .int (zi (((zsr (fun b => (zlw n (μ 13) (μ 14) nc (μ 16) (μ 18) b : Int)) nc k b).2 : Nat) : Int))), (5, .int (zi ((b : Nat) : Int))), (6, .int (zi ((zpop b : Nat) : Int)))]) K dX2_shareOf_40 (by decide) rfl ?_
        refine z_iload K dX2_shareOf_42 rfl ?_
        refine z_callSd K hl1 hg1 (As := [.int (zi ((zpop b : Nat) : Int))]) (rest := []) (ct_factorial la g0 ad (zup (zup (zup μ 22 w2) 26 x2) 27 y2) (zpop b) (by omega)) (by decide) lk_X2_129 cd_X2_factorial rfl rfl (Nat.le_of_ble_eq_true rfl) dX2_shareOf_44 ?_
        show zV χ 8 ad zSH 0 0 47 [(0, .ref (ad 20)), (1, .int (zi ((k : Nat) : Int))), (2, .int (zi q)), (3, .int (zi ((zsr (fun b => (zlw n (μ 13) (μ 14) nc (μ 16) (μ 18) b : Int)) nc k b).1))), (4, .int (zi (((zsr (fun b => (zlw n (μ 13) (μ 14) nc (μ 16) (μ 18) b : Int)) nc k b).2 : Nat) : Int))), (5, .int (zi ((b : Nat) : Int))), (6, .int (zi ((zpop b : Nat) : Int)))] [.int (zi ((zfac (zpop b) : Nat) : Int))] (zup (zup (zup μ 22 w2) 26 x2) 27 y2)
        refine z_aload_n K dX2_shareOf_47 rfl ?_
        refine z_get (k := 20) (v := .ref (ad 10)) K dX2_shareOf_48 fl_X2_24 rfl rfl rfl ?_
        refine z_get (k := 10) (v := .int (zi (μ 10 1))) K dX2_shareOf_51 fl_X2_59 rfl rfl rfl ?_
        refine z_iconst K dX2_shareOf_54 ?_
        refine z_isub K dX2_shareOf_55 ?_
        refine z_iload K dX2_shareOf_56 rfl ?_
        refine z_isub K dX2_shareOf_58 ?_
        rw [show (((μ 10 1) - (1 : Int)) - ((zpop b : Nat) : Int)) = ((nc - 1 - zpop b : Nat) : Int) from (by omega)]
        refine z_callSd K hl1 hg1 (As := [.int (zi ((nc - 1 - zpop b : Nat) : Int))]) (rest := [.int (zi ((zfac (zpop b) : Nat) : Int))]) (ct_factorial la g0 ad (zup (zup (zup μ 22 w2) 26 x2) 27 y2) (nc - 1 - zpop b) (by omega)) (by decide) lk_X2_129 cd_X2_factorial rfl rfl (Nat.le_of_ble_eq_true rfl) dX2_shareOf_59 ?_
        show zV χ 8 ad zSH 0 0 62 [(0, .ref (ad 20)), (1, .int (zi ((k : Nat) : Int))), (2, .int (zi q)), (3, .int (zi ((zsr (fun b => (zlw n (μ 13) (μ 14) nc (μ 16) (μ 18) b : Int)) nc k b).1))), (4, .int (zi (((zsr (fun b => (zlw n (μ 13) (μ 14) nc (μ 16) (μ 18) b : Int)) nc k b).2 : Nat) : Int))), (5, .int (zi ((b : Nat) : Int))), (6, .int (zi ((zpop b : Nat) : Int)))] [.int (zi ((zfac (nc - 1 - zpop b) : Nat) : Int)), .int (zi ((zfac (zpop b) : Nat) : Int))] (zup (zup (zup μ 22 w2) 26 x2) 27 y2)
        refine z_imul K dX2_shareOf_62 ?_
        rw [show (((zfac (zpop b) : Nat) : Int) * ((zfac (nc - 1 - zpop b) : Nat) : Int)) = ((zsw nc k b : Nat) : Int) from (by unfold zsw; push_cast; rfl)]
        refine z_istore (lv' := [(0, .ref (ad 20)), (1, .int (zi ((k : Nat) : Int))), (2, .int (zi q)), (3, .int (zi ((zsr (fun b => (zlw n (μ 13) (μ 14) nc (μ 16) (μ 18) b : Int)) nc k b).1))), (4, .int (zi (((zsr (fun b => (zlw n (μ 13) (μ 14) nc (μ 16) (μ 18) b : Int)) nc k b).2 : Nat) : Int))), (5, .int (zi ((b : Nat) : Int))), (6, .int (zi ((zpop b : Nat) : Int))), (7, .int (zi ((zsw nc k b : Nat) : Int)))]) K dX2_shareOf_63 (by decide) rfl ?_
        refine z_iload_n K dX2_shareOf_65 rfl ?_
        refine z_iload K dX2_shareOf_66 rfl ?_
        refine z_aload_n K dX2_shareOf_68 rfl ?_
        refine z_get (k := 20) (v := .ref (ad 22)) K dX2_shareOf_69 fl_X2_15 rfl rfl rfl ?_
        refine z_iload K dX2_shareOf_72 rfl ?_
        refine z_iald (k := 22) (v := (fun b => (zlw n (μ 13) (μ 14) nc (μ 16) (μ 18) b : Int)) b) K dX2_shareOf_74 b rfl (by decide) (by omega) (by omega) (hw b (by omega)) ?_
        refine z_aload_n K dX2_shareOf_75 rfl ?_
        refine z_get (k := 20) (v := .ref (ad 22)) K dX2_shareOf_76 fl_X2_15 rfl rfl rfl ?_
        refine z_iload K dX2_shareOf_79 rfl ?_
        refine z_iconst K dX2_shareOf_81 ?_
        refine z_iload_n K dX2_shareOf_82 rfl ?_
        refine z_ishlR (z := zi ((2 ^ k : Nat) : Int)) K dX2_shareOf_83 (zb_shl k (by omega)) ?_
        refine z_iorR (z := zi ((b ||| 2 ^ k : Nat) : Int)) K dX2_shareOf_84 (zb_or _ _) ?_
        refine z_iald (k := 22) (v := (fun b => (zlw n (μ 13) (μ 14) nc (μ 16) (μ 18) b : Int)) (b ||| 2 ^ k)) K dX2_shareOf_85 (b ||| 2 ^ k) rfl (by decide) (by omega) (by omega) (hw _ (by have := zsh_or nc hnc3 k hk b (by omega); omega)) ?_
        refine z_isub K dX2_shareOf_86 ?_
        refine z_imul K dX2_shareOf_87 ?_
        refine z_iadd K dX2_shareOf_88 ?_
        refine z_istore_n (lv' := [(0, .ref (ad 20)), (1, .int (zi ((k : Nat) : Int))), (2, .int (zi q)), (3, .int (zi (((zsr (fun b => (zlw n (μ 13) (μ 14) nc (μ 16) (μ 18) b : Int)) nc k b).1) + (((zsw nc k b : Nat) : Int) * (((fun b => (zlw n (μ 13) (μ 14) nc (μ 16) (μ 18) b : Int)) b) - ((fun b => (zlw n (μ 13) (μ 14) nc (μ 16) (μ 18) b : Int)) (b ||| 2 ^ k))))))), (4, .int (zi (((zsr (fun b => (zlw n (μ 13) (μ 14) nc (μ 16) (μ 18) b : Int)) nc k b).2 : Nat) : Int))), (5, .int (zi ((b : Nat) : Int))), (6, .int (zi ((zpop b : Nat) : Int))), (7, .int (zi ((zsw nc k b : Nat) : Int)))]) K dX2_shareOf_89 (by decide) rfl ?_
        refine z_iload K dX2_shareOf_90 rfl ?_
        refine z_iload K dX2_shareOf_92 rfl ?_
        refine z_iadd K dX2_shareOf_94 ?_
        rw [show ((((zsr (fun b => (zlw n (μ 13) (μ 14) nc (μ 16) (μ 18) b : Int)) nc k b).2 : Nat) : Int) + ((zsw nc k b : Nat) : Int)) = (((zsr (fun b => (zlw n (μ 13) (μ 14) nc (μ 16) (μ 18) b : Int)) nc k b).2 + zsw nc k b : Nat) : Int) from (by push_cast; rfl)]
        refine z_istore (lv' := [(0, .ref (ad 20)), (1, .int (zi ((k : Nat) : Int))), (2, .int (zi q)), (3, .int (zi (((zsr (fun b => (zlw n (μ 13) (μ 14) nc (μ 16) (μ 18) b : Int)) nc k b).1) + (((zsw nc k b : Nat) : Int) * (((fun b => (zlw n (μ 13) (μ 14) nc (μ 16) (μ 18) b : Int)) b) - ((fun b => (zlw n (μ 13) (μ 14) nc (μ 16) (μ 18) b : Int)) (b ||| 2 ^ k))))))), (4, .int (zi (((zsr (fun b => (zlw n (μ 13) (μ 14) nc (μ 16) (μ 18) b : Int)) nc k b).2 + zsw nc k b : Nat) : Int))), (5, .int (zi ((b : Nat) : Int))), (6, .int (zi ((zpop b : Nat) : Int))), (7, .int (zi ((zsw nc k b : Nat) : Int)))]) K dX2_shareOf_95 (by decide) rfl ?_
        refine z_iincN (lv' := [(0, .ref (ad 20)), (1, .int (zi ((k : Nat) : Int))), (2, .int (zi q)), (3, .int (zi (((zsr (fun b => (zlw n (μ 13) (μ 14) nc (μ 16) (μ 18) b : Int)) nc k b).1) + (((zsw nc k b : Nat) : Int) * (((fun b => (zlw n (μ 13) (μ 14) nc (μ 16) (μ 18) b : Int)) b) - ((fun b => (zlw n (μ 13) (μ 14) nc (μ 16) (μ 18) b : Int)) (b ||| 2 ^ k))))))), (4, .int (zi (((zsr (fun b => (zlw n (μ 13) (μ 14) nc (μ 16) (μ 18) b : Int)) nc k b).2 + zsw nc k b : Nat) : Int))), (5, .int (zi ((b + 1 : Nat) : Int))), (6, .int (zi ((zpop b : Nat) : Int))), (7, .int (zi ((zsw nc k b : Nat) : Int)))]) K dX2_shareOf_97 rfl (by decide) rfl ?_
        refine z_goto (tgt := 12) K dX2_shareOf_100 (by decide) ?_
        refine z_ipick [0, 1, 2, 3, 4, 5] rfl ?_
        have e9 : zsr (fun b => (zlw n (μ 13) (μ 14) nc (μ 16) (μ 18) b : Int)) nc k (b + 1) = (((zsr (fun b => (zlw n (μ 13) (μ 14) nc (μ 16) (μ 18) b : Int)) nc k b).1) + (((zsw nc k b : Nat) : Int) * (((fun b => (zlw n (μ 13) (μ 14) nc (μ 16) (μ 18) b : Int)) b) - ((fun b => (zlw n (μ 13) (μ 14) nc (μ 16) (μ 18) b : Int)) (b ||| 2 ^ k)))), (zsr (fun b => (zlw n (μ 13) (μ 14) nc (μ 16) (μ 18) b : Int)) nc k b).2 + zsw nc k b) := by
          rw [zsr_s]
          rw [if_pos (by omega)]
        have q9 := ih (b + 1) (by omega) (by omega)
        rw [e9] at q9
        exact q9
  exact L12 0 (Nat.zero_le _)
def zScG (μ : zMem) (n : Nat) (kd al : Nat → Int) (nc : Nat) (an c : Nat → Int) (p q : Nat) : zMem → Prop := fun ν => ∃ g h x y, ν = zup (zup (zup (zup μ 23 g) 24 h) 26 x) 27 y ∧ ∀ i j, i < 3 → j < 3 → 3 * i + j < 9 → g (3 * i + j) = zg1 n kd al nc an c p q i j ∧ h (3 * i + j) = zg2 n kd al nc an c p q i j
set_option maxHeartbeats 4000000 in
set_option maxRecDepth 100000 in
theorem ct_fillGains (la : Launch) (g0 : zG) (ad : Nat → Nat) (μ : zMem) (n nc : Nat) (hp : zPlan μ n nc) (hv : zHV n nc (μ 18)) (x y : Nat → Int) (g h : Nat → Int) (p q : Nat) (hpp : p < nc) (hqq : q < nc) : zCon la g0 yX2_fillGains cX2_fillGains 6 none 4 ad zSH [.ref (ad 20), .int (zi ((p : Nat) : Int)), .int (zi ((q : Nat) : Int))] (zup (zup (zup (zup μ 23 g) 24 h) 26 x) 27 y) (zPv (zScG μ n (μ 13) (μ 14) nc (μ 16) (μ 18) p q)) := by
  refine zCon_of (by decide +kernel) (Nat.le_of_ble_eq_true rfl) ?_
  intro χ K T hl1 hg1
  have K : zOk χ cX2_fillGains RX2 6 4 none := K
  obtain ⟨hn, hn6, hnc, hnc3, hpl, hpk⟩ := id hp
  have hvp := hv.1.2.1 p hpp
  have hvq := hv.1.2.1 q hqq
  show zV χ 6 ad zSH 0 0 0 [(0, .ref (ad 20)), (1, .int (zi ((p : Nat) : Int))), (2, .int (zi ((q : Nat) : Int)))] [] (zup (zup (zup (zup μ 23 g) 24 h) 26 x) 27 y)
  refine z_iconst K dX2_fillGains_0 ?_
  refine z_istore_n (lv' := [(0, .ref (ad 20)), (1, .int (zi ((p : Nat) : Int))), (2, .int (zi ((q : Nat) : Int))), (3, .int (zi (0 : Int)))]) K dX2_fillGains_1 (by decide) rfl ?_
  have L2 : ∀ a, a ≤ 3 → ∀ (g h x y : Nat → Int), (∀ i j, i < 3 → j < 3 → 3 * i + j < 3 * a → g (3 * i + j) = zg1 n (μ 13) (μ 14) nc (μ 16) (μ 18) p q i j ∧ h (3 * i + j) = zg2 n (μ 13) (μ 14) nc (μ 16) (μ 18) p q i j) → zV χ 6 ad zSH 0 0 2 [(0, .ref (ad 20)), (1, .int (zi ((p : Nat) : Int))), (2, .int (zi ((q : Nat) : Int))), (3, .int (zi ((a : Nat) : Int)))] [] (zup (zup (zup (zup μ 23 g) 24 h) 26 x) 27 y) := by
    refine zfor ?_
    intro a ha ih g h x y hgh
    refine z_iload_n K dX2_fillGains_2 rfl ?_
    refine z_iconst K dX2_fillGains_3 ?_
    refine z_icmpge (tgt := 158) K dX2_fillGains_4 (by decide) (by omega) ⟨by decide, by decide⟩ (fun h4 => ?_) (fun h4 => ?_)
    · exact z_vreti K T rfl dX2_fillGains_158 ⟨g, h, x, y, rfl, fun i j h7 h8 h9 => hgh i j h7 h8 (by omega)⟩
    · refine z_iconst K dX2_fillGains_7 ?_
      refine z_istore (lv' := [(0, .ref (ad 20)), (1, .int (zi ((p : Nat) : Int))), (2, .int (zi ((q : Nat) : Int))), (3, .int (zi ((a : Nat) : Int))), (4, .int (zi (0 : Int)))]) K dX2_fillGains_8 (by decide) rfl ?_
      have L10 : ∀ b, b ≤ 3 → ∀ (g h x y : Nat → Int), (∀ i j, i < 3 → j < 3 → 3 * i + j < 3 * a + b → g (3 * i + j) = zg1 n (μ 13) (μ 14) nc (μ 16) (μ 18) p q i j ∧ h (3 * i + j) = zg2 n (μ 13) (μ 14) nc (μ 16) (μ 18) p q i j) → zV χ 6 ad zSH 0 0 10 [(0, .ref (ad 20)), (1, .int (zi ((p : Nat) : Int))), (2, .int (zi ((q : Nat) : Int))), (3, .int (zi ((a : Nat) : Int))), (4, .int (zi ((b : Nat) : Int)))] [] (zup (zup (zup (zup μ 23 g) 24 h) 26 x) 27 y) := by
        refine zfor ?_
        intro b hb ih2 g h x y hgh
        refine z_iload K dX2_fillGains_10 rfl ?_
        refine z_iconst K dX2_fillGains_12 ?_
        refine z_icmpge (tgt := 152) K dX2_fillGains_13 (by decide) (by omega) ⟨by decide, by decide⟩ (fun h13 => ?_) (fun h13 => ?_)
        · refine z_iincN (lv' := [(0, .ref (ad 20)), (1, .int (zi ((p : Nat) : Int))), (2, .int (zi ((q : Nat) : Int))), (3, .int (zi ((a + 1 : Nat) : Int))), (4, .int (zi ((b : Nat) : Int)))]) K dX2_fillGains_152 rfl (by decide) rfl ?_
          refine z_goto (tgt := 2) K dX2_fillGains_155 (by decide) ?_
          refine z_ipick [0, 1, 2, 3] rfl ?_
          exact ih (a + 1) (by omega) (by omega) _ _ _ _ (fun i j h7 h8 h9 => hgh i j h7 h8 (by omega))
        · refine z_aload_n K dX2_fillGains_16 rfl ?_
          refine z_get (k := 20) (v := .ref (ad 25)) K dX2_fillGains_17 fl_X2_37 rfl rfl rfl ?_
          refine z_aload_n K dX2_fillGains_20 rfl ?_
          refine z_get (k := 20) (v := .ref (ad 17)) K dX2_fillGains_21 fl_X2_28 rfl rfl rfl ?_
          refine z_callVm K hl1 hg1 (kb := 25) (As := [.ref (ad 17)]) (rest := []) (ct_beLike2 la g0 ad (zup (zup μ 23 g) 24 h) x y) (by decide) lk_X2_40 cd_X1_beLike rfl rfl rfl rfl (Nat.le_of_ble_eq_true rfl) dX2_fillGains_24 ?_
          refine z_aload_n K dX2_fillGains_27 rfl ?_
          refine z_get (k := 20) (v := .ref (ad 25)) K dX2_fillGains_28 fl_X2_37 rfl rfl rfl ?_
          refine z_iload_n K dX2_fillGains_31 rfl ?_
          refine z_iload_n K dX2_fillGains_32 rfl ?_
          refine z_callVm K hl1 hg1 (kb := 25) (As := [.int (zi ((p : Nat) : Int)), .int (zi ((a : Nat) : Int))]) (rest := []) (ct_sendTo2 la g0 ad (zup (zup μ 23 g) 24 h) (μ 18) zz0 p (by omega) ((a : Nat) : Int)) (by decide) lk_X2_71 cd_X1_sendTo rfl rfl rfl rfl (Nat.le_of_ble_eq_true rfl) dX2_fillGains_33 ?_
          refine z_aload_n K dX2_fillGains_36 rfl ?_
          refine z_get (k := 20) (v := .ref (ad 25)) K dX2_fillGains_37 fl_X2_37 rfl rfl rfl ?_
          refine z_iload_n K dX2_fillGains_40 rfl ?_
          refine z_iload K dX2_fillGains_41 rfl ?_
          refine z_callVm K hl1 hg1 (kb := 25) (As := [.int (zi ((q : Nat) : Int)), .int (zi ((b : Nat) : Int))]) (rest := []) (ct_sendTo2 la g0 ad (zup (zup μ 23 g) 24 h) (zu1 (μ 18) (18 + p) ((a : Nat) : Int)) zz0 q (by omega) ((b : Nat) : Int)) (by decide) lk_X2_71 cd_X1_sendTo rfl rfl rfl rfl (Nat.le_of_ble_eq_true rfl) dX2_fillGains_43 ?_
          refine z_iconst K dX2_fillGains_46 ?_
          refine z_istore (lv' := [(0, .ref (ad 20)), (1, .int (zi ((p : Nat) : Int))), (2, .int (zi ((q : Nat) : Int))), (3, .int (zi ((a : Nat) : Int))), (4, .int (zi ((b : Nat) : Int))), (5, .int (zi (0 : Int)))]) K dX2_fillGains_47 (by decide) rfl ?_
          have L49 : ∀ t, t ≤ 3 → ∀ (d e : Nat → Int), zdays n (μ 13) (μ 14) nc (μ 16) t (zu1 (zu1 (μ 18) (18 + p) ((a : Nat) : Int)) (18 + q) ((b : Nat) : Int), zz0) = (d, e) → zV χ 6 ad zSH 0 0 49 [(0, .ref (ad 20)), (1, .int (zi ((p : Nat) : Int))), (2, .int (zi ((q : Nat) : Int))), (3, .int (zi ((a : Nat) : Int))), (4, .int (zi ((b : Nat) : Int))), (5, .int (zi ((t : Nat) : Int)))] [] (zup (zup (zup (zup μ 23 g) 24 h) 26 d) 27 e) := by
            refine zfor ?_
            intro t ht ih3 d e hF
            have hdv := zdays_ok hp.pk (s := (zu1 (zu1 (μ 18) (18 + p) ((a : Nat) : Int)) (18 + q) ((b : Nat) : Int), zz0)) (zHV_row hn6 hnc3 (zHV_row hn6 hnc3 hv hpp (v := ((a : Nat) : Int)) ⟨by omega, by omega⟩) hqq ⟨by omega, by omega⟩) t
            rw [hF] at hdv
            dsimp only at hdv
            refine z_iload K dX2_fillGains_49 rfl ?_
            refine z_iconst K dX2_fillGains_51 ?_
            refine z_icmpge (tgt := 69) K dX2_fillGains_52 (by decide) (by omega) ⟨by decide, by decide⟩ (fun h52 => ?_) (fun h52 => ?_)
            · refine z_iconst K dX2_fillGains_69 ?_
              refine z_iload_n K dX2_fillGains_70 rfl ?_
              refine z_imul K dX2_fillGains_71 ?_
              refine z_iload K dX2_fillGains_72 rfl ?_
              refine z_iadd K dX2_fillGains_74 ?_
              rw [show (((3 : Int) * ((a : Nat) : Int)) + ((b : Nat) : Int)) = ((3 * a + b : Nat) : Int) from (by omega)]
              refine z_istore (lv' := [(0, .ref (ad 20)), (1, .int (zi ((p : Nat) : Int))), (2, .int (zi ((q : Nat) : Int))), (3, .int (zi ((a : Nat) : Int))), (4, .int (zi ((b : Nat) : Int))), (5, .int (zi ((3 * a + b : Nat) : Int)))]) K dX2_fillGains_75 (by decide) rfl ?_
              refine z_aload_n K dX2_fillGains_77 rfl ?_
              refine z_get (k := 20) (v := .ref (ad 23)) K dX2_fillGains_78 fl_X2_18 rfl rfl rfl ?_
              refine z_iload K dX2_fillGains_81 rfl ?_
              refine z_aload_n K dX2_fillGains_83 rfl ?_
              refine z_get (k := 20) (v := .ref (ad 25)) K dX2_fillGains_84 fl_X2_37 rfl rfl rfl ?_
              refine z_get (k := 25) (v := .ref (ad 27)) K dX2_fillGains_87 fl_X2_145 rfl rfl rfl ?_
              refine z_iload_n K dX2_fillGains_90 rfl ?_
              refine z_iald (k := 27) (v := e p) K dX2_fillGains_91 p rfl (by decide) (by omega) (by omega) rfl ?_
              refine z_iload_n K dX2_fillGains_92 rfl ?_
              refine z_aload_n K dX2_fillGains_93 rfl ?_
              refine z_get (k := 20) (v := .ref (ad 17)) K dX2_fillGains_94 fl_X2_28 rfl rfl rfl ?_
              refine z_iload_n K dX2_fillGains_97 rfl ?_
              refine z_callVd K hl1 hg1 (kb := 17) (As := [.int (zi ((p : Nat) : Int))]) (rest := [.int (zi ((a : Nat) : Int)), .int (zi (e p)), .int (zi ((3 * a + b : Nat) : Int)), .ref (ad 23)]) (ct_rowOf la g0 ad (zup (zup (zup (zup μ 23 g) 24 h) 26 d) 27 e) n nc hp hv.1 p hpp) (by decide) lk_X2_148 cd_X1_rowOf rfl rfl rfl rfl (Nat.le_of_ble_eq_true rfl) dX2_fillGains_98 ?_
              show zV χ 6 ad zSH 0 0 101 [(0, .ref (ad 20)), (1, .int (zi ((p : Nat) : Int))), (2, .int (zi ((q : Nat) : Int))), (3, .int (zi ((a : Nat) : Int))), (4, .int (zi ((b : Nat) : Int))), (5, .int (zi ((3 * a + b : Nat) : Int)))] [.int (zi (μ 18 (18 + p))), .int (zi ((a : Nat) : Int)), .int (zi (e p)), .int (zi ((3 * a + b : Nat) : Int)), .ref (ad 23)] (zup (zup (zup (zup μ 23 g) 24 h) 26 d) 27 e)
              refine z_icmpne (tgt := 108) K dX2_fillGains_101 (by decide) (by omega) (by omega) (fun h101 => ?_) (fun h101 => ?_)
              · refine z_iconst K dX2_fillGains_108 ?_
                refine z_isub K dX2_fillGains_109 ?_
                refine z_iast (k := 23) K dX2_fillGains_110 (3 * a + b) rfl (by decide) (by omega) (by omega) (z_mem (ν := zup (zup (zup (zup μ 23 (zu1 g (3 * a + b) ((e p) - (1 : Int)))) 24 h) 26 d) 27 e) (zup_sw4 _ (by decide) (by decide) (by decide) _ _ _ _ _) ?_)
                refine z_aload_n K dX2_fillGains_111 rfl ?_
                refine z_get (k := 20) (v := .ref (ad 24)) K dX2_fillGains_112 fl_X2_21 rfl rfl rfl ?_
                refine z_iload K dX2_fillGains_115 rfl ?_
                refine z_aload_n K dX2_fillGains_117 rfl ?_
                refine z_get (k := 20) (v := .ref (ad 25)) K dX2_fillGains_118 fl_X2_37 rfl rfl rfl ?_
                refine z_get (k := 25) (v := .ref (ad 27)) K dX2_fillGains_121 fl_X2_145 rfl rfl rfl ?_
                refine z_iload_n K dX2_fillGains_124 rfl ?_
                refine z_iald (k := 27) (v := e q) K dX2_fillGains_125 q rfl (by decide) (by omega) (by omega) rfl ?_
                refine z_iload K dX2_fillGains_126 rfl ?_
                refine z_aload_n K dX2_fillGains_128 rfl ?_
                refine z_get (k := 20) (v := .ref (ad 17)) K dX2_fillGains_129 fl_X2_28 rfl rfl rfl ?_
                refine z_iload_n K dX2_fillGains_132 rfl ?_
                refine z_callVd K hl1 hg1 (kb := 17) (As := [.int (zi ((q : Nat) : Int))]) (rest := [.int (zi ((b : Nat) : Int)), .int (zi (e q)), .int (zi ((3 * a + b : Nat) : Int)), .ref (ad 24)]) (ct_rowOf la g0 ad (zup (zup (zup (zup μ 23 (zu1 g (3 * a + b) ((e p) - (1 : Int)))) 24 h) 26 d) 27 e) n nc hp hv.1 q hqq) (by decide) lk_X2_148 cd_X1_rowOf rfl rfl rfl rfl (Nat.le_of_ble_eq_true rfl) dX2_fillGains_133 ?_
                show zV χ 6 ad zSH 0 0 136 [(0, .ref (ad 20)), (1, .int (zi ((p : Nat) : Int))), (2, .int (zi ((q : Nat) : Int))), (3, .int (zi ((a : Nat) : Int))), (4, .int (zi ((b : Nat) : Int))), (5, .int (zi ((3 * a + b : Nat) : Int)))] [.int (zi (μ 18 (18 + q))), .int (zi ((b : Nat) : Int)), .int (zi (e q)), .int (zi ((3 * a + b : Nat) : Int)), .ref (ad 24)] (zup (zup (zup (zup μ 23 (zu1 g (3 * a + b) ((e p) - (1 : Int)))) 24 h) 26 d) 27 e)
                refine z_icmpne (tgt := 143) K dX2_fillGains_136 (by decide) (by omega) (by omega) (fun h136 => ?_) (fun h136 => ?_)
                · refine z_iconst K dX2_fillGains_143 ?_
                  refine z_isub K dX2_fillGains_144 ?_
                  refine z_iast (k := 24) K dX2_fillGains_145 (3 * a + b) rfl (by decide) (by omega) (by omega) (z_mem (ν := zup (zup (zup (zup μ 23 (zu1 g (3 * a + b) ((e p) - (1 : Int)))) 24 (zu1 h (3 * a + b) ((e q) - (1 : Int)))) 26 d) 27 e) (zup_sw3 _ (by decide) (by decide) _ _ _ _) ?_)
                  refine z_iincN (lv' := [(0, .ref (ad 20)), (1, .int (zi ((p : Nat) : Int))), (2, .int (zi ((q : Nat) : Int))), (3, .int (zi ((a : Nat) : Int))), (4, .int (zi ((b + 1 : Nat) : Int))), (5, .int (zi ((3 * a + b : Nat) : Int)))]) K dX2_fillGains_146 rfl (by decide) rfl ?_
                  refine z_goto (tgt := 10) K dX2_fillGains_149 (by decide) ?_
                  refine z_ipick [0, 1, 2, 3, 4] rfl ?_
                  exact ih2 (b + 1) (by omega) (by omega) _ _ _ _ (fun i j h7 h8 h9 => by
                    by_cases e7 : 3 * i + j = 3 * a + b
                    · have e5 : i = a := by omega
                      have e6 : j = b := by omega
                      subst e5; subst e6
                      refine ⟨?_, ?_⟩
                      · rw [zu1_eq]; unfold zg1 zrs; rw [show (3 : Nat) = t by omega, hF]; first | rw [if_pos h101] | rw [if_neg h101]
                      · rw [zu1_eq]; unfold zg2 zrs; rw [show (3 : Nat) = t by omega, hF]; first | rw [if_pos h136] | rw [if_neg h136]
                    · rw [zu1_ne _ _ e7, zu1_ne _ _ e7]; exact hgh i j h7 h8 (by omega))
                · refine z_iconst K dX2_fillGains_139 ?_
                  refine z_goto (tgt := 144) K dX2_fillGains_140 (by decide) ?_
                  refine z_isub K dX2_fillGains_144 ?_
                  refine z_iast (k := 24) K dX2_fillGains_145 (3 * a + b) rfl (by decide) (by omega) (by omega) (z_mem (ν := zup (zup (zup (zup μ 23 (zu1 g (3 * a + b) ((e p) - (1 : Int)))) 24 (zu1 h (3 * a + b) ((e q) - (0 : Int)))) 26 d) 27 e) (zup_sw3 _ (by decide) (by decide) _ _ _ _) ?_)
                  refine z_iincN (lv' := [(0, .ref (ad 20)), (1, .int (zi ((p : Nat) : Int))), (2, .int (zi ((q : Nat) : Int))), (3, .int (zi ((a : Nat) : Int))), (4, .int (zi ((b + 1 : Nat) : Int))), (5, .int (zi ((3 * a + b : Nat) : Int)))]) K dX2_fillGains_146 rfl (by decide) rfl ?_
                  refine z_goto (tgt := 10) K dX2_fillGains_149 (by decide) ?_
                  refine z_ipick [0, 1, 2, 3, 4] rfl ?_
                  exact ih2 (b + 1) (by omega) (by omega) _ _ _ _ (fun i j h7 h8 h9 => by
                    by_cases e7 : 3 * i + j = 3 * a + b
                    · have e5 : i = a := by omega
                      have e6 : j = b := by omega
                      subst e5; subst e6
                      refine ⟨?_, ?_⟩
                      · rw [zu1_eq]; unfold zg1 zrs; rw [show (3 : Nat) = t by omega, hF]; first | rw [if_pos h101] | rw [if_neg h101]
                      · rw [zu1_eq]; unfold zg2 zrs; rw [show (3 : Nat) = t by omega, hF]; first | rw [if_pos h136] | rw [if_neg h136]
                    · rw [zu1_ne _ _ e7, zu1_ne _ _ e7]; exact hgh i j h7 h8 (by omega))
              · refine z_iconst K dX2_fillGains_104 ?_
                refine z_goto (tgt := 109) K dX2_fillGains_105 (by decide) ?_
                refine z_isub K dX2_fillGains_109 ?_
                refine z_iast (k := 23) K dX2_fillGains_110 (3 * a + b) rfl (by decide) (by omega) (by omega) (z_mem (ν := zup (zup (zup (zup μ 23 (zu1 g (3 * a + b) ((e p) - (0 : Int)))) 24 h) 26 d) 27 e) (zup_sw4 _ (by decide) (by decide) (by decide) _ _ _ _ _) ?_)
                refine z_aload_n K dX2_fillGains_111 rfl ?_
                refine z_get (k := 20) (v := .ref (ad 24)) K dX2_fillGains_112 fl_X2_21 rfl rfl rfl ?_
                refine z_iload K dX2_fillGains_115 rfl ?_
                refine z_aload_n K dX2_fillGains_117 rfl ?_
                refine z_get (k := 20) (v := .ref (ad 25)) K dX2_fillGains_118 fl_X2_37 rfl rfl rfl ?_
                refine z_get (k := 25) (v := .ref (ad 27)) K dX2_fillGains_121 fl_X2_145 rfl rfl rfl ?_
                refine z_iload_n K dX2_fillGains_124 rfl ?_
                refine z_iald (k := 27) (v := e q) K dX2_fillGains_125 q rfl (by decide) (by omega) (by omega) rfl ?_
                refine z_iload K dX2_fillGains_126 rfl ?_
                refine z_aload_n K dX2_fillGains_128 rfl ?_
                refine z_get (k := 20) (v := .ref (ad 17)) K dX2_fillGains_129 fl_X2_28 rfl rfl rfl ?_
                refine z_iload_n K dX2_fillGains_132 rfl ?_
                refine z_callVd K hl1 hg1 (kb := 17) (As := [.int (zi ((q : Nat) : Int))]) (rest := [.int (zi ((b : Nat) : Int)), .int (zi (e q)), .int (zi ((3 * a + b : Nat) : Int)), .ref (ad 24)]) (ct_rowOf la g0 ad (zup (zup (zup (zup μ 23 (zu1 g (3 * a + b) ((e p) - (0 : Int)))) 24 h) 26 d) 27 e) n nc hp hv.1 q hqq) (by decide) lk_X2_148 cd_X1_rowOf rfl rfl rfl rfl (Nat.le_of_ble_eq_true rfl) dX2_fillGains_133 ?_
                show zV χ 6 ad zSH 0 0 136 [(0, .ref (ad 20)), (1, .int (zi ((p : Nat) : Int))), (2, .int (zi ((q : Nat) : Int))), (3, .int (zi ((a : Nat) : Int))), (4, .int (zi ((b : Nat) : Int))), (5, .int (zi ((3 * a + b : Nat) : Int)))] [.int (zi (μ 18 (18 + q))), .int (zi ((b : Nat) : Int)), .int (zi (e q)), .int (zi ((3 * a + b : Nat) : Int)), .ref (ad 24)] (zup (zup (zup (zup μ 23 (zu1 g (3 * a + b) ((e p) - (0 : Int)))) 24 h) 26 d) 27 e)
                refine z_icmpne (tgt := 143) K dX2_fillGains_136 (by decide) (by omega) (by omega) (fun h136 => ?_) (fun h136 => ?_)
                · refine z_iconst K dX2_fillGains_143 ?_
                  refine z_isub K dX2_fillGains_144 ?_
                  refine z_iast (k := 24) K dX2_fillGains_145 (3 * a + b) rfl (by decide) (by omega) (by omega) (z_mem (ν := zup (zup (zup (zup μ 23 (zu1 g (3 * a + b) ((e p) - (0 : Int)))) 24 (zu1 h (3 * a + b) ((e q) - (1 : Int)))) 26 d) 27 e) (zup_sw3 _ (by decide) (by decide) _ _ _ _) ?_)
                  refine z_iincN (lv' := [(0, .ref (ad 20)), (1, .int (zi ((p : Nat) : Int))), (2, .int (zi ((q : Nat) : Int))), (3, .int (zi ((a : Nat) : Int))), (4, .int (zi ((b + 1 : Nat) : Int))), (5, .int (zi ((3 * a + b : Nat) : Int)))]) K dX2_fillGains_146 rfl (by decide) rfl ?_
                  refine z_goto (tgt := 10) K dX2_fillGains_149 (by decide) ?_
                  refine z_ipick [0, 1, 2, 3, 4] rfl ?_
                  exact ih2 (b + 1) (by omega) (by omega) _ _ _ _ (fun i j h7 h8 h9 => by
                    by_cases e7 : 3 * i + j = 3 * a + b
                    · have e5 : i = a := by omega
                      have e6 : j = b := by omega
                      subst e5; subst e6
                      refine ⟨?_, ?_⟩
                      · rw [zu1_eq]; unfold zg1 zrs; rw [show (3 : Nat) = t by omega, hF]; first | rw [if_pos h101] | rw [if_neg h101]
                      · rw [zu1_eq]; unfold zg2 zrs; rw [show (3 : Nat) = t by omega, hF]; first | rw [if_pos h136] | rw [if_neg h136]
                    · rw [zu1_ne _ _ e7, zu1_ne _ _ e7]; exact hgh i j h7 h8 (by omega))
                · refine z_iconst K dX2_fillGains_139 ?_
                  refine z_goto (tgt := 144) K dX2_fillGains_140 (by decide) ?_
                  refine z_isub K dX2_fillGains_144 ?_
                  refine z_iast (k := 24) K dX2_fillGains_145 (3 * a + b) rfl (by decide) (by omega) (by omega) (z_mem (ν := zup (zup (zup (zup μ 23 (zu1 g (3 * a + b) ((e p) - (0 : Int)))) 24 (zu1 h (3 * a + b) ((e q) - (0 : Int)))) 26 d) 27 e) (zup_sw3 _ (by decide) (by decide) _ _ _ _) ?_)
                  refine z_iincN (lv' := [(0, .ref (ad 20)), (1, .int (zi ((p : Nat) : Int))), (2, .int (zi ((q : Nat) : Int))), (3, .int (zi ((a : Nat) : Int))), (4, .int (zi ((b + 1 : Nat) : Int))), (5, .int (zi ((3 * a + b : Nat) : Int)))]) K dX2_fillGains_146 rfl (by decide) rfl ?_
                  refine z_goto (tgt := 10) K dX2_fillGains_149 (by decide) ?_
                  refine z_ipick [0, 1, 2, 3, 4] rfl ?_
                  exact ih2 (b + 1) (by omega) (by omega) _ _ _ _ (fun i j h7 h8 h9 => by
                    by_cases e7 : 3 * i + j = 3 * a + b
                    · have e5 : i = a := by omega
                      have e6 : j = b := by omega
                      subst e5; subst e6
                      refine ⟨?_, ?_⟩
                      · rw [zu1_eq]; unfold zg1 zrs; rw [show (3 : Nat) = t by omega, hF]; first | rw [if_pos h101] | rw [if_neg h101]
                      · rw [zu1_eq]; unfold zg2 zrs; rw [show (3 : Nat) = t by omega, hF]; first | rw [if_pos h136] | rw [if_neg h136]
                    · rw [zu1_ne _ _ e7, zu1_ne _ _ e7]; exact hgh i j h7 h8 (by omega))
            · refine z_aload_n K dX2_fillGains_55 rfl ?_
              refine z_get (k := 20) (v := .ref (ad 25)) K dX2_fillGains_56 fl_X2_37 rfl rfl rfl ?_
              refine z_callVd K hl1 hg1 (kb := 25) (As := []) (rest := []) (ct_passDay_t la g0 ad (zup (zup μ 23 g) 24 h) n nc hp d e hdv) (by decide) lk_X2_44 cd_X1_passDay rfl rfl rfl rfl (Nat.le_of_ble_eq_true rfl) dX2_fillGains_59 ?_
              show zV χ 6 ad zSH 0 0 62 [(0, .ref (ad 20)), (1, .int (zi ((p : Nat) : Int))), (2, .int (zi ((q : Nat) : Int))), (3, .int (zi ((a : Nat) : Int))), (4, .int (zi ((b : Nat) : Int))), (5, .int (zi ((t : Nat) : Int)))] [.int (zi ((zdayM n (μ 13) (μ 14) nc (μ 16) (d, e) : Nat) : Int))] (zup (zup (zup (zup μ 23 g) 24 h) 26 ((zday n (μ 13) (μ 14) nc (μ 16) (d, e)).1)) 27 ((zday n (μ 13) (μ 14) nc (μ 16) (d, e)).2))
              refine z_pop K dX2_fillGains_62 rfl ?_
              refine z_iincN (lv' := [(0, .ref (ad 20)), (1, .int (zi ((p : Nat) : Int))), (2, .int (zi ((q : Nat) : Int))), (3, .int (zi ((a : Nat) : Int))), (4, .int (zi ((b : Nat) : Int))), (5, .int (zi ((t + 1 : Nat) : Int)))]) K dX2_fillGains_63 rfl (by decide) rfl ?_
              refine z_goto (tgt := 49) K dX2_fillGains_66 (by decide) ?_
              exact ih3 (t + 1) (by omega) (by omega) _ _ (by show zday n (μ 13) (μ 14) nc (μ 16) (zdays n (μ 13) (μ 14) nc (μ 16) t (zu1 (zu1 (μ 18) (18 + p) ((a : Nat) : Int)) (18 + q) ((b : Nat) : Int), zz0)) = _; rw [hF])
          exact L49 0 (by omega) _ _ rfl
      exact L10 0 (by omega) g h x y (fun i j h7 h8 h9 => hgh i j h7 h8 (by omega))
  exact L2 0 (by omega) g h x y (fun i j _ _ h9 => absurd h9 (by omega))
set_option maxHeartbeats 4000000 in
set_option maxRecDepth 100000 in
theorem ct_isRest (la : Launch) (g0 : zG) (ad : Nat → Nat) (μ : zMem) (a b : Nat) (ha : a < 3) (hb : b < 3) (hg : ∀ i, i < 9 → -1 ≤ μ 23 i ∧ μ 23 i ≤ 9 ∧ -1 ≤ μ 24 i ∧ μ 24 i ≤ 9) : zCon la g0 yX2_isRest cX2_isRest 5 (some .boolean) 0 ad zSH [.ref (ad 20), .int (zi ((a : Nat) : Int)), .int (zi ((b : Nat) : Int))] μ (zPd μ (zir (μ 23) (μ 24) a b 3)) := by
  refine zCon_of (by decide +kernel) (Nat.le_of_ble_eq_true rfl) ?_
  intro χ K T hl1 hg1
  have K : zOk χ cX2_isRest RX2 5 0 (some .boolean) := K
  have h0 := hg (3 * a + b) (by omega)
  show zV χ 5 ad zSH 0 0 0 [(0, .ref (ad 20)), (1, .int (zi ((a : Nat) : Int))), (2, .int (zi ((b : Nat) : Int)))] [] μ
  refine z_iconst K dX2_isRest_0 ?_
  refine z_iload_n K dX2_isRest_1 rfl ?_
  refine z_imul K dX2_isRest_2 ?_
  refine z_iload_n K dX2_isRest_3 rfl ?_
  refine z_iadd K dX2_isRest_4 ?_
  rw [show (((3 : Int) * ((a : Nat) : Int)) + ((b : Nat) : Int)) = ((3 * a + b : Nat) : Int) from (by omega)]
  refine z_istore_n (lv' := [(0, .ref (ad 20)), (1, .int (zi ((a : Nat) : Int))), (2, .int (zi ((b : Nat) : Int))), (3, .int (zi ((3 * a + b : Nat) : Int)))]) K dX2_isRest_5 (by decide) rfl ?_
  refine z_iconst K dX2_isRest_6 ?_
  refine z_istore (lv' := [(0, .ref (ad 20)), (1, .int (zi ((a : Nat) : Int))), (2, .int (zi ((b : Nat) : Int))), (3, .int (zi ((3 * a + b : Nat) : Int))), (4, .int (zi (0 : Int)))]) K dX2_isRest_7 (by decide) rfl ?_
  have L9 : ∀ r, r ≤ 3 → zir (μ 23) (μ 24) a b r = 1 → zV χ 5 ad zSH 0 0 9 [(0, .ref (ad 20)), (1, .int (zi ((a : Nat) : Int))), (2, .int (zi ((b : Nat) : Int))), (3, .int (zi ((3 * a + b : Nat) : Int))), (4, .int (zi ((r : Nat) : Int)))] [] μ := by
    refine zfor ?_
    intro r hr ih hF
    refine z_iload K dX2_isRest_9 rfl ?_
    refine z_iconst K dX2_isRest_11 ?_
    refine z_icmpge (tgt := 63) K dX2_isRest_12 (by decide) (by omega) ⟨by decide, by decide⟩ (fun h12 => ?_) (fun h12 => ?_)
    · refine z_iconst K dX2_isRest_63 ?_
      exact z_zretd K T rfl dX2_isRest_64 (Or.inr rfl) (by rw [← show r = 3 by omega, hF]) rfl
    · have h1 := hg (3 * r + b) (by omega)
      have h2 := hg (3 * a + r) (by omega)
      refine z_aload_n K dX2_isRest_15 rfl ?_
      refine z_get (k := 20) (v := .ref (ad 23)) K dX2_isRest_16 fl_X2_18 rfl rfl rfl ?_
      refine z_iconst K dX2_isRest_19 ?_
      refine z_iload K dX2_isRest_20 rfl ?_
      refine z_imul K dX2_isRest_22 ?_
      refine z_iload_n K dX2_isRest_23 rfl ?_
      refine z_iadd K dX2_isRest_24 ?_
      rw [show (((3 : Int) * ((r : Nat) : Int)) + ((b : Nat) : Int)) = ((3 * r + b : Nat) : Int) from (by omega)]
      refine z_iald (k := 23) (v := μ 23 (3 * r + b)) K dX2_isRest_25 (3 * r + b) rfl (by decide) (by omega) (by omega) rfl ?_
      refine z_aload_n K dX2_isRest_26 rfl ?_
      refine z_get (k := 20) (v := .ref (ad 23)) K dX2_isRest_27 fl_X2_18 rfl rfl rfl ?_
      refine z_iload_n K dX2_isRest_30 rfl ?_
      refine z_iald (k := 23) (v := μ 23 (3 * a + b)) K dX2_isRest_31 (3 * a + b) rfl (by decide) (by omega) (by omega) rfl ?_
      refine z_icmpgt (tgt := 55) K dX2_isRest_32 (by decide) (by omega) (by omega) (fun h32 => ?_) (fun h32 => ?_)
      · refine z_iconst K dX2_isRest_55 ?_
        exact z_zretd K T rfl dX2_isRest_56 (Or.inl rfl) (zir_no _ _ _ _ (r := r) (by omega) 3 (by omega)).symm rfl
      · refine z_aload_n K dX2_isRest_35 rfl ?_
        refine z_get (k := 20) (v := .ref (ad 24)) K dX2_isRest_36 fl_X2_21 rfl rfl rfl ?_
        refine z_iconst K dX2_isRest_39 ?_
        refine z_iload_n K dX2_isRest_40 rfl ?_
        refine z_imul K dX2_isRest_41 ?_
        refine z_iload K dX2_isRest_42 rfl ?_
        refine z_iadd K dX2_isRest_44 ?_
        rw [show (((3 : Int) * ((a : Nat) : Int)) + ((r : Nat) : Int)) = ((3 * a + r : Nat) : Int) from (by omega)]
        refine z_iald (k := 24) (v := μ 24 (3 * a + r)) K dX2_isRest_45 (3 * a + r) rfl (by decide) (by omega) (by omega) rfl ?_
        refine z_aload_n K dX2_isRest_46 rfl ?_
        refine z_get (k := 20) (v := .ref (ad 24)) K dX2_isRest_47 fl_X2_21 rfl rfl rfl ?_
        refine z_iload_n K dX2_isRest_50 rfl ?_
        refine z_iald (k := 24) (v := μ 24 (3 * a + b)) K dX2_isRest_51 (3 * a + b) rfl (by decide) (by omega) (by omega) rfl ?_
        refine z_icmple (tgt := 57) K dX2_isRest_52 (by decide) (by omega) (by omega) (fun h52 => ?_) (fun h52 => ?_)
        · refine z_iincN (lv' := [(0, .ref (ad 20)), (1, .int (zi ((a : Nat) : Int))), (2, .int (zi ((b : Nat) : Int))), (3, .int (zi ((3 * a + b : Nat) : Int))), (4, .int (zi ((r + 1 : Nat) : Int)))]) K dX2_isRest_57 rfl (by decide) rfl ?_
          refine z_goto (tgt := 9) K dX2_isRest_60 (by decide) ?_
          exact ih (r + 1) (by omega) (by omega) (by rw [zir_s, if_pos ⟨hF, by omega, by omega⟩])
        · refine z_iconst K dX2_isRest_55 ?_
          exact z_zretd K T rfl dX2_isRest_56 (Or.inl rfl) (zir_no _ _ _ _ (r := r) (by omega) 3 (by omega)).symm rfl
  exact L9 0 (by omega) rfl
def zSc4 (μ : zMem) (X : Int) : Int → zMem → Prop := fun r ν => r = X ∧ ∃ g h x y, ν = zup (zup (zup (zup μ 23 g) 24 h) 26 x) 27 y
theorem zir_cg {g h g' h' : Nat → Int} (hg : ∀ k, k < 9 → g k = g' k ∧ h k = h' k) {a b : Nat} (ha : a < 3) (hb : b < 3) : ∀ r, r ≤ 3 → zir g h a b r = zir g' h' a b r := by
  intro r
  induction r with
  | zero => intro _; rfl
  | succ r ih =>
    intro hr
    rw [zir_s, zir_s, ih (by omega), (hg (3 * r + b) (by omega)).1, (hg (3 * a + b) (by omega)).1, (hg (3 * a + r) (by omega)).2, (hg (3 * a + b) (by omega)).2]
theorem zrc_cg {t t' : Nat → Nat → Int} (h : ∀ a b, a < 3 → b < 3 → t a b = t' a b) : ∀ k, k ≤ 9 → zrc t k = zrc t' k := by
  intro k
  induction k with
  | zero => intro _; rfl
  | succ k ih => intro hk; rw [zrc_s, zrc_s, ih (by omega), h (k / 3) (k % 3) (by omega) (by omega)]
theorem zir_rg (g h : Nat → Int) (a b : Nat) : ∀ r, zir g h a b r = 0 ∨ zir g h a b r = 1 := by
  intro r
  cases r
  · exact Or.inr rfl
  · rw [zir_s]; split <;> omega
set_option maxHeartbeats 4000000 in
set_option maxRecDepth 100000 in
theorem ct_restsOf (la : Launch) (g0 : zG) (ad : Nat → Nat) (μ : zMem) (n nc : Nat) (hp : zPlan μ n nc) (hv : zHV n nc (μ 18)) (x y : Nat → Int) (g h : Nat → Int) (p q : Nat) (hpp : p < nc) (hqq : q < nc) (f : Int) (hf : f = 0 ∨ f = 1) : zCon la g0 yX2_restsOf cX2_restsOf 8 (some .int) 5 ad zSH [.ref (ad 20), .int (zi ((p : Nat) : Int)), .int (zi ((q : Nat) : Int)), .int (zi f)] (zup (zup (zup (zup μ 23 g) 24 h) 26 x) 27 y) (zPi (zSc4 μ (if f = 0 then (zrc (fun a b => zir (fun k => zg1 n (μ 13) (μ 14) nc (μ 16) (μ 18) p q (k / 3) (k % 3)) (fun k => zg2 n (μ 13) (μ 14) nc (μ 16) (μ 18) p q (k / 3) (k % 3)) a b 3) 9).1 else (zrc (fun a b => zir (fun k => zg1 n (μ 13) (μ 14) nc (μ 16) (μ 18) p q (k / 3) (k % 3)) (fun k => zg2 n (μ 13) (μ 14) nc (μ 16) (μ 18) p q (k / 3) (k % 3)) a b 3) 9).2))) := by
  refine zCon_of (by decide +kernel) (Nat.le_of_ble_eq_true rfl) ?_
  intro χ K T hl1 hg1
  have K : zOk χ cX2_restsOf RX2 8 5 (some .int) := K
  obtain ⟨hn, hn6, hnc, hnc3, hpl, hpk⟩ := id hp
  show zV χ 8 ad zSH 0 0 0 [(0, .ref (ad 20)), (1, .int (zi ((p : Nat) : Int))), (2, .int (zi ((q : Nat) : Int))), (3, .int (zi f))] [] (zup (zup (zup (zup μ 23 g) 24 h) 26 x) 27 y)
  refine z_aload_n K dX2_restsOf_0 rfl ?_
  refine z_iload_n K dX2_restsOf_1 rfl ?_
  refine z_iload_n K dX2_restsOf_2 rfl ?_
  refine z_callVv K hl1 hg1 (kb := 20) (As := [.int (zi ((p : Nat) : Int)), .int (zi ((q : Nat) : Int))]) (rest := []) (ct_fillGains la g0 ad μ n nc hp hv x y g h p q hpp hqq) (by decide) lk_X2_139 cd_X2_fillGains rfl rfl rfl rfl (Nat.le_of_ble_eq_true rfl) dX2_restsOf_3 (fun ν h3 => ?_)
  obtain ⟨g, h, x2, y2, hν, hgh⟩ := h3
  subst hν
  have hgg : ∀ k, k < 9 → g k = zg1 n (μ 13) (μ 14) nc (μ 16) (μ 18) p q (k / 3) (k % 3) ∧ h k = zg2 n (μ 13) (μ 14) nc (μ 16) (μ 18) p q (k / 3) (k % 3) := fun k hk => by
    have := hgh (k / 3) (k % 3) (by omega) (by omega) (by omega)
    rw [show 3 * (k / 3) + k % 3 = k by omega] at this
    exact this
  have hr9 : ∀ i, i < 9 → -1 ≤ g i ∧ g i ≤ 9 ∧ -1 ≤ h i ∧ h i ≤ 9 := fun i hi => by
    have h1 := zg1_rg hp.pk (μ 18) p q (i / 3) (i % 3)
    have h2 := zg2_rg hp.pk (μ 18) p q (i / 3) (i % 3)
    have h3 := hgg i hi
    omega
  refine z_iconst K dX2_restsOf_6 ?_
  refine z_istore (lv' := [(0, .ref (ad 20)), (1, .int (zi ((p : Nat) : Int))), (2, .int (zi ((q : Nat) : Int))), (3, .int (zi f)), (4, .int (zi (0 : Int)))]) K dX2_restsOf_7 (by decide) rfl ?_
  refine z_bipush K dX2_restsOf_9 (by decide +kernel) ?_
  refine z_istore (lv' := [(0, .ref (ad 20)), (1, .int (zi ((p : Nat) : Int))), (2, .int (zi ((q : Nat) : Int))), (3, .int (zi f)), (4, .int (zi (0 : Int))), (5, .int (zi (-9 : Int)))]) K dX2_restsOf_11 (by decide) rfl ?_
  refine z_iconst K dX2_restsOf_13 ?_
  refine z_istore (lv' := [(0, .ref (ad 20)), (1, .int (zi ((p : Nat) : Int))), (2, .int (zi ((q : Nat) : Int))), (3, .int (zi f)), (4, .int (zi (0 : Int))), (5, .int (zi (-9 : Int))), (6, .int (zi (0 : Int)))]) K dX2_restsOf_14 (by decide) rfl ?_
  have L16 : ∀ a, a ≤ 3 → zV χ 8 ad zSH 0 0 16 [(0, .ref (ad 20)), (1, .int (zi ((p : Nat) : Int))), (2, .int (zi ((q : Nat) : Int))), (3, .int (zi f)), (4, .int (zi ((zrc (fun a b => zir g h a b 3) (3 * a)).1))), (5, .int (zi ((zrc (fun a b => zir g h a b 3) (3 * a)).2))), (6, .int (zi ((a : Nat) : Int)))] [] (zup (zup (zup (zup μ 23 g) 24 h) 26 x2) 27 y2) := by
    refine zfor ?_
    intro a ha ih
    refine z_iload K dX2_restsOf_16 rfl ?_
    refine z_iconst K dX2_restsOf_18 ?_
    refine z_icmpge (tgt := 72) K dX2_restsOf_19 (by decide) (by omega) ⟨by decide, by decide⟩ (fun h19 => ?_) (fun h19 => ?_)
    · refine z_iload_n K dX2_restsOf_72 rfl ?_
      refine z_ifeq (tgt := 81) K dX2_restsOf_73 (by decide) (by omega) (fun h73 => ?_) (fun h73 => ?_)
      · refine z_iload K dX2_restsOf_81 rfl ?_
        exact z_ireti K T rfl dX2_restsOf_83 ⟨(by
            rw [← zrc_cg (t := (fun a b => zir g h a b 3)) (fun a b ha hb => zir_cg hgg ha hb 3 (by omega)) 9 (by omega)]
            rw [if_pos h73, show 9 = 3 * a by omega]), _, _, _, _, rfl⟩
      · refine z_iload K dX2_restsOf_76 rfl ?_
        refine z_goto (tgt := 83) K dX2_restsOf_78 (by decide) ?_
        exact z_ireti K T rfl dX2_restsOf_83 ⟨(by
            rw [← zrc_cg (t := (fun a b => zir g h a b 3)) (fun a b ha hb => zir_cg hgg ha hb 3 (by omega)) 9 (by omega)]
            rw [if_neg h73, show 9 = 3 * a by omega]), _, _, _, _, rfl⟩
    · refine z_iconst K dX2_restsOf_22 ?_
      refine z_istore (lv' := [(0, .ref (ad 20)), (1, .int (zi ((p : Nat) : Int))), (2, .int (zi ((q : Nat) : Int))), (3, .int (zi f)), (4, .int (zi ((zrc (fun a b => zir g h a b 3) (3 * a)).1))), (5, .int (zi ((zrc (fun a b => zir g h a b 3) (3 * a)).2))), (6, .int (zi ((a : Nat) : Int))), (7, .int (zi (0 : Int)))]) K dX2_restsOf_23 (by decide) rfl ?_
      have L25 : ∀ b, b ≤ 3 → zV χ 8 ad zSH 0 0 25 [(0, .ref (ad 20)), (1, .int (zi ((p : Nat) : Int))), (2, .int (zi ((q : Nat) : Int))), (3, .int (zi f)), (4, .int (zi ((zrc (fun a b => zir g h a b 3) (3 * a + b)).1))), (5, .int (zi ((zrc (fun a b => zir g h a b 3) (3 * a + b)).2))), (6, .int (zi ((a : Nat) : Int))), (7, .int (zi ((b : Nat) : Int)))] [] (zup (zup (zup (zup μ 23 g) 24 h) 26 x2) 27 y2) := by
        refine zfor ?_
        intro b hb ih2
        have hrc := zrc_rg (fun a b => zir g h a b 3) (3 * a + b)
        refine z_iload K dX2_restsOf_25 rfl ?_
        refine z_iconst K dX2_restsOf_27 ?_
        refine z_icmpge (tgt := 66) K dX2_restsOf_28 (by decide) (by omega) ⟨by decide, by decide⟩ (fun h28 => ?_) (fun h28 => ?_)
        · refine z_iincN (lv' := [(0, .ref (ad 20)), (1, .int (zi ((p : Nat) : Int))), (2, .int (zi ((q : Nat) : Int))), (3, .int (zi f)), (4, .int (zi ((zrc (fun a b => zir g h a b 3) (3 * a + b)).1))), (5, .int (zi ((zrc (fun a b => zir g h a b 3) (3 * a + b)).2))), (6, .int (zi ((a + 1 : Nat) : Int))), (7, .int (zi ((b : Nat) : Int)))]) K dX2_restsOf_66 rfl (by decide) rfl ?_
          refine z_goto (tgt := 16) K dX2_restsOf_69 (by decide) ?_
          refine z_ipick [0, 1, 2, 3, 4, 5, 6] rfl ?_
          have q9 := ih (a + 1) (by omega) (by omega)
          rw [show 3 * (a + 1) = 3 * a + b by omega] at q9
          exact q9
        · refine z_aload_n K dX2_restsOf_31 rfl ?_
          refine z_iload K dX2_restsOf_32 rfl ?_
          refine z_iload K dX2_restsOf_34 rfl ?_
          have hir := zir_rg g h a b 3
          refine z_callVd K hl1 hg1 (kb := 20) (As := [.int (zi ((a : Nat) : Int)), .int (zi ((b : Nat) : Int))]) (rest := []) (ct_isRest la g0 ad (zup (zup (zup (zup μ 23 g) 24 h) 26 x2) 27 y2) a b (by omega) (by omega) hr9) (by decide) lk_X2_142 cd_X2_isRest rfl rfl rfl rfl (Nat.le_of_ble_eq_true rfl) dX2_restsOf_36 ?_
          show zV χ 8 ad zSH 0 0 39 [(0, .ref (ad 20)), (1, .int (zi ((p : Nat) : Int))), (2, .int (zi ((q : Nat) : Int))), (3, .int (zi f)), (4, .int (zi ((zrc (fun a b => zir g h a b 3) (3 * a + b)).1))), (5, .int (zi ((zrc (fun a b => zir g h a b 3) (3 * a + b)).2))), (6, .int (zi ((a : Nat) : Int))), (7, .int (zi ((b : Nat) : Int)))] [.int (zi (zir g h a b 3))] (zup (zup (zup (zup μ 23 g) 24 h) 26 x2) 27 y2)
          refine z_ifeq (tgt := 60) K dX2_restsOf_39 (by decide) (by omega) (fun h39 => ?_) (fun h39 => ?_)
          · refine z_iincN (lv' := [(0, .ref (ad 20)), (1, .int (zi ((p : Nat) : Int))), (2, .int (zi ((q : Nat) : Int))), (3, .int (zi f)), (4, .int (zi ((zrc (fun a b => zir g h a b 3) (3 * a + b)).1))), (5, .int (zi ((zrc (fun a b => zir g h a b 3) (3 * a + b)).2))), (6, .int (zi ((a : Nat) : Int))), (7, .int (zi ((b + 1 : Nat) : Int)))]) K dX2_restsOf_60 rfl (by decide) rfl ?_
            refine z_goto (tgt := 25) K dX2_restsOf_63 (by decide) ?_
            have e9 : zrc (fun a b => zir g h a b 3) (3 * a + (b + 1)) = ((zrc (fun a b => zir g h a b 3) (3 * a + b)).1, (zrc (fun a b => zir g h a b 3) (3 * a + b)).2) := by
              rw [show 3 * a + (b + 1) = (3 * a + b) + 1 by omega, zrc_s, show (3 * a + b) / 3 = a by omega, show (3 * a + b) % 3 = b by omega]
              rw [if_pos h39]
            have q9 := ih2 (b + 1) (by omega) (by omega)
            rw [e9] at q9
            exact q9
          · refine z_iload K dX2_restsOf_42 rfl ?_
            refine z_ifne (tgt := 57) K dX2_restsOf_44 (by decide) (by omega) (fun h44 => ?_) (fun h44 => ?_)
            · refine z_iinc (lv' := [(0, .ref (ad 20)), (1, .int (zi ((p : Nat) : Int))), (2, .int (zi ((q : Nat) : Int))), (3, .int (zi f)), (4, .int (zi ((zrc (fun a b => zir g h a b 3) (3 * a + b)).1 + (1 : Int)))), (5, .int (zi ((zrc (fun a b => zir g h a b 3) (3 * a + b)).2))), (6, .int (zi ((a : Nat) : Int))), (7, .int (zi ((b : Nat) : Int)))]) K dX2_restsOf_57 rfl (by decide) rfl ?_
              refine z_iincN (lv' := [(0, .ref (ad 20)), (1, .int (zi ((p : Nat) : Int))), (2, .int (zi ((q : Nat) : Int))), (3, .int (zi f)), (4, .int (zi ((zrc (fun a b => zir g h a b 3) (3 * a + b)).1 + (1 : Int)))), (5, .int (zi ((zrc (fun a b => zir g h a b 3) (3 * a + b)).2))), (6, .int (zi ((a : Nat) : Int))), (7, .int (zi ((b + 1 : Nat) : Int)))]) K dX2_restsOf_60 rfl (by decide) rfl ?_
              refine z_goto (tgt := 25) K dX2_restsOf_63 (by decide) ?_
              have e9 : zrc (fun a b => zir g h a b 3) (3 * a + (b + 1)) = ((zrc (fun a b => zir g h a b 3) (3 * a + b)).1 + (1 : Int), (zrc (fun a b => zir g h a b 3) (3 * a + b)).2) := by
                rw [show 3 * a + (b + 1) = (3 * a + b) + 1 by omega, zrc_s, show (3 * a + b) / 3 = a by omega, show (3 * a + b) % 3 = b by omega]
                rw [if_neg h39, if_neg h44]
              have q9 := ih2 (b + 1) (by omega) (by omega)
              rw [e9] at q9
              exact q9
            · refine z_bipush K dX2_restsOf_47 (by decide +kernel) ?_
              refine z_iload K dX2_restsOf_49 rfl ?_
              refine z_imul K dX2_restsOf_51 ?_
              refine z_iload K dX2_restsOf_52 rfl ?_
              refine z_iadd K dX2_restsOf_54 ?_
              rw [show (((10 : Int) * ((a : Nat) : Int)) + ((b : Nat) : Int)) = ((10 * a + b : Nat) : Int) from (by omega)]
              refine z_istore (lv' := [(0, .ref (ad 20)), (1, .int (zi ((p : Nat) : Int))), (2, .int (zi ((q : Nat) : Int))), (3, .int (zi f)), (4, .int (zi ((zrc (fun a b => zir g h a b 3) (3 * a + b)).1))), (5, .int (zi ((10 * a + b : Nat) : Int))), (6, .int (zi ((a : Nat) : Int))), (7, .int (zi ((b : Nat) : Int)))]) K dX2_restsOf_55 (by decide) rfl ?_
              refine z_iinc (lv' := [(0, .ref (ad 20)), (1, .int (zi ((p : Nat) : Int))), (2, .int (zi ((q : Nat) : Int))), (3, .int (zi f)), (4, .int (zi ((zrc (fun a b => zir g h a b 3) (3 * a + b)).1 + (1 : Int)))), (5, .int (zi ((10 * a + b : Nat) : Int))), (6, .int (zi ((a : Nat) : Int))), (7, .int (zi ((b : Nat) : Int)))]) K dX2_restsOf_57 rfl (by decide) rfl ?_
              refine z_iincN (lv' := [(0, .ref (ad 20)), (1, .int (zi ((p : Nat) : Int))), (2, .int (zi ((q : Nat) : Int))), (3, .int (zi f)), (4, .int (zi ((zrc (fun a b => zir g h a b 3) (3 * a + b)).1 + (1 : Int)))), (5, .int (zi ((10 * a + b : Nat) : Int))), (6, .int (zi ((a : Nat) : Int))), (7, .int (zi ((b + 1 : Nat) : Int)))]) K dX2_restsOf_60 rfl (by decide) rfl ?_
              refine z_goto (tgt := 25) K dX2_restsOf_63 (by decide) ?_
              have e9 : zrc (fun a b => zir g h a b 3) (3 * a + (b + 1)) = ((zrc (fun a b => zir g h a b 3) (3 * a + b)).1 + (1 : Int), ((10 * a + b : Nat) : Int)) := by
                rw [show 3 * a + (b + 1) = (3 * a + b) + 1 by omega, zrc_s, show (3 * a + b) / 3 = a by omega, show (3 * a + b) % 3 = b by omega]
                rw [if_neg h39, if_pos h44]
              have q9 := ih2 (b + 1) (by omega) (by omega)
              rw [e9] at q9
              exact q9
      exact L25 0 (by omega)
  exact L16 0 (by omega)
set_option maxHeartbeats 4000000 in
set_option maxRecDepth 100000 in
theorem ct_waitAlone (la : Launch) (g0 : zG) (ad : Nat → Nat) (μ : zMem) (w k : Int) (hw : 0 ≤ w ∧ w ≤ 9) (hk : 0 ≤ k ∧ k ≤ 3) : zCon la g0 yX8_waitAlone cX8_waitAlone 2 (some .int) 1 ad zSH [.int (zi w), .int (zi k)] μ (zPd μ (zal w k)) := by
  refine zCon_of (by decide +kernel) (Nat.le_of_ble_eq_true rfl) ?_
  intro χ K T hl1 hg1
  have K : zOk χ cX8_waitAlone RX8 2 1 (some .int) := K
  show zV χ 2 ad zSH 0 0 0 [(0, .int (zi w)), (1, .int (zi k))] [] μ
  refine z_iload_n K dX8_waitAlone_0 rfl ?_
  refine z_iconst K dX8_waitAlone_1 ?_
  refine z_icmpne (tgt := 15) K dX8_waitAlone_2 (by decide) (by omega) ⟨by decide, by decide⟩ (fun h2 => ?_) (fun h2 => ?_)
  · refine z_iload_n K dX8_waitAlone_15 rfl ?_
    exact z_iretd K T rfl dX8_waitAlone_16 (by unfold zal; rw [if_neg h2]) rfl
  · refine z_iconst K dX8_waitAlone_5 ?_
    refine z_iload_n K dX8_waitAlone_6 rfl ?_
    refine z_iconst K dX8_waitAlone_7 ?_
    refine z_idiv K dX8_waitAlone_8 (by omega) (by omega) ?_
    refine z_max K dX8_waitAlone_9 lk_X8_253 (by decide) ⟨by decide, by decide⟩ (by omega) (Nat.le_of_ble_eq_true rfl) ?_
    refine z_goto (tgt := 16) K dX8_waitAlone_12 (by decide) ?_
    exact z_iretd K T rfl dX8_waitAlone_16 (by unfold zal; rw [if_pos h2]) rfl
set_option maxHeartbeats 4000000 in
set_option maxRecDepth 100000 in
theorem ct_fits (la : Launch) (g0 : zG) (ad : Nat → Nat) (μ : zMem) (t : Nat) (ht : μ 34 2 = (t : Int)) (ht6 : t ≤ 6) (hd : ∀ i, i < t → 0 ≤ μ 35 i ∧ μ 35 i ≤ 9 ∧ (μ 36 i = 0 ∨ μ 36 i = 1)) (x : Int) (hx : zR x) : zCon la g0 yX7_fits cX7_fits 3 (some .boolean) 0 ad zSH [.ref (ad 34), .int (zi x)] μ (zPd μ (zfit (μ 35) (μ 36) x t)) := by
  refine zCon_of (by decide +kernel) (Nat.le_of_ble_eq_true rfl) ?_
  intro χ K T hl1 hg1
  have K : zOk χ cX7_fits RX7 3 0 (some .boolean) := K
  show zV χ 3 ad zSH 0 0 0 [(0, .ref (ad 34)), (1, .int (zi x))] [] μ
  refine z_iconst K dX7_fits_0 ?_
  refine z_istore_n (lv' := [(0, .ref (ad 34)), (1, .int (zi x)), (2, .int (zi (0 : Int)))]) K dX7_fits_1 (by decide) rfl ?_
  have L2 : ∀ i, i ≤ t → zfit (μ 35) (μ 36) x i = 1 → zV χ 3 ad zSH 0 0 2 [(0, .ref (ad 34)), (1, .int (zi x)), (2, .int (zi ((i : Nat) : Int)))] [] μ := by
    refine zfor ?_
    intro i hi ih hF
    refine z_iload_n K dX7_fits_2 rfl ?_
    refine z_aload_n K dX7_fits_3 rfl ?_
    refine z_get (k := 34) (v := .int (zi (μ 34 2))) K dX7_fits_4 fl_X7_19 rfl rfl rfl ?_
    refine z_icmpge (tgt := 42) K dX7_fits_7 (by decide) (by omega) (by omega) (fun h7 => ?_) (fun h7 => ?_)
    · refine z_iconst K dX7_fits_42 ?_
      exact z_zretd K T rfl dX7_fits_43 (Or.inr rfl) (by rw [← show i = t by omega, hF]) rfl
    · have hdi := hd i (by omega)
      refine z_aload_n K dX7_fits_10 rfl ?_
      refine z_get (k := 34) (v := .ref (ad 35)) K dX7_fits_11 fl_X7_9 rfl rfl rfl ?_
      refine z_iload_n K dX7_fits_14 rfl ?_
      refine z_iald (k := 35) (v := μ 35 i) K dX7_fits_15 i rfl (by decide) (by omega) (by omega) rfl ?_
      refine z_iload_n K dX7_fits_16 rfl ?_
      refine z_icmplt (tgt := 24) K dX7_fits_17 (by decide) (by omega) (by omega) (fun h17 => ?_) (fun h17 => ?_)
      · refine z_iconst K dX7_fits_24 ?_
        refine z_aload_n K dX7_fits_25 rfl ?_
        refine z_get (k := 34) (v := .ref (ad 36)) K dX7_fits_26 fl_X7_15 rfl rfl rfl ?_
        refine z_iload_n K dX7_fits_29 rfl ?_
        refine z_zald (k := 36) (v := μ 36 i) K dX7_fits_30 i rfl (by decide) (by omega) (by omega) rfl ?_
        refine z_icmpeq (tgt := 36) K dX7_fits_31 (by decide) ⟨by decide, by decide⟩ (by omega) (fun h31 => ?_) (fun h31 => ?_)
        · refine z_iincN (lv' := [(0, .ref (ad 34)), (1, .int (zi x)), (2, .int (zi ((i + 1 : Nat) : Int)))]) K dX7_fits_36 rfl (by decide) rfl ?_
          refine z_goto (tgt := 2) K dX7_fits_39 (by decide) ?_
          exact ih (i + 1) (by omega) (by omega) (by rw [zfit_s, if_pos ⟨hF, by first | (rw [if_pos h17]; omega) | (rw [if_neg (by omega)]; omega)⟩])
        · refine z_iconst K dX7_fits_34 ?_
          exact z_zretd K T rfl dX7_fits_35 (Or.inl rfl) (zfit_no _ _ _ (r := i) (by first | (rw [if_pos h17]; omega) | (rw [if_neg (by omega)]; omega)) t (by omega)).symm rfl
      · refine z_iconst K dX7_fits_20 ?_
        refine z_goto (tgt := 25) K dX7_fits_21 (by decide) ?_
        refine z_aload_n K dX7_fits_25 rfl ?_
        refine z_get (k := 34) (v := .ref (ad 36)) K dX7_fits_26 fl_X7_15 rfl rfl rfl ?_
        refine z_iload_n K dX7_fits_29 rfl ?_
        refine z_zald (k := 36) (v := μ 36 i) K dX7_fits_30 i rfl (by decide) (by omega) (by omega) rfl ?_
        refine z_icmpeq (tgt := 36) K dX7_fits_31 (by decide) ⟨by decide, by decide⟩ (by omega) (fun h31 => ?_) (fun h31 => ?_)
        · refine z_iincN (lv' := [(0, .ref (ad 34)), (1, .int (zi x)), (2, .int (zi ((i + 1 : Nat) : Int)))]) K dX7_fits_36 rfl (by decide) rfl ?_
          refine z_goto (tgt := 2) K dX7_fits_39 (by decide) ?_
          exact ih (i + 1) (by omega) (by omega) (by rw [zfit_s, if_pos ⟨hF, by first | (rw [if_pos h17]; omega) | (rw [if_neg (by omega)]; omega)⟩])
        · refine z_iconst K dX7_fits_34 ?_
          exact z_zretd K T rfl dX7_fits_35 (Or.inl rfl) (zfit_no _ _ _ (r := i) (by first | (rw [if_pos h17]; omega) | (rw [if_neg (by omega)]; omega)) t (by omega)).symm rfl
  exact L2 0 (by omega) rfl
set_option maxHeartbeats 4000000 in
set_option maxRecDepth 100000 in
theorem ct_howMany (la : Launch) (g0 : zG) (ad : Nat → Nat) (μ : zMem) (t : Nat) (ht : μ 34 2 = (t : Int)) (ht6 : t ≤ 6) (hd : ∀ i, i < t → 0 ≤ μ 35 i ∧ μ 35 i ≤ 9 ∧ (μ 36 i = 0 ∨ μ 36 i = 1)) : zCon la g0 yX7_howMany cX7_howMany 4 (some .int) 2 ad zSH [.ref (ad 34)] μ (zPd μ (zmy (fun x => zfit (μ 35) (μ 36) x t) 36).1) := by
  refine zCon_of (by decide +kernel) (Nat.le_of_ble_eq_true rfl) ?_
  intro χ K T hl1 hg1
  have K : zOk χ cX7_howMany RX7 4 2 (some .int) := K
  show zV χ 4 ad zSH 0 0 0 [(0, .ref (ad 34))] [] μ
  refine z_iconst K dX7_howMany_0 ?_
  refine z_istore_n (lv' := [(0, .ref (ad 34)), (1, .int (zi (0 : Int)))]) K dX7_howMany_1 (by decide) rfl ?_
  refine z_iconst K dX7_howMany_2 ?_
  refine z_istore_n (lv' := [(0, .ref (ad 34)), (1, .int (zi (0 : Int))), (2, .int (zi (0 : Int)))]) K dX7_howMany_3 (by decide) rfl ?_
  have L4 : ∀ k, k ≤ 4 →  zV χ 4 ad zSH 0 0 4 [(0, .ref (ad 34)), (1, .int (zi ((zmy (fun x => zfit (μ 35) (μ 36) x t) (9 * k)).1))), (2, .int (zi ((k : Nat) : Int)))] [] μ := by
    refine zfor ?_
    intro k hk ih
    have hrg := zmy_rg (fun x => zfit (μ 35) (μ 36) x t) (9 * k)
    refine z_iload_n K dX7_howMany_4 rfl ?_
    refine z_iconst K dX7_howMany_5 ?_
    refine z_icmpge (tgt := 44) K dX7_howMany_6 (by decide) (by omega) ⟨by decide, by decide⟩ (fun h6 => ?_) (fun h6 => ?_)
    · refine z_iload_n K dX7_howMany_44 rfl ?_
      exact z_iretd K T rfl dX7_howMany_45 (by rw [show (36 : Nat) = 9 * k by omega]) rfl
    · refine z_iconst K dX7_howMany_9 ?_
      refine z_istore_n (lv' := [(0, .ref (ad 34)), (1, .int (zi ((zmy (fun x => zfit (μ 35) (μ 36) x t) (9 * k)).1))), (2, .int (zi ((k : Nat) : Int))), (3, .int (zi (1 : Int)))]) K dX7_howMany_10 (by decide) rfl ?_
      have L11 : ∀ w, w ≤ 10 → 1 ≤ w →  zV χ 4 ad zSH 0 0 11 [(0, .ref (ad 34)), (1, .int (zi ((zmy (fun x => zfit (μ 35) (μ 36) x t) (9 * k + (w - 1))).1))), (2, .int (zi ((k : Nat) : Int))), (3, .int (zi ((w : Nat) : Int)))] [] μ := by
        refine zfor ?_
        intro w hw ih2 hw1
        have hrg := zmy_rg (fun x => zfit (μ 35) (μ 36) x t) (9 * k + (w - 1))
        refine z_iload_n K dX7_howMany_11 rfl ?_
        refine z_bipush K dX7_howMany_12 (by decide +kernel) ?_
        refine z_icmpgt (tgt := 38) K dX7_howMany_14 (by decide) (by omega) ⟨by decide, by decide⟩ (fun h14 => ?_) (fun h14 => ?_)
        · refine z_iincN (lv' := [(0, .ref (ad 34)), (1, .int (zi ((zmy (fun x => zfit (μ 35) (μ 36) x t) (9 * k + (w - 1))).1))), (2, .int (zi ((k + 1 : Nat) : Int))), (3, .int (zi ((w : Nat) : Int)))]) K dX7_howMany_38 rfl (by decide) rfl ?_
          refine z_goto (tgt := 4) K dX7_howMany_41 (by decide) ?_
          refine z_ipick [0, 1, 2] rfl ?_
          have q9 := ih (k + 1) (by omega) (by omega)
          rw [show 9 * (k + 1) = 9 * k + (w - 1) by omega] at q9
          exact q9
        · refine z_aload_n K dX7_howMany_17 rfl ?_
          refine z_iload_n K dX7_howMany_18 rfl ?_
          refine z_iload_n K dX7_howMany_19 rfl ?_
          refine z_callSd K hl1 hg1 (As := [.int (zi ((w : Nat) : Int)), .int (zi ((k : Nat) : Int))]) (rest := [.ref (ad 34)]) (ct_waitAlone la g0 ad μ ((w : Nat) : Int) ((k : Nat) : Int) ⟨by omega, by omega⟩ ⟨by omega, by omega⟩) (by decide) lk_X7_23 cd_X8_waitAlone rfl rfl (Nat.le_of_ble_eq_true rfl) dX7_howMany_20 ?_
          have hza : 0 ≤ zal ((w : Nat) : Int) ((k : Nat) : Int) ∧ zal ((w : Nat) : Int) ((k : Nat) : Int) ≤ 9 := by unfold zal; split <;> omega
          have hfr := zfit_rg (μ 35) (μ 36) (zal ((w : Nat) : Int) ((k : Nat) : Int)) t
          refine z_callVd K hl1 hg1 (kb := 34) (As := [.int (zi (zal ((w : Nat) : Int) ((k : Nat) : Int)))]) (rest := []) (ct_fits la g0 ad μ t ht ht6 hd (zal ((w : Nat) : Int) ((k : Nat) : Int)) ⟨by omega, by omega⟩) (by decide) lk_X7_27 cd_X7_fits rfl rfl rfl rfl (Nat.le_of_ble_eq_true rfl) dX7_howMany_23 ?_
          refine z_ifeq (tgt := 32) K dX7_howMany_26 (by decide) (by omega) (fun h26 => ?_) (fun h26 => ?_)
          · refine z_iincN (lv' := [(0, .ref (ad 34)), (1, .int (zi ((zmy (fun x => zfit (μ 35) (μ 36) x t) (9 * k + (w - 1))).1))), (2, .int (zi ((k : Nat) : Int))), (3, .int (zi ((w + 1 : Nat) : Int)))]) K dX7_howMany_32 rfl (by decide) rfl ?_
            refine z_goto (tgt := 11) K dX7_howMany_35 (by decide) ?_
            have e9 : (zmy (fun x => zfit (μ 35) (μ 36) x t) (9 * k + (w + 1 - 1))).1 = (zmy (fun x => zfit (μ 35) (μ 36) x t) (9 * k + (w - 1))).1 := by
              rw [show 9 * k + (w + 1 - 1) = (9 * k + (w - 1)) + 1 by omega, zmy_s, show (9 * k + (w - 1)) % 9 + 1 = w by omega, show (9 * k + (w - 1)) / 9 = k by omega]
              rw [if_pos h26]
            have q9 := ih2 (w + 1) (by omega) (by omega) (by omega)
            rw [e9] at q9
            exact q9
          · refine z_iinc (lv' := [(0, .ref (ad 34)), (1, .int (zi ((zmy (fun x => zfit (μ 35) (μ 36) x t) (9 * k + (w - 1))).1 + (1 : Int)))), (2, .int (zi ((k : Nat) : Int))), (3, .int (zi ((w : Nat) : Int)))]) K dX7_howMany_29 rfl (by decide) rfl ?_
            refine z_iincN (lv' := [(0, .ref (ad 34)), (1, .int (zi ((zmy (fun x => zfit (μ 35) (μ 36) x t) (9 * k + (w - 1))).1 + (1 : Int)))), (2, .int (zi ((k : Nat) : Int))), (3, .int (zi ((w + 1 : Nat) : Int)))]) K dX7_howMany_32 rfl (by decide) rfl ?_
            refine z_goto (tgt := 11) K dX7_howMany_35 (by decide) ?_
            have e9 : (zmy (fun x => zfit (μ 35) (μ 36) x t) (9 * k + (w + 1 - 1))).1 = (zmy (fun x => zfit (μ 35) (μ 36) x t) (9 * k + (w - 1))).1 + (1 : Int) := by
              rw [show 9 * k + (w + 1 - 1) = (9 * k + (w - 1)) + 1 by omega, zmy_s, show (9 * k + (w - 1)) % 9 + 1 = w by omega, show (9 * k + (w - 1)) / 9 = k by omega]
              rw [if_neg h26]
            have q9 := ih2 (w + 1) (by omega) (by omega) (by omega)
            rw [e9] at q9
            exact q9
      exact L11 1 (by omega) (by omega)
  exact L4 0 (by omega)
set_option maxHeartbeats 4000000 in
set_option maxRecDepth 100000 in
theorem ct_firstTold (la : Launch) (g0 : zG) (ad : Nat → Nat) (μ : zMem) (t : Nat) (ht : μ 34 2 = (t : Int)) (ht6 : t ≤ 6) (hd : ∀ i, i < t → 0 ≤ μ 35 i ∧ μ 35 i ≤ 9 ∧ (μ 36 i = 0 ∨ μ 36 i = 1)) : zCon la g0 yX7_first cX7_first 3 (some .int) 2 ad zSH [.ref (ad 34)] μ (zPd μ (zmy (fun x => zfit (μ 35) (μ 36) x t) 36).2) := by
  refine zCon_of (by decide +kernel) (Nat.le_of_ble_eq_true rfl) ?_
  intro χ K T hl1 hg1
  have K : zOk χ cX7_first RX7 3 2 (some .int) := K
  show zV χ 3 ad zSH 0 0 0 [(0, .ref (ad 34))] [] μ
  refine z_iconst K dX7_first_0 ?_
  refine z_istore_n (lv' := [(0, .ref (ad 34)), (1, .int (zi (0 : Int)))]) K dX7_first_1 (by decide) rfl ?_
  have L2 : ∀ k, k ≤ 4 → (zmy (fun x => zfit (μ 35) (μ 36) x t) (9 * k)).1 = 0 → zV χ 3 ad zSH 0 0 2 [(0, .ref (ad 34)), (1, .int (zi ((k : Nat) : Int)))] [] μ := by
    refine zfor ?_
    intro k hk ih h0
    have hrg := zmy_rg (fun x => zfit (μ 35) (μ 36) x t) (9 * k)
    refine z_iload_n K dX7_first_2 rfl ?_
    refine z_iconst K dX7_first_3 ?_
    refine z_icmpge (tgt := 46) K dX7_first_4 (by decide) (by omega) ⟨by decide, by decide⟩ (fun h4 => ?_) (fun h4 => ?_)
    · refine z_bipush K dX7_first_46 (by decide +kernel) ?_
      exact z_iretd K T rfl dX7_first_48 (by rw [show 9 * k = 36 by omega] at h0; exact (zmy_none _ 36 h0).symm) rfl
    · refine z_iconst K dX7_first_7 ?_
      refine z_istore_n (lv' := [(0, .ref (ad 34)), (1, .int (zi ((k : Nat) : Int))), (2, .int (zi (1 : Int)))]) K dX7_first_8 (by decide) rfl ?_
      have L9 : ∀ w, w ≤ 10 → 1 ≤ w → (zmy (fun x => zfit (μ 35) (μ 36) x t) (9 * k + (w - 1))).1 = 0 → zV χ 3 ad zSH 0 0 9 [(0, .ref (ad 34)), (1, .int (zi ((k : Nat) : Int))), (2, .int (zi ((w : Nat) : Int)))] [] μ := by
        refine zfor ?_
        intro w hw ih2 hw1 h1
        have hrg := zmy_rg (fun x => zfit (μ 35) (μ 36) x t) (9 * k + (w - 1))
        refine z_iload_n K dX7_first_9 rfl ?_
        refine z_bipush K dX7_first_10 (by decide +kernel) ?_
        refine z_icmpgt (tgt := 40) K dX7_first_12 (by decide) (by omega) ⟨by decide, by decide⟩ (fun h12 => ?_) (fun h12 => ?_)
        · refine z_iincN (lv' := [(0, .ref (ad 34)), (1, .int (zi ((k + 1 : Nat) : Int))), (2, .int (zi ((w : Nat) : Int)))]) K dX7_first_40 rfl (by decide) rfl ?_
          refine z_goto (tgt := 2) K dX7_first_43 (by decide) ?_
          refine z_ipick [0, 1] rfl ?_
          have q9 := ih (k + 1) (by omega) (by omega) (by rw [show 9 * (k + 1) = 9 * k + (w - 1) by omega]; exact h1)
          exact q9
        · refine z_aload_n K dX7_first_15 rfl ?_
          refine z_iload_n K dX7_first_16 rfl ?_
          refine z_iload_n K dX7_first_17 rfl ?_
          refine z_callSd K hl1 hg1 (As := [.int (zi ((w : Nat) : Int)), .int (zi ((k : Nat) : Int))]) (rest := [.ref (ad 34)]) (ct_waitAlone la g0 ad μ ((w : Nat) : Int) ((k : Nat) : Int) ⟨by omega, by omega⟩ ⟨by omega, by omega⟩) (by decide) lk_X7_23 cd_X8_waitAlone rfl rfl (Nat.le_of_ble_eq_true rfl) dX7_first_18 ?_
          have hza : 0 ≤ zal ((w : Nat) : Int) ((k : Nat) : Int) ∧ zal ((w : Nat) : Int) ((k : Nat) : Int) ≤ 9 := by unfold zal; split <;> omega
          have hfr := zfit_rg (μ 35) (μ 36) (zal ((w : Nat) : Int) ((k : Nat) : Int)) t
          refine z_callVd K hl1 hg1 (kb := 34) (As := [.int (zi (zal ((w : Nat) : Int) ((k : Nat) : Int)))]) (rest := []) (ct_fits la g0 ad μ t ht ht6 hd (zal ((w : Nat) : Int) ((k : Nat) : Int)) ⟨by omega, by omega⟩) (by decide) lk_X7_27 cd_X7_fits rfl rfl rfl rfl (Nat.le_of_ble_eq_true rfl) dX7_first_21 ?_
          refine z_ifeq (tgt := 34) K dX7_first_24 (by decide) (by omega) (fun h24 => ?_) (fun h24 => ?_)
          · refine z_iincN (lv' := [(0, .ref (ad 34)), (1, .int (zi ((k : Nat) : Int))), (2, .int (zi ((w + 1 : Nat) : Int)))]) K dX7_first_34 rfl (by decide) rfl ?_
            refine z_goto (tgt := 9) K dX7_first_37 (by decide) ?_
            exact ih2 (w + 1) (by omega) (by omega) (by omega) (by
              rw [show 9 * k + (w + 1 - 1) = (9 * k + (w - 1)) + 1 by omega, zmy_s, show (9 * k + (w - 1)) % 9 + 1 = w by omega, show (9 * k + (w - 1)) / 9 = k by omega, if_pos h24]
              exact h1)
          · refine z_bipush K dX7_first_27 (by decide +kernel) ?_
            refine z_iload_n K dX7_first_29 rfl ?_
            refine z_imul K dX7_first_30 ?_
            refine z_iload_n K dX7_first_31 rfl ?_
            refine z_iadd K dX7_first_32 ?_
            rw [show (((10 : Int) * ((k : Nat) : Int)) + ((w : Nat) : Int)) = ((10 * k + w : Nat) : Int) from (by omega)]
            exact z_iretd K T rfl dX7_first_33 (by
                have h7 := (zmy_first (fun x => zfit (μ 35) (μ 36) x t) (j := 9 * k + (w - 1)) h1 (by rw [show (9 * k + (w - 1)) % 9 + 1 = w by omega, show (9 * k + (w - 1)) / 9 = k by omega]; exact h24) 36 (by omega)).1
                rw [show (9 * k + (w - 1)) % 9 + 1 = w by omega, show (9 * k + (w - 1)) / 9 = k by omega] at h7
                exact h7.symm) rfl
      exact L9 1 (by omega) (by omega) h0
  exact L2 0 (by omega) rfl
def zScC (μ : zMem) (X b : Nat) : Int → zMem → Prop := fun r ν => r = (zten b : Int) ∧ ∃ f, ν = zup μ 38 f ∧ ∀ j, j < 7 → f j = zrow (X : Int) b j
set_option maxHeartbeats 4000000 in
set_option maxRecDepth 100000 in
theorem ct_fill (la : Launch) (g0 : zG) (ad : Nat → Nat) (μ : zMem) (b x : Nat) (hb : b ≤ 6) (hx : x ≤ 10) : zCon la g0 yX0_fill cX0_fill 6 (some .int) 0 ad zSH [.ref (ad 37), .int (zi ((b : Nat) : Int)), .int (zi ((x : Nat) : Int))] μ (zPi (zScC μ x b)) := by
  refine zCon_of (by decide +kernel) (Nat.le_of_ble_eq_true rfl) ?_
  intro χ K T hl1 hg1
  have K : zOk χ cX0_fill RX0 6 0 (some .int) := K
  refine z_mem (ν := zup μ 38 (μ 38)) (zup_id μ 38) ?_
  show zV χ 6 ad zSH 0 0 0 [(0, .ref (ad 37)), (1, .int (zi ((b : Nat) : Int))), (2, .int (zi ((x : Nat) : Int)))] [] (zup μ 38 (μ 38))
  refine z_iconst K dX0_fill_0 ?_
  refine z_istore_n (lv' := [(0, .ref (ad 37)), (1, .int (zi ((b : Nat) : Int))), (2, .int (zi ((x : Nat) : Int))), (3, .int (zi (1 : Int)))]) K dX0_fill_1 (by decide) rfl ?_
  have L2 : ∀ i, i ≤ 7 → 1 ≤ i → ∀ f : Nat → Int, (∀ j, 1 ≤ j → j < i → f j = 0) → zV χ 6 ad zSH 0 0 2 [(0, .ref (ad 37)), (1, .int (zi ((b : Nat) : Int))), (2, .int (zi ((x : Nat) : Int))), (3, .int (zi ((i : Nat) : Int)))] [] (zup μ 38 f) := by
    refine zfor ?_
    intro i hi ih h1 f hf
    refine z_iload_n K dX0_fill_2 rfl ?_
    refine z_bipush K dX0_fill_3 (by decide +kernel) ?_
    refine z_icmpgt (tgt := 21) K dX0_fill_5 (by decide) (by omega) ⟨by decide, by decide⟩ (fun h5 => ?_) (fun h5 => ?_)
    · refine z_aload_n K dX0_fill_21 rfl ?_
      refine z_get (k := 37) (v := .ref (ad 38)) K dX0_fill_22 fl_X0_9 rfl rfl rfl ?_
      refine z_iconst K dX0_fill_25 ?_
      refine z_iconst K dX0_fill_26 ?_
      refine z_iast (k := 38) K dX0_fill_27 0 rfl (by decide) (by omega) (by omega) (z_mem (ν := zup μ 38 (zu1 f 0 (1 : Int))) (zup_same _ _ _ _) ?_)
      refine z_iconst K dX0_fill_28 ?_
      refine z_istore_n (lv' := [(0, .ref (ad 37)), (1, .int (zi ((b : Nat) : Int))), (2, .int (zi ((x : Nat) : Int))), (3, .int (zi (1 : Int)))]) K dX0_fill_29 (by decide) rfl ?_
      refine z_iconst K dX0_fill_30 ?_
      refine z_istore (lv' := [(0, .ref (ad 37)), (1, .int (zi ((b : Nat) : Int))), (2, .int (zi ((x : Nat) : Int))), (3, .int (zi (1 : Int))), (4, .int (zi (0 : Int)))]) K dX0_fill_31 (by decide) rfl ?_
      have L33 : ∀ m, m ≤ b → ∀ g : Nat → Int, (∀ j, j < 7 → g j = zrow ((x : Nat) : Int) m j) → zV χ 6 ad zSH 0 0 33 [(0, .ref (ad 37)), (1, .int (zi ((b : Nat) : Int))), (2, .int (zi ((x : Nat) : Int))), (3, .int (zi ((zten m : Nat) : Int))), (4, .int (zi ((m : Nat) : Int)))] [] (zup μ 38 g) := by
        refine zfor ?_
        intro m hm ih2 g hg
        have ht6 : zten m ≤ 1000000 := (zsumr_rg m (by omega) 0 (by decide) 0 (by decide)).2.2.2
        refine z_iload K dX0_fill_33 rfl ?_
        refine z_iload_n K dX0_fill_35 rfl ?_
        refine z_icmpge (tgt := 106) K dX0_fill_36 (by decide) (by omega) (by omega) (fun h36 => ?_) (fun h36 => ?_)
        · refine z_iload_n K dX0_fill_106 rfl ?_
          exact z_ireti K T rfl dX0_fill_107 ⟨(by rw [show b = m by omega]), g, rfl, fun j hj => by rw [show b = m by omega]; exact hg j hj⟩
        · refine z_bipush K dX0_fill_39 (by decide +kernel) ?_
          refine z_istore (lv' := [(0, .ref (ad 37)), (1, .int (zi ((b : Nat) : Int))), (2, .int (zi ((x : Nat) : Int))), (3, .int (zi ((zten m : Nat) : Int))), (4, .int (zi ((m : Nat) : Int))), (5, .int (zi (6 : Int)))]) K dX0_fill_41 (by decide) rfl ?_
          have L43 : ∀ i, i ≤ 6 → ∀ p : Nat → Int, (∀ j, j ≤ i → j < 7 → p j = zrow ((x : Nat) : Int) m j) → (∀ j, i < j → j < 7 → p j = zrow ((x : Nat) : Int) (m + 1) j) → zV χ 6 ad zSH 0 0 43 [(0, .ref (ad 37)), (1, .int (zi ((b : Nat) : Int))), (2, .int (zi ((x : Nat) : Int))), (3, .int (zi ((zten m : Nat) : Int))), (4, .int (zi ((m : Nat) : Int))), (5, .int (zi ((i : Nat) : Int)))] [] (zup μ 38 p) := by
            intro i
            induction i using Nat.strongRecOn with
            | _ i ih3 =>
            intro hi p hp2 hq2
            refine z_iload K dX0_fill_43 rfl ?_
            refine z_ifle (tgt := 85) K dX0_fill_45 (by decide) (by omega) (fun h45 => ?_) (fun h45 => ?_)
            · have hi0 : i = 0 := by omega
              refine z_aload_n K dX0_fill_85 rfl ?_
              refine z_get (k := 37) (v := .ref (ad 38)) K dX0_fill_86 fl_X0_9 rfl rfl rfl ?_
              refine z_iconst K dX0_fill_89 ?_
              refine z_dup2 K dX0_fill_90 rfl rfl ?_
              refine z_iald (k := 38) (v := p 0) K dX0_fill_91 0 rfl (by decide) (by omega) (by omega) rfl ?_
              refine z_iload_n K dX0_fill_92 rfl ?_
              refine z_imul K dX0_fill_93 ?_
              refine z_iast (k := 38) K dX0_fill_94 0 rfl (by decide) (by omega) (by omega) (z_mem (ν := zup μ 38 (zu1 p 0 ((p 0) * ((x : Nat) : Int)))) (zup_same _ _ _ _) ?_)
              refine z_iload_n K dX0_fill_95 rfl ?_
              refine z_bipush K dX0_fill_96 (by decide +kernel) ?_
              refine z_imul K dX0_fill_98 ?_
              rw [show (((zten m : Nat) : Int) * (10 : Int)) = ((zten (m + 1) : Nat) : Int) from (by show _ = ((zten m * 10 : Nat) : Int); omega)]
              refine z_istore_n (lv' := [(0, .ref (ad 37)), (1, .int (zi ((b : Nat) : Int))), (2, .int (zi ((x : Nat) : Int))), (3, .int (zi ((zten (m + 1) : Nat) : Int))), (4, .int (zi ((m : Nat) : Int))), (5, .int (zi ((i : Nat) : Int)))]) K dX0_fill_99 (by decide) rfl ?_
              refine z_iincN (lv' := [(0, .ref (ad 37)), (1, .int (zi ((b : Nat) : Int))), (2, .int (zi ((x : Nat) : Int))), (3, .int (zi ((zten (m + 1) : Nat) : Int))), (4, .int (zi ((m + 1 : Nat) : Int))), (5, .int (zi ((i : Nat) : Int)))]) K dX0_fill_100 rfl (by decide) rfl ?_
              refine z_goto (tgt := 33) K dX0_fill_103 (by decide) ?_
              refine z_ipick [0, 1, 2, 3, 4] rfl ?_
              exact ih2 (m + 1) (by omega) (by omega) _ (fun j hj => by
                by_cases e : j = 0
                · subst e; rw [zu1_eq, hp2 0 (by omega) (by omega), zrow_s, if_pos rfl]; omega
                · rw [zu1_ne _ _ e]; exact hq2 j (by omega) hj)
            · obtain ⟨k, rfl⟩ : ∃ k, i = k + 1 := ⟨i - 1, by omega⟩
              refine z_aload_n K dX0_fill_48 rfl ?_
              refine z_get (k := 37) (v := .ref (ad 38)) K dX0_fill_49 fl_X0_9 rfl rfl rfl ?_
              refine z_iload K dX0_fill_52 rfl ?_
              refine z_aload_n K dX0_fill_54 rfl ?_
              refine z_get (k := 37) (v := .ref (ad 38)) K dX0_fill_55 fl_X0_9 rfl rfl rfl ?_
              refine z_iload K dX0_fill_58 rfl ?_
              refine z_iald (k := 38) (v := p (k + 1)) K dX0_fill_60 (k + 1) rfl (by decide) (by omega) (by omega) rfl ?_
              refine z_iload_n K dX0_fill_61 rfl ?_
              refine z_imul K dX0_fill_62 ?_
              refine z_aload_n K dX0_fill_63 rfl ?_
              refine z_get (k := 37) (v := .ref (ad 38)) K dX0_fill_64 fl_X0_9 rfl rfl rfl ?_
              refine z_iload K dX0_fill_67 rfl ?_
              refine z_iconst K dX0_fill_69 ?_
              refine z_isub K dX0_fill_70 ?_
              refine z_iald (k := 38) (v := p k) K dX0_fill_71 k rfl (by decide) (by omega) (by omega) rfl ?_
              refine z_bipush K dX0_fill_72 (by decide +kernel) ?_
              refine z_iload_n K dX0_fill_74 rfl ?_
              refine z_isub K dX0_fill_75 ?_
              refine z_imul K dX0_fill_76 ?_
              refine z_iadd K dX0_fill_77 ?_
              refine z_iast (k := 38) K dX0_fill_78 (k + 1) rfl (by decide) (by omega) (by omega) (z_mem (ν := zup μ 38 (zu1 p (k + 1) (((p (k + 1)) * ((x : Nat) : Int)) + ((p k) * ((10 : Int) - ((x : Nat) : Int)))))) (zup_same _ _ _ _) ?_)
              refine z_iinc (lv' := [(0, .ref (ad 37)), (1, .int (zi ((b : Nat) : Int))), (2, .int (zi ((x : Nat) : Int))), (3, .int (zi ((zten m : Nat) : Int))), (4, .int (zi ((m : Nat) : Int))), (5, .int (zi (((k + 1 : Nat) : Int) + (-1 : Int))))]) K dX0_fill_79 rfl (by decide) rfl ?_
              rw [show ((k + 1 : Nat) : Int) + (-1 : Int) = ((k : Nat) : Int) by omega]
              refine z_goto (tgt := 43) K dX0_fill_82 (by decide) ?_
              exact ih3 k (by omega) (by omega) _ (fun j h6 h7 => by rw [zu1_ne _ _ (by omega)]; exact hp2 j (by omega) h7) (fun j h6 h7 => by
                by_cases e : j = k + 1
                · subst e; rw [zu1_eq, zrow_s, if_neg (by omega), hp2 (k + 1) (by omega) (by omega), hp2 k (by omega) (by omega)]; rfl
                · rw [zu1_ne _ _ e]; exact hq2 j (by omega) h7)
          exact L43 6 (by omega) _ (fun j _ h7 => hg j h7) (fun j h6 h7 => absurd h7 (by omega))
      exact L33 0 (by omega) _ (fun j hj => by
        by_cases e : j = 0
        · subst e; rw [zu1_eq]; rfl
        · rw [zu1_ne _ _ e, hf j (by omega) (by omega)]; show (0 : Int) = if j = 0 then 1 else 0; rw [if_neg e])
    · refine z_aload_n K dX0_fill_8 rfl ?_
      refine z_get (k := 37) (v := .ref (ad 38)) K dX0_fill_9 fl_X0_9 rfl rfl rfl ?_
      refine z_iload_n K dX0_fill_12 rfl ?_
      refine z_iconst K dX0_fill_13 ?_
      refine z_iast (k := 38) K dX0_fill_14 i rfl (by decide) (by omega) (by omega) (z_mem (ν := zup μ 38 (zu1 f i (0 : Int))) (zup_same _ _ _ _) ?_)
      refine z_iincN (lv' := [(0, .ref (ad 37)), (1, .int (zi ((b : Nat) : Int))), (2, .int (zi ((x : Nat) : Int))), (3, .int (zi ((i + 1 : Nat) : Int)))]) K dX0_fill_15 rfl (by decide) rfl ?_
      refine z_goto (tgt := 2) K dX0_fill_18 (by decide) ?_
      exact ih (i + 1) (by omega) (by omega) (by omega) _ (fun j h2 h3 => by
        by_cases e : j = i
        · subst e; rw [zu1_eq]
        · rw [zu1_ne _ _ e]; exact hf j h2 (by omega))
  exact L2 1 (by omega) (by omega) _ (fun j h2 h3 => absurd h3 (by omega))
set_option maxHeartbeats 4000000 in
set_option maxRecDepth 100000 in
theorem ct_left (la : Launch) (g0 : zG) (ad : Nat → Nat) (μ : zMem) (b m x : Nat) (hb : b ≤ 6) (hm : m ≤ 6) (hx : x ≤ 10) (q : Int) (hq : q = 0 ∨ q = 1) : zCon la g0 yX0_left cX0_left 8 (some .int) 2 ad zSH [.ref (ad 37), .int (zi ((b : Nat) : Int)), .int (zi ((m : Nat) : Int)), .int (zi ((x : Nat) : Int)), .int (zi q)] μ (zPi (fun r ν => r = zpart (zsumr ((x : Nat) : Int) b m (7 - m)) (zten b) q ∧ ∃ f, ν = zup μ 38 f)) := by
  refine zCon_of (by decide +kernel) (Nat.le_of_ble_eq_true rfl) ?_
  intro χ K T hl1 hg1
  have K : zOk χ cX0_left RX0 8 2 (some .int) := K
  have hrg := zsumr_rg b hb x hx m hm
  show zV χ 8 ad zSH 0 0 0 [(0, .ref (ad 37)), (1, .int (zi ((b : Nat) : Int))), (2, .int (zi ((m : Nat) : Int))), (3, .int (zi ((x : Nat) : Int))), (4, .int (zi q))] [] μ
  refine z_aload_n K dX0_left_0 rfl ?_
  refine z_iload_n K dX0_left_1 rfl ?_
  refine z_bipush K dX0_left_2 (by decide +kernel) ?_
  refine z_min K dX0_left_4 lk_X0_15 (by decide) (by omega) ⟨by decide, by decide⟩ (Nat.le_of_ble_eq_true rfl) ?_
  rw [show (min ((b : Nat) : Int) (6 : Int)) = ((b : Nat) : Int) from (by omega)]
  refine z_iload_n K dX0_left_7 rfl ?_
  refine z_callVi K hl1 hg1 (kb := 37) (As := [.int (zi ((b : Nat) : Int)), .int (zi ((x : Nat) : Int))]) (rest := []) (ct_fill la g0 ad μ b x hb hx) (by decide) lk_X0_21 cd_X0_fill rfl rfl rfl rfl (Nat.le_of_ble_eq_true rfl) dX0_left_8 (fun r8 ν h8 => ?_)
  obtain ⟨hr8, f, hν, hf⟩ := h8
  subst hr8
  subst hν
  refine z_istore (lv' := [(0, .ref (ad 37)), (1, .int (zi ((b : Nat) : Int))), (2, .int (zi ((m : Nat) : Int))), (3, .int (zi ((x : Nat) : Int))), (4, .int (zi q)), (5, .int (zi ((zten b : Nat) : Int)))]) K dX0_left_11 (by decide) rfl ?_
  refine z_iconst K dX0_left_13 ?_
  refine z_istore (lv' := [(0, .ref (ad 37)), (1, .int (zi ((b : Nat) : Int))), (2, .int (zi ((m : Nat) : Int))), (3, .int (zi ((x : Nat) : Int))), (4, .int (zi q)), (5, .int (zi ((zten b : Nat) : Int))), (6, .int (zi (0 : Int)))]) K dX0_left_14 (by decide) rfl ?_
  refine z_iconst K dX0_left_16 ?_
  refine z_iload_n K dX0_left_17 rfl ?_
  refine z_max K dX0_left_18 lk_X0_24 (by decide) ⟨by decide, by decide⟩ (by omega) (Nat.le_of_ble_eq_true rfl) ?_
  rw [show (max (0 : Int) ((m : Nat) : Int)) = ((m : Nat) : Int) from (by omega)]
  refine z_istore (lv' := [(0, .ref (ad 37)), (1, .int (zi ((b : Nat) : Int))), (2, .int (zi ((m : Nat) : Int))), (3, .int (zi ((x : Nat) : Int))), (4, .int (zi q)), (5, .int (zi ((zten b : Nat) : Int))), (6, .int (zi (0 : Int))), (7, .int (zi ((m : Nat) : Int)))]) K dX0_left_21 (by decide) rfl ?_
  have L23 : ∀ i, i ≤ 7 - m → zV χ 8 ad zSH 0 0 23 [(0, .ref (ad 37)), (1, .int (zi ((b : Nat) : Int))), (2, .int (zi ((m : Nat) : Int))), (3, .int (zi ((x : Nat) : Int))), (4, .int (zi q)), (5, .int (zi ((zten b : Nat) : Int))), (6, .int (zi (zsumr ((x : Nat) : Int) b m i))), (7, .int (zi ((m + i : Nat) : Int)))] [] (zup μ 38 f) := by
    refine zfor ?_
    intro i hi ih
    refine z_iload K dX0_left_23 rfl ?_
    refine z_bipush K dX0_left_25 (by decide +kernel) ?_
    refine z_icmpgt (tgt := 48) K dX0_left_27 (by decide) (by omega) ⟨by decide, by decide⟩ (fun h27 => ?_) (fun h27 => ?_)
    · rw [show i = 7 - m by omega]
      refine z_iload K dX0_left_48 rfl ?_
      refine z_iconst K dX0_left_50 ?_
      refine z_iload K dX0_left_51 rfl ?_
      refine z_max K dX0_left_53 lk_X0_24 (by decide) ⟨by decide, by decide⟩ (by omega) (Nat.le_of_ble_eq_true rfl) ?_
      rw [show (max (1 : Int) ((zten b : Nat) : Int)) = ((zten b : Nat) : Int) from (by omega)]
      refine z_iload K dX0_left_56 rfl ?_
      refine z_callSd K hl1 hg1 (As := [.int (zi (zsumr ((x : Nat) : Int) b m (7 - m))), .int (zi ((zten b : Nat) : Int)), .int (zi q)]) (rest := []) (ct_part la g0 ad (zup μ 38 f) (zsumr ((x : Nat) : Int) b m (7 - m)) (zten b) q (by omega) (by omega) hq) (by decide) lk_X0_27 cd_X8_part rfl rfl (Nat.le_of_ble_eq_true rfl) dX0_left_58 ?_
      show zV χ 8 ad zSH 0 0 61 [(0, .ref (ad 37)), (1, .int (zi ((b : Nat) : Int))), (2, .int (zi ((m : Nat) : Int))), (3, .int (zi ((x : Nat) : Int))), (4, .int (zi q)), (5, .int (zi ((zten b : Nat) : Int))), (6, .int (zi (zsumr ((x : Nat) : Int) b m (7 - m)))), (7, .int (zi ((m + (7 - m) : Nat) : Int)))] [.int (zi (zpart (zsumr ((x : Nat) : Int) b m (7 - m)) (zten b) q))] (zup μ 38 f)
      exact z_ireti K T rfl dX0_left_61 ⟨rfl, _, rfl⟩
    · refine z_iload K dX0_left_30 rfl ?_
      refine z_aload_n K dX0_left_32 rfl ?_
      refine z_get (k := 37) (v := .ref (ad 38)) K dX0_left_33 fl_X0_9 rfl rfl rfl ?_
      refine z_iload K dX0_left_36 rfl ?_
      refine z_iald (k := 38) (v := zrow ((x : Nat) : Int) b (m + i)) K dX0_left_38 (m + i) rfl (by decide) (by omega) (by omega) (hf _ (by omega)) ?_
      refine z_iadd K dX0_left_39 ?_
      refine z_istore (lv' := [(0, .ref (ad 37)), (1, .int (zi ((b : Nat) : Int))), (2, .int (zi ((m : Nat) : Int))), (3, .int (zi ((x : Nat) : Int))), (4, .int (zi q)), (5, .int (zi ((zten b : Nat) : Int))), (6, .int (zi ((zsumr ((x : Nat) : Int) b m i) + (zrow ((x : Nat) : Int) b (m + i))))), (7, .int (zi ((m + i : Nat) : Int)))]) K dX0_left_40 (by decide) rfl ?_
      refine z_iincN (lv' := [(0, .ref (ad 37)), (1, .int (zi ((b : Nat) : Int))), (2, .int (zi ((m : Nat) : Int))), (3, .int (zi ((x : Nat) : Int))), (4, .int (zi q)), (5, .int (zi ((zten b : Nat) : Int))), (6, .int (zi ((zsumr ((x : Nat) : Int) b m i) + (zrow ((x : Nat) : Int) b (m + i))))), (7, .int (zi (((m + i) + 1 : Nat) : Int)))]) K dX0_left_42 rfl (by decide) rfl ?_
      refine z_goto (tgt := 23) K dX0_left_45 (by decide) ?_
      exact ih (i + 1) (by omega) (by omega)
  exact L23 0 (by omega)
