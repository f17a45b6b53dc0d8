theorem zaw_at {nc : Nat} (hc : nc ≤ 3) (c : Nat → Int) (b : Nat) : ∀ m, m ≤ nc → (∀ j, j < 18 ∨ 18 + nc ≤ j → zaw c b m j = c j) ∧ ∀ k, k < nc → (k < m → zbit b k = 0 → zaw c b m (18 + k) = 3) ∧ ((m ≤ k ∨ zbit b k = 1) → zaw c b m (18 + k) = c (18 + k)) := by
  intro m
  induction m with
  | zero => intro _; exact ⟨fun _ _ => rfl, fun k hk => ⟨fun h => absurd h (by omega), fun _ => rfl⟩⟩
  | succ m ih =>
    intro hm
    obtain ⟨h1, h2⟩ := ih (by omega)
    rw [zaw_s]
    split
    · rename_i h0
      refine ⟨fun j hj => by rw [zu1_ne _ _ (by omega)]; exact h1 j hj, fun k hk => ?_⟩
      by_cases e : k = m
      · subst e
        refine ⟨fun _ _ => zu1_eq _ _ _, fun h => ?_⟩
        omega
      · rw [zu1_ne _ _ (by omega)]
        exact ⟨fun g1 g2 => (h2 k hk).1 (by omega) g2, fun g => (h2 k hk).2 (by omega)⟩
    · rename_i h0
      refine ⟨h1, fun k hk => ⟨fun g1 g2 => ?_, fun g => (h2 k hk).2 (by omega)⟩⟩
      by_cases e : k = m
      · subst e; exact absurd g2 h0
      · exact (h2 k hk).1 (by omega) g2
theorem zaw_ag {n nc : Nat} {p c : Nat → Int} (hn : n ≤ 6) (hc : nc ≤ 3) (h : zAg n nc 7 p c) (b : Nat) : zAg n nc b p (zaw c b nc) := by
  obtain ⟨a1, a2⟩ := zaw_at hc c b nc (Nat.le_refl _)
  obtain ⟨g1, g2, g3, g4⟩ := h
  refine ⟨fun l hl => ?_, fun k hk => ⟨fun h1 => ?_, fun h0 => (a2 k hk).1 hk h0⟩, ?_, ?_⟩
  · rw [a1 l (by omega), a1 (6 + l) (by omega), a1 (12 + l) (by omega)]; exact g1 l hl
  · rw [(a2 k hk).2 (Or.inr h1)]; exact (g2 k hk).1 (zb7 k (by omega))
  · rw [a1 21 (by omega)]; exact g3
  · rw [a1 22 (by omega)]; exact g4
set_option maxHeartbeats 4000000 in
set_option maxRecDepth 100000 in
theorem cq_share (la : Launch) (g0 : zG) (ad : Nat → Nat) (μ : zMem) (n nc : Nat) (kd al wt an c : Nat → Int) (hm : zMP μ n nc kd al wt an) (hw : zHV n nc c) (hg : zAg n nc 7 (μ 46) c) (x q : Int) (hx : zR x) (hq : q = 0 ∨ q = 1) : zCon la g0 yX9_share cX9_share 6 (some .int) 7 ad zSH [.ref (ad 39), .int (zi x), .int (zi q)] μ (zPi (zQm μ (zA_share n kd al nc an c x q))) := by
  refine zCon_of (by decide +kernel) (Nat.le_of_ble_eq_true rfl) ?_
  intro χ K T hl1 hg1
  have K : zOk χ cX9_share RX9 6 7 (some .int) := K
  obtain ⟨hn, hnc, hpl, hpa, hpk⟩ := id hm
  have hn6 := hpk.1
  have hnc3 := hpk.2.1
  have h8 := zp2_le nc hnc3
  have hfac := zfac_rg nc hnc3
  refine z_mem (ν := zup (zup (zup (zup μ 55 (μ 55)) 39 (μ 39)) 47 (μ 47)) 53 (μ 53)) (zup_id4 μ 55 39 47 53) ?_
  show zV χ 6 ad zSH 0 0 0 [(0, .ref (ad 39)), (1, .int (zi x)), (2, .int (zi q))] [] (zup (zup (zup (zup μ 55 (μ 55)) 39 (μ 39)) 47 (μ 47)) 53 (μ 53))
  refine z_aload_n K dX9_share_0 rfl ?_
  refine z_iconst K dX9_share_1 ?_
  refine z_puti (k := 39) K dX9_share_2 fp_X9_59 rfl rfl (z_mem (ν := zup (zup (zup (zup μ 55 (μ 55)) 39 (zu1 (μ 39) 0 (0 : Int))) 47 (μ 47)) 53 (μ 53)) (zup_sw3 _ (by decide) (by decide) _ _ _ _) ?_)
  refine z_aload_n K dX9_share_5 rfl ?_
  refine z_iload_n K dX9_share_6 rfl ?_
  refine z_callVd K hl1 hg1 (kb := 39) (As := [.int (zi x)]) (rest := []) (cm_noClerk la g0 ad (zup (zup (zup (zup μ 55 (μ 55)) 39 (zu1 (μ 39) 0 (0 : Int))) 47 (μ 47)) 53 (μ 53)) nc hnc (by omega) x (by omega)) (by decide) lk_X9_168 cd_X9_noClerk rfl rfl rfl rfl (Nat.le_of_ble_eq_true rfl) dX9_share_7 ?_
  show zV χ 6 ad zSH 0 0 10 [(0, .ref (ad 39)), (1, .int (zi x)), (2, .int (zi q))] [.int (zi (if 0 ≤ x ∧ x < (nc : Int) then 0 else 1))] (zup (zup (zup (zup μ 55 (μ 55)) 39 (zu1 (μ 39) 0 (0 : Int))) 47 (μ 47)) 53 (μ 53))
  refine z_ifeq (tgt := 15) K dX9_share_10 (by decide) (by omega) (fun h10 => ?_) (fun h10 => ?_)
  · obtain ⟨k, rfl⟩ : ∃ k : Nat, x = (k : Int) := ⟨x.toNat, by omega⟩
    have hk : k < nc := by omega
    have hsrg := zsr_rg hnc3 hk (fun b => (zlw n kd al nc an c b : Int)) (fun b _ => ⟨Int.natCast_nonneg _, by have : zlw n kd al nc an c b ≤ 6 := zpop_le _; show ((zlw n kd al nc an c b : Nat) : Int) ≤ 6; omega⟩)
    refine z_iconst K dX9_share_15 ?_
    refine z_istore_n (lv' := [(0, .ref (ad 39)), (1, .int (zi ((k : Nat) : Int))), (2, .int (zi q)), (3, .int (zi (0 : Int)))]) K dX9_share_16 (by decide) rfl ?_
    have L17 : ∀ b, b ≤ 2 ^ nc → ∀ (h g t a : Nat → Int), zFh (μ 39) g → (∀ j, j < b → h j = ((zlw n kd al nc an c j : Nat) : Int)) → zV χ 6 ad zSH 0 0 17 [(0, .ref (ad 39)), (1, .int (zi ((k : Nat) : Int))), (2, .int (zi q)), (3, .int (zi ((b : Nat) : Int)))] [] (zup (zup (zup (zup μ 55 h) 39 g) 47 t) 53 a) := by
      refine zfor ?_
      intro b hb ih h g t a hgf hfil
      have hnc9 : g 7 = (nc : Int) := (hgf 7 (by decide)).trans hnc
      refine z_iload_n K dX9_share_17 rfl ?_
      refine z_iconst K dX9_share_18 ?_
      refine z_aload_n K dX9_share_19 rfl ?_
      refine z_get (k := 39) (v := .int (zi (g 7))) K dX9_share_20 fl_X9_70 rfl rfl rfl ?_
      rw [show (g 7) = ((nc : Nat) : Int) from hnc9]
      refine z_ishlR (z := zi ((2 ^ nc : Nat) : Int)) K dX9_share_23 (zb_shl nc (by omega)) ?_
      refine z_icmpge (tgt := 65) K dX9_share_24 (by decide) (by omega) (by omega) (fun h24 => ?_) (fun h24 => ?_)
      · refine z_iconst K dX9_share_65 ?_
        refine z_istore_n (lv' := [(0, .ref (ad 39)), (1, .int (zi ((k : Nat) : Int))), (2, .int (zi q)), (3, .int (zi (0 : Int)))]) K dX9_share_66 (by decide) rfl ?_
        refine z_iconst K dX9_share_67 ?_
        refine z_istore (lv' := [(0, .ref (ad 39)), (1, .int (zi ((k : Nat) : Int))), (2, .int (zi q)), (3, .int (zi (0 : Int))), (4, .int (zi (0 : Int)))]) K dX9_share_68 (by decide) rfl ?_
        have L70 : ∀ b, b ≤ 2 ^ nc → zV χ 6 ad zSH 0 0 70 [(0, .ref (ad 39)), (1, .int (zi ((k : Nat) : Int))), (2, .int (zi q)), (3, .int (zi ((zsr (fun b => (zlw n kd al nc an c b : Int)) nc k b).1))), (4, .int (zi ((b : Nat) : Int)))] [] (zup (zup (zup (zup μ 55 h) 39 g) 47 t) 53 a) := by
          replace hfil : ∀ j, j < 2 ^ nc → h j = ((zlw n kd al nc an c j : Nat) : Int) := fun j hj => hfil j (by omega)
          refine zfor ?_
          intro b hb ih
          refine z_iload K dX9_share_70 rfl ?_
          refine z_iconst K dX9_share_72 ?_
          refine z_aload_n K dX9_share_73 rfl ?_
          refine z_get (k := 39) (v := .int (zi (g 7))) K dX9_share_74 fl_X9_70 rfl rfl rfl ?_
          rw [show (g 7) = ((nc : Nat) : Int) from hnc9]
          refine z_ishlR (z := zi ((2 ^ nc : Nat) : Int)) K dX9_share_77 (zb_shl nc (by omega)) ?_
          refine z_icmpge (tgt := 144) K dX9_share_78 (by decide) (by omega) (by omega) (fun h78 => ?_) (fun h78 => ?_)
          · have hbe : b = 2 ^ nc := by omega
            rw [hbe]
            refine z_iload_n K dX9_share_144 rfl ?_
            refine z_aload_n K dX9_share_145 rfl ?_
            refine z_get (k := 39) (v := .int (zi (g 7))) K dX9_share_146 fl_X9_70 rfl rfl rfl ?_
            rw [show (g 7) = ((nc : Nat) : Int) from hnc9]
            refine z_callSd K hl1 hg1 (As := [.int (zi ((nc : Nat) : Int))]) (rest := [.int (zi ((zsr (fun b => (zlw n kd al nc an c b : Int)) nc k (2 ^ nc)).1))]) (cm_ways la g0 ad (zup (zup (zup (zup μ 55 h) 39 g) 47 t) 53 a) nc (by omega)) (by decide) lk_X9_231 cd_X9_ways rfl rfl (Nat.le_of_ble_eq_true rfl) dX9_share_149 ?_
            show zV χ 6 ad zSH 0 0 152 [(0, .ref (ad 39)), (1, .int (zi ((k : Nat) : Int))), (2, .int (zi q)), (3, .int (zi ((zsr (fun b => (zlw n kd al nc an c b : Int)) nc k (2 ^ nc)).1))), (4, .int (zi ((2 ^ nc : Nat) : Int)))] [.int (zi ((zfac nc : Nat) : Int)), .int (zi ((zsr (fun b => (zlw n kd al nc an c b : Int)) nc k (2 ^ nc)).1))] (zup (zup (zup (zup μ 55 h) 39 g) 47 t) 53 a)
            refine z_iload_n K dX9_share_152 rfl ?_
            refine z_callSd K hl1 hg1 (As := [.int (zi ((zsr (fun b => (zlw n kd al nc an c b : Int)) nc k (2 ^ nc)).1)), .int (zi ((zfac nc : Nat) : Int)), .int (zi q)]) (rest := []) (cm_fraction la g0 ad (zup (zup (zup (zup μ 55 h) 39 g) 47 t) 53 a) (zsr (fun b => (zlw n kd al nc an c b : Int)) nc k (2 ^ nc)).1 (zfac nc) q (by omega) (by omega) hq) (by decide) lk_X9_234 cd_X9_fraction rfl rfl (Nat.le_of_ble_eq_true rfl) dX9_share_153 ?_
            show zV χ 6 ad zSH 0 0 156 [(0, .ref (ad 39)), (1, .int (zi ((k : Nat) : Int))), (2, .int (zi q)), (3, .int (zi ((zsr (fun b => (zlw n kd al nc an c b : Int)) nc k (2 ^ nc)).1))), (4, .int (zi ((2 ^ nc : Nat) : Int)))] [.int (zi (zpart (zsr (fun b => (zlw n kd al nc an c b : Int)) nc k (2 ^ nc)).1 (zfac nc) q))] (zup (zup (zup (zup μ 55 h) 39 g) 47 t) 53 a)
            exact z_ireti K T rfl dX9_share_156 ⟨by unfold zA_share; rw [if_pos ⟨by omega, by omega⟩, Int.toNat_natCast, hsrg.2.2], zFr_c (zFr_c (zFr_h (zFr_c (zFr_0 μ) (by decide) _) hgf) (by decide) _) (by decide) _⟩
          · have hbk : zbit b k < 2 := Nat.mod_lt _ (by decide)
            refine z_iload K dX9_share_81 rfl ?_
            refine z_iload_n K dX9_share_83 rfl ?_
            refine z_callSd K hl1 hg1 (As := [.int (zi ((b : Nat) : Int)), .int (zi ((k : Nat) : Int))]) (rest := []) (cm_has la g0 ad (zup (zup (zup (zup μ 55 h) 39 g) 47 t) 53 a) b k (by omega) (by omega)) (by decide) lk_X9_144 cd_X9_has rfl rfl (Nat.le_of_ble_eq_true rfl) dX9_share_84 ?_
            show zV χ 6 ad zSH 0 0 87 [(0, .ref (ad 39)), (1, .int (zi ((k : Nat) : Int))), (2, .int (zi q)), (3, .int (zi ((zsr (fun b => (zlw n kd al nc an c b : Int)) nc k b).1))), (4, .int (zi ((b : Nat) : Int)))] [.int (zi ((zbit b k : Nat) : Int))] (zup (zup (zup (zup μ 55 h) 39 g) 47 t) 53 a)
            refine z_ifne (tgt := 138) K dX9_share_87 (by decide) (by omega) (fun h87 => ?_) (fun h87 => ?_)
            · refine z_iincN (lv' := [(0, .ref (ad 39)), (1, .int (zi ((k : Nat) : Int))), (2, .int (zi q)), (3, .int (zi ((zsr (fun b => (zlw n kd al nc an c b : Int)) nc k b).1))), (4, .int (zi ((b + 1 : Nat) : Int)))]) K dX9_share_138 rfl (by decide) rfl ?_
              refine z_goto (tgt := 70) K dX9_share_141 (by decide) ?_
              have e9 : (zsr (fun b => (zlw n kd al nc an c b : Int)) nc k (b + 1)).1 = (zsr (fun b => (zlw n kd al nc an c b : Int)) nc k b).1 := by
                rw [zsr_s]
                rw [if_neg (by omega)]
              have q9 := ih (b + 1) (by omega) (by omega)
              rw [e9] at q9
              exact q9
            · have hpop := zsh_pop nc hnc3 k hk b (by omega) (by omega)
              have hor := zsh_or nc hnc3 k hk b (by omega)
              refine z_iload K dX9_share_90 rfl ?_
              refine z_callSd K hl1 hg1 (As := [.int (zi ((b : Nat) : Int))]) (rest := []) (cm_many la g0 ad (zup (zup (zup (zup μ 55 h) 39 g) 47 t) 53 a) b (by omega)) (by decide) lk_X9_128 cd_X9_many rfl rfl (Nat.le_of_ble_eq_true rfl) dX9_share_92 ?_
              show zV χ 6 ad zSH 0 0 95 [(0, .ref (ad 39)), (1, .int (zi ((k : Nat) : Int))), (2, .int (zi q)), (3, .int (zi ((zsr (fun b => (zlw n kd al nc an c b : Int)) nc k b).1))), (4, .int (zi ((b : Nat) : Int)))] [.int (zi ((zpop b : Nat) : Int))] (zup (zup (zup (zup μ 55 h) 39 g) 47 t) 53 a)
              refine z_istore (lv' := [(0, .ref (ad 39)), (1, .int (zi ((k : Nat) : Int))), (2, .int (zi q)), (3, .int (zi ((zsr (fun b => (zlw n kd al nc an c b : Int)) nc k b).1))), (4, .int (zi ((b : Nat) : Int))), (5, .int (zi ((zpop b : Nat) : Int)))]) K dX9_share_95 (by decide) rfl ?_
              refine z_iload_n K dX9_share_97 rfl ?_
              refine z_iload K dX9_share_98 rfl ?_
              refine z_callSd K hl1 hg1 (As := [.int (zi ((zpop b : Nat) : Int))]) (rest := [.int (zi ((zsr (fun b => (zlw n kd al nc an c b : Int)) nc k b).1))]) (cm_ways la g0 ad (zup (zup (zup (zup μ 55 h) 39 g) 47 t) 53 a) (zpop b) (by omega)) (by decide) lk_X9_231 cd_X9_ways rfl rfl (Nat.le_of_ble_eq_true rfl) dX9_share_100 ?_
              show zV χ 6 ad zSH 0 0 103 [(0, .ref (ad 39)), (1, .int (zi ((k : Nat) : Int))), (2, .int (zi q)), (3, .int (zi ((zsr (fun b => (zlw n kd al nc an c b : Int)) nc k b).1))), (4, .int (zi ((b : Nat) : Int))), (5, .int (zi ((zpop b : Nat) : Int)))] [.int (zi ((zfac (zpop b) : Nat) : Int)), .int (zi ((zsr (fun b => (zlw n kd al nc an c b : Int)) nc k b).1))] (zup (zup (zup (zup μ 55 h) 39 g) 47 t) 53 a)
              refine z_aload_n K dX9_share_103 rfl ?_
              refine z_get (k := 39) (v := .int (zi (g 7))) K dX9_share_104 fl_X9_70 rfl rfl rfl ?_
              rw [show (g 7) = ((nc : Nat) : Int) from hnc9]
              refine z_iconst K dX9_share_107 ?_
              refine z_isub K dX9_share_108 ?_
              refine z_iload K dX9_share_109 rfl ?_
              refine z_isub K dX9_share_111 ?_
              rw [show ((((nc : Nat) : Int) - (1 : Int)) - ((zpop b : Nat) : Int)) = ((nc - 1 - zpop b : Nat) : Int) from (by omega)]
              refine z_callSd K hl1 hg1 (As := [.int (zi ((nc - 1 - zpop b : Nat) : Int))]) (rest := [.int (zi ((zfac (zpop b) : Nat) : Int)), .int (zi ((zsr (fun b => (zlw n kd al nc an c b : Int)) nc k b).1))]) (cm_ways la g0 ad (zup (zup (zup (zup μ 55 h) 39 g) 47 t) 53 a) (nc - 1 - zpop b) (by omega)) (by decide) lk_X9_231 cd_X9_ways rfl rfl (Nat.le_of_ble_eq_true rfl) dX9_share_112 ?_
              show zV χ 6 ad zSH 0 0 115 [(0, .ref (ad 39)), (1, .int (zi ((k : Nat) : Int))), (2, .int (zi q)), (3, .int (zi ((zsr (fun b => (zlw n kd al nc an c b : Int)) nc k b).1))), (4, .int (zi ((b : Nat) : Int))), (5, .int (zi ((zpop b : Nat) : Int)))] [.int (zi ((zfac (nc - 1 - zpop b) : Nat) : Int)), .int (zi ((zfac (zpop b) : Nat) : Int)), .int (zi ((zsr (fun b => (zlw n kd al nc an c b : Int)) nc k b).1))] (zup (zup (zup (zup μ 55 h) 39 g) 47 t) 53 a)
              refine z_imul K dX9_share_115 ?_
              rw [show (((zfac (zpop b) : Nat) : Int) * ((zfac (nc - 1 - zpop b) : Nat) : Int)) = ((zsw nc k b : Nat) : Int) from (by unfold zsw; push_cast; rfl)]
              refine z_aload_n K dX9_share_116 rfl ?_
              refine z_get (k := 39) (v := .ref (ad 55)) K dX9_share_117 fl_X9_56 rfl rfl rfl ?_
              refine z_iload K dX9_share_120 rfl ?_
              refine z_iald (k := 55) (v := (fun b => (zlw n kd al nc an c b : Int)) b) K dX9_share_122 b rfl (by decide) (by omega) (by omega) (hfil b (by omega)) ?_
              refine z_aload_n K dX9_share_123 rfl ?_
              refine z_get (k := 39) (v := .ref (ad 55)) K dX9_share_124 fl_X9_56 rfl rfl rfl ?_
              refine z_iload K dX9_share_127 rfl ?_
              refine z_iconst K dX9_share_129 ?_
              refine z_iload_n K dX9_share_130 rfl ?_
              refine z_ishlR (z := zi ((2 ^ k : Nat) : Int)) K dX9_share_131 (zb_shl k (by omega)) ?_
              refine z_iorR (z := zi ((b ||| 2 ^ k : Nat) : Int)) K dX9_share_132 (zb_or _ _) ?_
              refine z_iald (k := 55) (v := (fun b => (zlw n kd al nc an c b : Int)) (b ||| 2 ^ k)) K dX9_share_133 (b ||| 2 ^ k) rfl (by decide) (by omega) (by omega) (hfil _ (by omega)) ?_
              refine z_isub K dX9_share_134 ?_
              refine z_imul K dX9_share_135 ?_
              refine z_iadd K dX9_share_136 ?_
              refine z_istore_n (lv' := [(0, .ref (ad 39)), (1, .int (zi ((k : Nat) : Int))), (2, .int (zi q)), (3, .int (zi (((zsr (fun b => (zlw n kd al nc an c b : Int)) nc k b).1) + (((zsw nc k b : Nat) : Int) * (((fun b => (zlw n kd al nc an c b : Int)) b) - ((fun b => (zlw n kd al nc an c b : Int)) (b ||| 2 ^ k))))))), (4, .int (zi ((b : Nat) : Int))), (5, .int (zi ((zpop b : Nat) : Int)))]) K dX9_share_137 (by decide) rfl ?_
              refine z_iincN (lv' := [(0, .ref (ad 39)), (1, .int (zi ((k : Nat) : Int))), (2, .int (zi q)), (3, .int (zi (((zsr (fun b => (zlw n kd al nc an c b : Int)) nc k b).1) + (((zsw nc k b : Nat) : Int) * (((fun b => (zlw n kd al nc an c b : Int)) b) - ((fun b => (zlw n kd al nc an c b : Int)) (b ||| 2 ^ k))))))), (4, .int (zi ((b + 1 : Nat) : Int))), (5, .int (zi ((zpop b : Nat) : Int)))]) K dX9_share_138 rfl (by decide) rfl ?_
              refine z_goto (tgt := 70) K dX9_share_141 (by decide) ?_
              refine z_ipick [0, 1, 2, 3, 4] rfl ?_
              have e9 : (zsr (fun b => (zlw n kd al nc an c b : Int)) nc k (b + 1)).1 = ((zsr (fun b => (zlw n kd al nc an c b : Int)) nc k b).1) + (((zsw nc k b : Nat) : Int) * (((fun b => (zlw n kd al nc an c b : Int)) b) - ((fun b => (zlw n kd al nc an c b : Int)) (b ||| 2 ^ k)))) := by
                rw [zsr_s]
                rw [if_pos (by omega)]
              have q9 := ih (b + 1) (by omega) (by omega)
              rw [e9] at q9
              exact q9
        exact L70 0 (Nat.zero_le _)
      · refine z_aload_n K dX9_share_27 rfl ?_
        have hm9 : zMP (zup (zup μ 55 h) 39 (zu1 (zu1 g 24 (7 : Int)) 24 ((b : Nat) : Int))) n nc kd al wt an := zMP_fr hm (zFr_h (zFr_c (zFr_0 μ) (by decide) h) (zFh_u (zFh_u hgf (by decide) _) (by decide) _))
        refine z_callVm K hl1 hg1 (kb := 39) (As := []) (rest := []) (cm_begin la g0 ad (zup μ 55 h) g t a) (by decide) lk_X9_191 cd_X9_begin rfl rfl rfl rfl (Nat.le_of_ble_eq_true rfl) dX9_share_28 ?_
        refine z_aload_n K dX9_share_31 rfl ?_
        refine z_iload_n K dX9_share_32 rfl ?_
        refine z_puti (k := 39) K dX9_share_33 fp_X9_141 rfl rfl (z_mem (ν := zup (zup (zup (zup μ 55 h) 39 (zu1 (zu1 g 24 (7 : Int)) 24 ((b : Nat) : Int))) 47 (μ 46)) 53 a) (zup_sw3 _ (by decide) (by decide) _ _ _ _) ?_)
        refine z_aload_n K dX9_share_36 rfl ?_
        refine z_bipush K dX9_share_37 (by decide +kernel) ?_
        have hzv := zaw_ok hn6 hnc3 hw b nc (Nat.le_refl _)
        refine z_callVv K hl1 hg1 (kb := 39) (As := [.int (zi (9 : Int))]) (rest := []) (cm_goDays la g0 ad (zup (zup μ 55 h) 39 (zu1 (zu1 g 24 (7 : Int)) 24 ((b : Nat) : Int))) n nc b kd al wt an (μ 46) (zaw c b nc) a hm9 hzv (zaw_ag hn6 hnc3 hg b) rfl (by omega) 9 (by decide)) (by decide) lk_X9_194 cd_X9_goDays rfl rfl rfl rfl (Nat.le_of_ble_eq_true rfl) dX9_share_39 (fun ν h39 => ?_)
        obtain ⟨q2, hν, hag2⟩ := h39
        subst hν
        have hdo := zdays_ok hpk (s := (zaw c b nc, a)) hzv 9
        have hb2 : zwho (zdays n kd al nc an 9 (zaw c b nc, a)).1 2 n ||| zwho (zdays n kd al nc an 9 (zaw c b nc, a)).1 3 n < 64 := Nat.or_lt_two_pow (n := 6) (Nat.lt_of_lt_of_le (zwho_lt _ 2 n) (Nat.pow_le_pow_right (by decide) hn6)) (Nat.lt_of_lt_of_le (zwho_lt _ 3 n) (Nat.pow_le_pow_right (by decide) hn6))
        have hvl : zlost n (zdays n kd al nc an 9 (zaw c b nc, a)).1 = zlw n kd al nc an c b := by
          unfold zlw
          rw [zdays_fst n kd al nc an (zaw c b nc, a) (zaw c b nc, zz0) rfl]
        refine z_aload_n K dX9_share_42 rfl ?_
        refine z_get (k := 39) (v := .ref (ad 55)) K dX9_share_43 fl_X9_56 rfl rfl rfl ?_
        refine z_iload_n K dX9_share_46 rfl ?_
        refine z_aload_n K dX9_share_47 rfl ?_
        refine z_aload_n K dX9_share_48 rfl ?_
        refine z_get (k := 39) (v := .ref (ad 47)) K dX9_share_49 fl_X9_31 rfl rfl rfl ?_
        refine z_callVd K hl1 hg1 (kb := 39) (As := [.ref (ad 47)]) (rest := [.int (zi ((b : Nat) : Int)), .ref (ad 55)]) (cm_lost_r la g0 ad (zup (zup (zup (zup μ 55 h) 39 (zu1 (zu1 g 24 (7 : Int)) 24 ((b : Nat) : Int))) 47 q2) 53 ((zdays n kd al nc an 9 (zaw c b nc, a)).2)) n nc b kd al wt an (zdays n kd al nc an 9 (zaw c b nc, a)).1 hm9 hdo.1 hag2) (by decide) lk_X9_198 cd_X9_lost rfl rfl rfl rfl (Nat.le_of_ble_eq_true rfl) dX9_share_52 ?_
        show zV χ 6 ad zSH 0 0 55 [(0, .ref (ad 39)), (1, .int (zi ((k : Nat) : Int))), (2, .int (zi q)), (3, .int (zi ((b : Nat) : Int)))] [.int (zi ((zwho (zdays n kd al nc an 9 (zaw c b nc, a)).1 2 n ||| zwho (zdays n kd al nc an 9 (zaw c b nc, a)).1 3 n : Nat) : Int)), .int (zi ((b : Nat) : Int)), .ref (ad 55)] (zup (zup (zup (zup μ 55 h) 39 (zu1 (zu1 g 24 (7 : Int)) 24 ((b : Nat) : Int))) 47 q2) 53 ((zdays n kd al nc an 9 (zaw c b nc, a)).2))
        refine z_callSd K hl1 hg1 (As := [.int (zi ((zwho (zdays n kd al nc an 9 (zaw c b nc, a)).1 2 n ||| zwho (zdays n kd al nc an 9 (zaw c b nc, a)).1 3 n : Nat) : Int))]) (rest := [.int (zi ((b : Nat) : Int)), .ref (ad 55)]) (cm_many la g0 ad (zup (zup (zup (zup μ 55 h) 39 (zu1 (zu1 g 24 (7 : Int)) 24 ((b : Nat) : Int))) 47 q2) 53 ((zdays n kd al nc an 9 (zaw c b nc, a)).2)) (zwho (zdays n kd al nc an 9 (zaw c b nc, a)).1 2 n ||| zwho (zdays n kd al nc an 9 (zaw c b nc, a)).1 3 n) hb2) (by decide) lk_X9_128 cd_X9_many rfl rfl (Nat.le_of_ble_eq_true rfl) dX9_share_55 ?_
        show zV χ 6 ad zSH 0 0 58 [(0, .ref (ad 39)), (1, .int (zi ((k : Nat) : Int))), (2, .int (zi q)), (3, .int (zi ((b : Nat) : Int)))] [.int (zi ((zlost n (zdays n kd al nc an 9 (zaw c b nc, a)).1 : Nat) : Int)), .int (zi ((b : Nat) : Int)), .ref (ad 55)] (zup (zup (zup (zup μ 55 h) 39 (zu1 (zu1 g 24 (7 : Int)) 24 ((b : Nat) : Int))) 47 q2) 53 ((zdays n kd al nc an 9 (zaw c b nc, a)).2))
        rw [show ((zlost n (zdays n kd al nc an 9 (zaw c b nc, a)).1 : Nat) : Int) = ((zlw n kd al nc an c b : Nat) : Int) from (by rw [hvl])]
        refine z_iast (k := 55) K dX9_share_58 b rfl (by decide) (by omega) (by omega) (z_mem (ν := zup (zup (zup (zup μ 55 (zu1 h b ((zlw n kd al nc an c b : Nat) : Int))) 39 (zu1 (zu1 g 24 (7 : Int)) 24 ((b : Nat) : Int))) 47 q2) 53 ((zdays n kd al nc an 9 (zaw c b nc, a)).2)) (zup_sw4 _ (by decide) (by decide) (by decide) _ _ _ _ _) ?_)
        refine z_iincN (lv' := [(0, .ref (ad 39)), (1, .int (zi ((k : Nat) : Int))), (2, .int (zi q)), (3, .int (zi ((b + 1 : Nat) : Int)))]) K dX9_share_59 rfl (by decide) rfl ?_
        refine z_goto (tgt := 17) K dX9_share_62 (by decide) ?_
        exact ih (b + 1) (by omega) (by omega) _ _ _ _ (zFh_u (zFh_u hgf (by decide) _) (by decide) _) (fun j hj => by
          by_cases e : j = b
          · subst e; exact zu1_eq _ _ _
          · rw [zu1_ne _ _ e]; exact hfil j (by omega))
    exact L17 0 (Nat.zero_le _) _ _ _ _ (zFh_u (zFh_0 _) (by decide) _) (fun j hj => absurd hj (by omega))
  · refine z_iconst K dX9_share_13 ?_
    exact z_ireti K T rfl dX9_share_14 ⟨by unfold zA_share; rw [if_neg (by omega)], zFr_c (zFr_c (zFr_h (zFr_c (zFr_0 μ) (by decide) _) (zFh_u (zFh_0 _) (by decide) _)) (by decide) _) (by decide) _⟩
