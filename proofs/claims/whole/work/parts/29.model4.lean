/-- a page P and the answered ones behind -/
def zGo (μ : zMem) (P n nc S : Nat) (F : zS) (ν : zMem) : Prop := ∃ q, ν = zup (zup μ P q) 53 F.2 ∧ zAg n nc S q F.1
theorem zpo_at (c : Nat → Int) (x : Int) (n : Nat) (hn : n ≤ 6) {b : Nat} (hb : c (12 + b) ≠ 0) : ∀ o, o ≤ n → zpo c x o b = c b := by
  intro o
  induction o with
  | zero => intro _; rfl
  | succ o ih =>
    intro ho
    rw [zpo_s]
    split
    · rename_i h
      rw [zu1_ne]
      · exact ih (by omega)
      · intro e
        subst e
        rw [zpo_keep c x n hn b (by omega) (12 + b) (by omega)] at h
        exact hb h.1
    · exact ih (by omega)
theorem zhat_if (n : Nat) (kd c : Nat → Int) (l : Nat) (h : kd l = 1) : zhat n kd c l = if 4 ≤ c l then zpo (zu1 c (12 + l) 2) (c l) n else zu1 c (12 + l) 2 := by
  unfold zhat
  by_cases h4 : 4 ≤ c l
  · rw [if_pos ⟨h, h4⟩, if_pos h4]
  · rw [if_neg (fun q => h4 q.2), if_neg h4]
theorem zhat_no (n : Nat) (kd c : Nat → Int) (l : Nat) (h : ¬ kd l = 1) : zhat n kd c l = zu1 c (12 + l) 2 := by
  unfold zhat
  rw [if_neg (fun q => h q.1)]
set_option maxHeartbeats 4000000 in
set_option maxRecDepth 100000 in
theorem cm_answer_g (la : Launch) (g0 : zG) (ad : Nat → Nat) (μ : zMem) (n nc S : Nat) (kd al wt an p c a : Nat → Int) (hm : zMP μ n nc kd al wt an) (hw : zHW n nc c) (hg : zAg n nc S p c) (k : Nat) (hk : k < nc) (hb : zbit S k = 1) : zCon la g0 yX9_answer cX9_answer 5 none 4 ad zSH [.ref (ad 39), .ref (ad 46), .int (zi ((k : Nat) : Int))] (zup (zup μ 46 p) 53 a) (zPv (zGo μ 46 n nc S (zca n kd al k (an k).toNat (c, a)))) := by
  refine zCon_of (by decide +kernel) (Nat.le_of_ble_eq_true rfl) ?_
  intro χ K T hl1 hg1
  have K : zOk χ cX9_answer RX9 5 4 none := K
  obtain ⟨hn, hnc, hpl, hpa, hpk⟩ := id hm
  have hn6 := hpk.1
  have hnc3 := hpk.2.1
  have hpk1 := hpk.2.2.2 k hk
  have hpa1 := hpa k hk
  show zV χ 5 ad zSH 0 0 0 [(0, .ref (ad 39)), (1, .ref (ad 46)), (2, .int (zi ((k : Nat) : Int)))] [] (zup (zup μ 46 p) 53 a)
  refine z_iconst K dX9_answer_0 ?_
  refine z_istore_n (lv' := [(0, .ref (ad 39)), (1, .ref (ad 46)), (2, .int (zi ((k : Nat) : Int))), (3, .int (zi (0 : Int)))]) K dX9_answer_1 (by decide) rfl ?_
  have L2 : ∀ i, i ≤ (an k).toNat → ∀ (d q b : Nat → Int), zHW n nc d → zAg n nc S q d → zca n kd al k ((an k).toNat - i) (d, b) = zca n kd al k (an k).toNat (c, a) → zV χ 5 ad zSH 0 0 2 [(0, .ref (ad 39)), (1, .ref (ad 46)), (2, .int (zi ((k : Nat) : Int))), (3, .int (zi ((i : Nat) : Int)))] [] (zup (zup μ 46 q) 53 b) := by
    refine zfor ?_
    intro i hi ih d q b hv hag hF
    have hw2 := hv.2.1 k hk
    have hb2 := (hag.2.1 k hk).1 hb
    have hz := zmp_rg hpk hv (d (18 + k)) n (Nat.le_refl _)
    refine z_iload_n K dX9_answer_2 rfl ?_
    refine z_aload_n K dX9_answer_3 rfl ?_
    refine z_get (k := 39) (v := .ref (ad 43)) K dX9_answer_4 fl_X9_19 rfl rfl rfl ?_
    refine z_iload_n K dX9_answer_7 rfl ?_
    refine z_iald (k := 43) (v := an k) K dX9_answer_8 k rfl (by decide) (by omega) (by omega) hpa1 ?_
    refine z_icmpge (tgt := 56) K dX9_answer_9 (by decide) (by omega) (by omega) (fun h9 => ?_) (fun h9 => ?_)
    · exact z_vreti K T rfl dX9_answer_56 (by
          rw [show (an k).toNat - i = 0 by omega] at hF
          exact ⟨q, by rw [← hF]; rfl, by rw [← hF]; exact hag⟩)
    · refine z_aload_n K dX9_answer_12 rfl ?_
      refine z_aload_n K dX9_answer_13 rfl ?_
      refine z_aload_n K dX9_answer_14 rfl ?_
      refine z_bipush K dX9_answer_15 (by decide +kernel) ?_
      refine z_iload_n K dX9_answer_17 rfl ?_
      refine z_iadd K dX9_answer_18 ?_
      refine z_iald (k := 46) (v := d (18 + k)) K dX9_answer_19 (18 + k) rfl (by decide) (by omega) (by omega) hb2 ?_
      refine z_callVd K hl1 hg1 (kb := 39) (As := [.ref (ad 46), .int (zi (d (18 + k)))]) (rest := []) (cm_nextOf_g la g0 ad (zup (zup μ 46 q) 53 b) n nc S kd al wt an d hm hv hag (d (18 + k)) hw2) (by decide) lk_X9_134 cd_X9_nextOf rfl rfl rfl rfl (Nat.le_of_ble_eq_true rfl) dX9_answer_20 ?_
      show zV χ 5 ad zSH 0 0 23 [(0, .ref (ad 39)), (1, .ref (ad 46)), (2, .int (zi ((k : Nat) : Int))), (3, .int (zi ((i : Nat) : Int)))] [.int (zi ((zmp n kd al d (d (18 + k)) n).1))] (zup (zup μ 46 q) 53 b)
      refine z_istore (lv' := [(0, .ref (ad 39)), (1, .ref (ad 46)), (2, .int (zi ((k : Nat) : Int))), (3, .int (zi ((i : Nat) : Int))), (4, .int (zi ((zmp n kd al d (d (18 + k)) n).1)))]) K dX9_answer_23 (by decide) rfl ?_
      refine z_iload K dX9_answer_25 rfl ?_
      refine z_bipush K dX9_answer_27 (by decide +kernel) ?_
      refine z_icmpeq (tgt := 50) K dX9_answer_29 (by decide) (by omega) ⟨by decide, by decide⟩ (fun h29 => ?_) (fun h29 => ?_)
      · refine z_iincN (lv' := [(0, .ref (ad 39)), (1, .ref (ad 46)), (2, .int (zi ((k : Nat) : Int))), (3, .int (zi ((i + 1 : Nat) : Int))), (4, .int (zi ((zmp n kd al d (d (18 + k)) n).1)))]) K dX9_answer_50 rfl (by decide) rfl ?_
        refine z_goto (tgt := 2) K dX9_answer_53 (by decide) ?_
        refine z_ipick [0, 1, 2, 3] rfl ?_
        exact ih (i + 1) (by omega) (by omega) _ _ _ hv hag (by
          rw [zca_no (s := (d, b)) h29] at hF ⊢
          exact hF)
      · refine z_aload_n K dX9_answer_32 rfl ?_
        refine z_bipush K dX9_answer_33 (by decide +kernel) ?_
        refine z_iload K dX9_answer_35 rfl ?_
        refine z_iadd K dX9_answer_37 ?_
        refine z_iconst K dX9_answer_38 ?_
        refine z_iast (k := 46) K dX9_answer_39 (6 + (zmp n kd al d (d (18 + k)) n).1.toNat) rfl (by decide) (by omega) (by omega) (z_mem (ν := zup (zup μ 46 (zu1 q (6 + (zmp n kd al d (d (18 + k)) n).1.toNat) (1 : Int))) 53 b) (zup_sw _ (by decide) _ _ _) ?_)
        refine z_aload_n K dX9_answer_40 rfl ?_
        refine z_get (k := 39) (v := .ref (ad 53)) K dX9_answer_41 fl_X9_50 rfl rfl rfl ?_
        refine z_iload_n K dX9_answer_44 rfl ?_
        refine z_dup2 K dX9_answer_45 rfl rfl ?_
        refine z_iald (k := 53) (v := b k) K dX9_answer_46 k rfl (by decide) (by omega) (by omega) rfl ?_
        refine z_iconst K dX9_answer_47 ?_
        refine z_iadd K dX9_answer_48 ?_
        refine z_iast (k := 53) K dX9_answer_49 k rfl (by decide) (by omega) (by omega) (z_mem (ν := zup (zup μ 46 (zu1 q (6 + (zmp n kd al d (d (18 + k)) n).1.toNat) (1 : Int))) 53 (zu1 b k ((b k) + (1 : Int)))) (zup_same _ _ _ _) ?_)
        refine z_iincN (lv' := [(0, .ref (ad 39)), (1, .ref (ad 46)), (2, .int (zi ((k : Nat) : Int))), (3, .int (zi ((i + 1 : Nat) : Int))), (4, .int (zi ((zmp n kd al d (d (18 + k)) n).1)))]) K dX9_answer_50 rfl (by decide) rfl ?_
        refine z_goto (tgt := 2) K dX9_answer_53 (by decide) ?_
        refine z_ipick [0, 1, 2, 3] rfl ?_
        exact ih (i + 1) (by omega) (by omega) (zu1 d (12 + (zmp n kd al d (d (18 + k)) n).1.toNat) 1) _ _ (zHW_fate hn6 hv (by omega) ⟨by decide, by decide⟩) (zAg_fate hn6 hag (by omega) 1) (by
          rw [show (an k).toNat - i = ((an k).toNat - (i + 1)) + 1 by omega, zca_s, if_neg h29] at hF
          exact hF)
  exact L2 0 (by omega) c p a hw hg rfl
set_option maxHeartbeats 4000000 in
set_option maxRecDepth 100000 in
theorem cm_putOut_g (la : Launch) (g0 : zG) (ad : Nat → Nat) (μ : zMem) (n nc S : Nat) (kd al wt an p c a : Nat → Int) (hm : zMP μ n nc kd al wt an) (hw : zHW n nc c) (hg : zAg n nc S p c) (b : Nat) (hb : b < n) (hf : c (12 + b) = 2) (x : Int) (hx : c b = x) : zCon la g0 yX9_putOut cX9_putOut 5 none 0 ad zSH [.ref (ad 39), .ref (ad 46), .int (zi ((b : Nat) : Int))] (zup (zup μ 46 p) 53 a) (zPv (zGo μ 46 n nc S ((if 4 ≤ x then zpo c x n else c), a))) := by
  refine zCon_of (by decide +kernel) (Nat.le_of_ble_eq_true rfl) ?_
  intro χ K T hl1 hg1
  have K : zOk χ cX9_putOut RX9 5 0 none := K
  obtain ⟨hn, hnc, hpl, hpa, hpk⟩ := id hm
  have hn6 := hpk.1
  have hnc3 := hpk.2.1
  have hwb := hw.1 b hb
  show zV χ 5 ad zSH 0 0 0 [(0, .ref (ad 39)), (1, .ref (ad 46)), (2, .int (zi ((b : Nat) : Int)))] [] (zup (zup μ 46 p) 53 a)
  refine z_iconst K dX9_putOut_0 ?_
  refine z_istore_n (lv' := [(0, .ref (ad 39)), (1, .ref (ad 46)), (2, .int (zi ((b : Nat) : Int))), (3, .int (zi (0 : Int)))]) K dX9_putOut_1 (by decide) rfl ?_
  have L2 : ∀ l, l ≤ n → ∀ (d q : Nat → Int), zHW n nc d → (if 4 ≤ x then zpo c x l else c) = d → zAg n nc S q d → zV χ 5 ad zSH 0 0 2 [(0, .ref (ad 39)), (1, .ref (ad 46)), (2, .int (zi ((b : Nat) : Int))), (3, .int (zi ((l : Nat) : Int)))] [] (zup (zup μ 46 q) 53 a) := by
    refine zfor ?_
    intro l hl ih d q hv hd hag
    have hdb : d b = x := by
      rw [← hd, ← hx]
      split
      · exact zpo_at c _ n hn6 (by omega) l hl
      · rfl
    have hdf : d (12 + b) = 2 := by
      rw [← hd]
      split
      · rw [zpo_keep c x n hn6 l hl _ (by omega)]; exact hf
      · exact hf
    have hlb : l ≠ b ∨ d (12 + l) = 2 := by
      by_cases e : l = b
      · subst e; exact Or.inr hdf
      · exact Or.inl e
    have agb := hag.1 b hb
    refine z_iload_n K dX9_putOut_2 rfl ?_
    refine z_aload_n K dX9_putOut_3 rfl ?_
    refine z_get (k := 39) (v := .int (zi (μ 39 4))) K dX9_putOut_4 fl_X9_63 rfl rfl rfl ?_
    refine z_icmpge (tgt := 69) K dX9_putOut_7 (by decide) (by omega) (by omega) (fun h7 => ?_) (fun h7 => ?_)
    · exact z_vreti K T rfl dX9_putOut_69 (by
          have e : l = n := by omega
          rw [e] at hd
          exact ⟨q, rfl, by rw [hd]; exact hag⟩)
    · have ag := hag.1 l (by omega)
      have hvl := hv.1 l (by omega)
      refine z_iload_n K dX9_putOut_10 rfl ?_
      refine z_iload_n K dX9_putOut_11 rfl ?_
      refine z_icmpeq (tgt := 44) K dX9_putOut_12 (by decide) (by omega) (by omega) (fun h12 => ?_) (fun h12 => ?_)
      · refine z_iconst K dX9_putOut_44 ?_
        refine z_istore (lv' := [(0, .ref (ad 39)), (1, .ref (ad 46)), (2, .int (zi ((b : Nat) : Int))), (3, .int (zi ((l : Nat) : Int))), (4, .int (zi (0 : Int)))]) K dX9_putOut_45 (by decide) rfl ?_
        refine z_aload_n K dX9_putOut_47 rfl ?_
        refine z_iload_n K dX9_putOut_48 rfl ?_
        refine z_dup2 K dX9_putOut_49 rfl rfl ?_
        refine z_iald (k := 46) (v := d l) K dX9_putOut_50 l rfl (by decide) (by omega) (by omega) ag.1 ?_
        refine z_iload K dX9_putOut_51 rfl ?_
        refine z_ifeq (tgt := 60) K dX9_putOut_53 (by decide) ⟨by decide, by decide⟩ (fun h53 => ?_) (fun h53 => ?_)
        · refine z_iconst K dX9_putOut_60 ?_
          refine z_isub K dX9_putOut_61 ?_
          refine z_iast (k := 46) K dX9_putOut_62 l rfl (by decide) (by omega) (by omega) (z_mem (ν := zup (zup μ 46 (zu1 q l ((d l) - (0 : Int)))) 53 a) (zup_sw _ (by decide) _ _ _) ?_)
          refine z_iincN (lv' := [(0, .ref (ad 39)), (1, .ref (ad 46)), (2, .int (zi ((b : Nat) : Int))), (3, .int (zi ((l + 1 : Nat) : Int))), (4, .int (zi (0 : Int)))]) K dX9_putOut_63 rfl (by decide) rfl ?_
          refine z_goto (tgt := 2) K dX9_putOut_66 (by decide) ?_
          refine z_ipick [0, 1, 2, 3] rfl ?_
          exact ih (l + 1) (by omega) (by omega) d _ hv (by
            by_cases h4 : 4 ≤ x
            · rw [if_pos h4] at hd ⊢
              rw [zpo_s, hd, if_neg (by omega)]
            · rw [if_neg h4] at hd ⊢
              exact hd) (zAg_same hag l (by omega))
        · refine z_iconst K dX9_putOut_56 ?_
          refine z_goto (tgt := 61) K dX9_putOut_57 (by decide) ?_
          refine z_isub K dX9_putOut_61 ?_
          refine z_iast (k := 46) K dX9_putOut_62 l rfl (by decide) (by omega) (by omega) (z_mem (ν := zup (zup μ 46 (zu1 q l ((d l) - (4 : Int)))) 53 a) (zup_sw _ (by decide) _ _ _) ?_)
          refine z_iincN (lv' := [(0, .ref (ad 39)), (1, .ref (ad 46)), (2, .int (zi ((b : Nat) : Int))), (3, .int (zi ((l + 1 : Nat) : Int))), (4, .int (zi (0 : Int)))]) K dX9_putOut_63 rfl (by decide) rfl ?_
          refine z_goto (tgt := 2) K dX9_putOut_66 (by decide) ?_
          refine z_ipick [0, 1, 2, 3] rfl ?_
          exact ih (l + 1) (by omega) (by omega) (zu1 d l (d l - (4 : Int))) _ (zHW_hole hn6 hv (by omega) ⟨by omega, by omega⟩) (by
            rw [if_pos (by omega)] at hd ⊢
            rw [zpo_s, hd, if_pos ⟨by omega, by omega⟩, show x - 4 = d l - (4 : Int) by omega]) (zAg_hole hn6 hag (by omega) _)
      · refine z_aload_n K dX9_putOut_15 rfl ?_
        refine z_bipush K dX9_putOut_16 (by decide +kernel) ?_
        refine z_iload_n K dX9_putOut_18 rfl ?_
        refine z_iadd K dX9_putOut_19 ?_
        refine z_iald (k := 46) (v := d (12 + l)) K dX9_putOut_20 (6 + l) rfl (by decide) (by omega) (by omega) ag.2.1 ?_
        refine z_ifne (tgt := 44) K dX9_putOut_21 (by decide) (by omega) (fun h21 => ?_) (fun h21 => ?_)
        · refine z_iconst K dX9_putOut_44 ?_
          refine z_istore (lv' := [(0, .ref (ad 39)), (1, .ref (ad 46)), (2, .int (zi ((b : Nat) : Int))), (3, .int (zi ((l : Nat) : Int))), (4, .int (zi (0 : Int)))]) K dX9_putOut_45 (by decide) rfl ?_
          refine z_aload_n K dX9_putOut_47 rfl ?_
          refine z_iload_n K dX9_putOut_48 rfl ?_
          refine z_dup2 K dX9_putOut_49 rfl rfl ?_
          refine z_iald (k := 46) (v := d l) K dX9_putOut_50 l rfl (by decide) (by omega) (by omega) ag.1 ?_
          refine z_iload K dX9_putOut_51 rfl ?_
          refine z_ifeq (tgt := 60) K dX9_putOut_53 (by decide) ⟨by decide, by decide⟩ (fun h53 => ?_) (fun h53 => ?_)
          · refine z_iconst K dX9_putOut_60 ?_
            refine z_isub K dX9_putOut_61 ?_
            refine z_iast (k := 46) K dX9_putOut_62 l rfl (by decide) (by omega) (by omega) (z_mem (ν := zup (zup μ 46 (zu1 q l ((d l) - (0 : Int)))) 53 a) (zup_sw _ (by decide) _ _ _) ?_)
            refine z_iincN (lv' := [(0, .ref (ad 39)), (1, .ref (ad 46)), (2, .int (zi ((b : Nat) : Int))), (3, .int (zi ((l + 1 : Nat) : Int))), (4, .int (zi (0 : Int)))]) K dX9_putOut_63 rfl (by decide) rfl ?_
            refine z_goto (tgt := 2) K dX9_putOut_66 (by decide) ?_
            refine z_ipick [0, 1, 2, 3] rfl ?_
            exact ih (l + 1) (by omega) (by omega) d _ hv (by
              by_cases h4 : 4 ≤ x
              · rw [if_pos h4] at hd ⊢
                rw [zpo_s, hd, if_neg (by omega)]
              · rw [if_neg h4] at hd ⊢
                exact hd) (zAg_same hag l (by omega))
          · refine z_iconst K dX9_putOut_56 ?_
            refine z_goto (tgt := 61) K dX9_putOut_57 (by decide) ?_
            refine z_isub K dX9_putOut_61 ?_
            refine z_iast (k := 46) K dX9_putOut_62 l rfl (by decide) (by omega) (by omega) (z_mem (ν := zup (zup μ 46 (zu1 q l ((d l) - (4 : Int)))) 53 a) (zup_sw _ (by decide) _ _ _) ?_)
            refine z_iincN (lv' := [(0, .ref (ad 39)), (1, .ref (ad 46)), (2, .int (zi ((b : Nat) : Int))), (3, .int (zi ((l + 1 : Nat) : Int))), (4, .int (zi (0 : Int)))]) K dX9_putOut_63 rfl (by decide) rfl ?_
            refine z_goto (tgt := 2) K dX9_putOut_66 (by decide) ?_
            refine z_ipick [0, 1, 2, 3] rfl ?_
            exact ih (l + 1) (by omega) (by omega) (zu1 d l (d l - (4 : Int))) _ (zHW_hole hn6 hv (by omega) ⟨by omega, by omega⟩) (by
              rw [if_pos (by omega)] at hd ⊢
              rw [zpo_s, hd, if_pos ⟨by omega, by omega⟩, show x - 4 = d l - (4 : Int) by omega]) (zAg_hole hn6 hag (by omega) _)
        · refine z_aload_n K dX9_putOut_24 rfl ?_
          refine z_iload_n K dX9_putOut_25 rfl ?_
          refine z_iald (k := 46) (v := d l) K dX9_putOut_26 l rfl (by decide) (by omega) (by omega) ag.1 ?_
          refine z_aload_n K dX9_putOut_27 rfl ?_
          refine z_iload_n K dX9_putOut_28 rfl ?_
          refine z_iald (k := 46) (v := d b) K dX9_putOut_29 b rfl (by decide) (by omega) (by omega) agb.1 ?_
          refine z_icmpne (tgt := 44) K dX9_putOut_30 (by decide) (by omega) (by omega) (fun h30 => ?_) (fun h30 => ?_)
          · refine z_iconst K dX9_putOut_44 ?_
            refine z_istore (lv' := [(0, .ref (ad 39)), (1, .ref (ad 46)), (2, .int (zi ((b : Nat) : Int))), (3, .int (zi ((l : Nat) : Int))), (4, .int (zi (0 : Int)))]) K dX9_putOut_45 (by decide) rfl ?_
            refine z_aload_n K dX9_putOut_47 rfl ?_
            refine z_iload_n K dX9_putOut_48 rfl ?_
            refine z_dup2 K dX9_putOut_49 rfl rfl ?_
            refine z_iald (k := 46) (v := d l) K dX9_putOut_50 l rfl (by decide) (by omega) (by omega) ag.1 ?_
            refine z_iload K dX9_putOut_51 rfl ?_
            refine z_ifeq (tgt := 60) K dX9_putOut_53 (by decide) ⟨by decide, by decide⟩ (fun h53 => ?_) (fun h53 => ?_)
            · refine z_iconst K dX9_putOut_60 ?_
              refine z_isub K dX9_putOut_61 ?_
              refine z_iast (k := 46) K dX9_putOut_62 l rfl (by decide) (by omega) (by omega) (z_mem (ν := zup (zup μ 46 (zu1 q l ((d l) - (0 : Int)))) 53 a) (zup_sw _ (by decide) _ _ _) ?_)
              refine z_iincN (lv' := [(0, .ref (ad 39)), (1, .ref (ad 46)), (2, .int (zi ((b : Nat) : Int))), (3, .int (zi ((l + 1 : Nat) : Int))), (4, .int (zi (0 : Int)))]) K dX9_putOut_63 rfl (by decide) rfl ?_
              refine z_goto (tgt := 2) K dX9_putOut_66 (by decide) ?_
              refine z_ipick [0, 1, 2, 3] rfl ?_
              exact ih (l + 1) (by omega) (by omega) d _ hv (by
                by_cases h4 : 4 ≤ x
                · rw [if_pos h4] at hd ⊢
                  rw [zpo_s, hd, if_neg (by omega)]
                · rw [if_neg h4] at hd ⊢
                  exact hd) (zAg_same hag l (by omega))
            · refine z_iconst K dX9_putOut_56 ?_
              refine z_goto (tgt := 61) K dX9_putOut_57 (by decide) ?_
              refine z_isub K dX9_putOut_61 ?_
              refine z_iast (k := 46) K dX9_putOut_62 l rfl (by decide) (by omega) (by omega) (z_mem (ν := zup (zup μ 46 (zu1 q l ((d l) - (4 : Int)))) 53 a) (zup_sw _ (by decide) _ _ _) ?_)
              refine z_iincN (lv' := [(0, .ref (ad 39)), (1, .ref (ad 46)), (2, .int (zi ((b : Nat) : Int))), (3, .int (zi ((l + 1 : Nat) : Int))), (4, .int (zi (0 : Int)))]) K dX9_putOut_63 rfl (by decide) rfl ?_
              refine z_goto (tgt := 2) K dX9_putOut_66 (by decide) ?_
              refine z_ipick [0, 1, 2, 3] rfl ?_
              exact ih (l + 1) (by omega) (by omega) (zu1 d l (d l - (4 : Int))) _ (zHW_hole hn6 hv (by omega) ⟨by omega, by omega⟩) (by
                rw [if_pos (by omega)] at hd ⊢
                rw [zpo_s, hd, if_pos ⟨by omega, by omega⟩, show x - 4 = d l - (4 : Int) by omega]) (zAg_hole hn6 hag (by omega) _)
          · refine z_aload_n K dX9_putOut_33 rfl ?_
            refine z_iload_n K dX9_putOut_34 rfl ?_
            refine z_iald (k := 46) (v := d b) K dX9_putOut_35 b rfl (by decide) (by omega) (by omega) agb.1 ?_
            refine z_iconst K dX9_putOut_36 ?_
            refine z_icmple (tgt := 44) K dX9_putOut_37 (by decide) (by omega) ⟨by decide, by decide⟩ (fun h37 => ?_) (fun h37 => ?_)
            · refine z_iconst K dX9_putOut_44 ?_
              refine z_istore (lv' := [(0, .ref (ad 39)), (1, .ref (ad 46)), (2, .int (zi ((b : Nat) : Int))), (3, .int (zi ((l : Nat) : Int))), (4, .int (zi (0 : Int)))]) K dX9_putOut_45 (by decide) rfl ?_
              refine z_aload_n K dX9_putOut_47 rfl ?_
              refine z_iload_n K dX9_putOut_48 rfl ?_
              refine z_dup2 K dX9_putOut_49 rfl rfl ?_
              refine z_iald (k := 46) (v := d l) K dX9_putOut_50 l rfl (by decide) (by omega) (by omega) ag.1 ?_
              refine z_iload K dX9_putOut_51 rfl ?_
              refine z_ifeq (tgt := 60) K dX9_putOut_53 (by decide) ⟨by decide, by decide⟩ (fun h53 => ?_) (fun h53 => ?_)
              · refine z_iconst K dX9_putOut_60 ?_
                refine z_isub K dX9_putOut_61 ?_
                refine z_iast (k := 46) K dX9_putOut_62 l rfl (by decide) (by omega) (by omega) (z_mem (ν := zup (zup μ 46 (zu1 q l ((d l) - (0 : Int)))) 53 a) (zup_sw _ (by decide) _ _ _) ?_)
                refine z_iincN (lv' := [(0, .ref (ad 39)), (1, .ref (ad 46)), (2, .int (zi ((b : Nat) : Int))), (3, .int (zi ((l + 1 : Nat) : Int))), (4, .int (zi (0 : Int)))]) K dX9_putOut_63 rfl (by decide) rfl ?_
                refine z_goto (tgt := 2) K dX9_putOut_66 (by decide) ?_
                refine z_ipick [0, 1, 2, 3] rfl ?_
                exact ih (l + 1) (by omega) (by omega) d _ hv (by
                  by_cases h4 : 4 ≤ x
                  · rw [if_pos h4] at hd ⊢
                    rw [zpo_s, hd, if_neg (by omega)]
                  · rw [if_neg h4] at hd ⊢
                    exact hd) (zAg_same hag l (by omega))
              · refine z_iconst K dX9_putOut_56 ?_
                refine z_goto (tgt := 61) K dX9_putOut_57 (by decide) ?_
                refine z_isub K dX9_putOut_61 ?_
                refine z_iast (k := 46) K dX9_putOut_62 l rfl (by decide) (by omega) (by omega) (z_mem (ν := zup (zup μ 46 (zu1 q l ((d l) - (4 : Int)))) 53 a) (zup_sw _ (by decide) _ _ _) ?_)
                refine z_iincN (lv' := [(0, .ref (ad 39)), (1, .ref (ad 46)), (2, .int (zi ((b : Nat) : Int))), (3, .int (zi ((l + 1 : Nat) : Int))), (4, .int (zi (0 : Int)))]) K dX9_putOut_63 rfl (by decide) rfl ?_
                refine z_goto (tgt := 2) K dX9_putOut_66 (by decide) ?_
                refine z_ipick [0, 1, 2, 3] rfl ?_
                exact ih (l + 1) (by omega) (by omega) (zu1 d l (d l - (4 : Int))) _ (zHW_hole hn6 hv (by omega) ⟨by omega, by omega⟩) (by
                  rw [if_pos (by omega)] at hd ⊢
                  rw [zpo_s, hd, if_pos ⟨by omega, by omega⟩, show x - 4 = d l - (4 : Int) by omega]) (zAg_hole hn6 hag (by omega) _)
            · refine z_iconst K dX9_putOut_40 ?_
              refine z_goto (tgt := 45) K dX9_putOut_41 (by decide) ?_
              refine z_istore (lv' := [(0, .ref (ad 39)), (1, .ref (ad 46)), (2, .int (zi ((b : Nat) : Int))), (3, .int (zi ((l : Nat) : Int))), (4, .int (zi (1 : Int)))]) K dX9_putOut_45 (by decide) rfl ?_
              refine z_aload_n K dX9_putOut_47 rfl ?_
              refine z_iload_n K dX9_putOut_48 rfl ?_
              refine z_dup2 K dX9_putOut_49 rfl rfl ?_
              refine z_iald (k := 46) (v := d l) K dX9_putOut_50 l rfl (by decide) (by omega) (by omega) ag.1 ?_
              refine z_iload K dX9_putOut_51 rfl ?_
              refine z_ifeq (tgt := 60) K dX9_putOut_53 (by decide) ⟨by decide, by decide⟩ (fun h53 => ?_) (fun h53 => ?_)
              · refine z_iconst K dX9_putOut_60 ?_
                refine z_isub K dX9_putOut_61 ?_
                refine z_iast (k := 46) K dX9_putOut_62 l rfl (by decide) (by omega) (by omega) (z_mem (ν := zup (zup μ 46 (zu1 q l ((d l) - (0 : Int)))) 53 a) (zup_sw _ (by decide) _ _ _) ?_)
                refine z_iincN (lv' := [(0, .ref (ad 39)), (1, .ref (ad 46)), (2, .int (zi ((b : Nat) : Int))), (3, .int (zi ((l + 1 : Nat) : Int))), (4, .int (zi (1 : Int)))]) K dX9_putOut_63 rfl (by decide) rfl ?_
                refine z_goto (tgt := 2) K dX9_putOut_66 (by decide) ?_
                refine z_ipick [0, 1, 2, 3] rfl ?_
                exact ih (l + 1) (by omega) (by omega) d _ hv (by
                  by_cases h4 : 4 ≤ x
                  · rw [if_pos h4] at hd ⊢
                    rw [zpo_s, hd, if_neg (by omega)]
                  · rw [if_neg h4] at hd ⊢
                    exact hd) (zAg_same hag l (by omega))
              · refine z_iconst K dX9_putOut_56 ?_
                refine z_goto (tgt := 61) K dX9_putOut_57 (by decide) ?_
                refine z_isub K dX9_putOut_61 ?_
                refine z_iast (k := 46) K dX9_putOut_62 l rfl (by decide) (by omega) (by omega) (z_mem (ν := zup (zup μ 46 (zu1 q l ((d l) - (4 : Int)))) 53 a) (zup_sw _ (by decide) _ _ _) ?_)
                refine z_iincN (lv' := [(0, .ref (ad 39)), (1, .ref (ad 46)), (2, .int (zi ((b : Nat) : Int))), (3, .int (zi ((l + 1 : Nat) : Int))), (4, .int (zi (1 : Int)))]) K dX9_putOut_63 rfl (by decide) rfl ?_
                refine z_goto (tgt := 2) K dX9_putOut_66 (by decide) ?_
                refine z_ipick [0, 1, 2, 3] rfl ?_
                exact ih (l + 1) (by omega) (by omega) (zu1 d l (d l - (4 : Int))) _ (zHW_hole hn6 hv (by omega) ⟨by omega, by omega⟩) (by
                  rw [if_pos (by omega)] at hd ⊢
                  rw [zpo_s, hd, if_pos ⟨by omega, by omega⟩, show x - 4 = d l - (4 : Int) by omega]) (zAg_hole hn6 hag (by omega) _)
  exact L2 0 (by omega) c p hw (by split <;> rfl) hg
set_option maxHeartbeats 4000000 in
set_option maxRecDepth 100000 in
theorem cm_hatch_g (la : Launch) (g0 : zG) (ad : Nat → Nat) (μ : zMem) (n nc S : Nat) (kd al wt an p c a : Nat → Int) (hm : zMP μ n nc kd al wt an) (hw : zHV n nc c) (hg : zAg n nc S p c) : zCon la g0 yX9_hatch cX9_hatch 4 (some .int) 2 ad zSH [.ref (ad 39), .ref (ad 46)] (zup (zup μ 46 p) 53 a) (zPi (fun r ν => r = (((zht n kd al (zwt c n) n).2 : Nat) : Int) ∧ zGo μ 46 n nc S ((zht n kd al (zwt c n) n).1, a) ν)) := by
  refine zCon_of (by decide +kernel) (Nat.le_of_ble_eq_true rfl) ?_
  intro χ K T hl1 hg1
  have K : zOk χ cX9_hatch RX9 4 2 (some .int) := K
  obtain ⟨hn, hnc, hpl, hpa, hpk⟩ := id hm
  have hn6 := hpk.1
  have hnc3 := hpk.2.1
  show zV χ 4 ad zSH 0 0 0 [(0, .ref (ad 39)), (1, .ref (ad 46))] [] (zup (zup μ 46 p) 53 a)
  refine z_iconst K dX9_hatch_0 ?_
  refine z_istore_n (lv' := [(0, .ref (ad 39)), (1, .ref (ad 46)), (2, .int (zi (0 : Int)))]) K dX9_hatch_1 (by decide) rfl ?_
  refine z_iconst K dX9_hatch_2 ?_
  refine z_istore_n (lv' := [(0, .ref (ad 39)), (1, .ref (ad 46)), (2, .int (zi (0 : Int))), (3, .int (zi (0 : Int)))]) K dX9_hatch_3 (by decide) rfl ?_
  have L4 : ∀ l, l ≤ n → ∀ (d q : Nat → Int), zwt c l = d → zAg n nc S q d → zV χ 4 ad zSH 0 0 4 [(0, .ref (ad 39)), (1, .ref (ad 46)), (2, .int (zi (0 : Int))), (3, .int (zi ((l : Nat) : Int)))] [] (zup (zup μ 46 q) 53 a) := by
    refine zfor ?_
    intro l hl ih d q hd hag
    have hwt := zwt_ok hn6 hw l hl
    rw [hd] at hwt
    refine z_iload_n K dX9_hatch_4 rfl ?_
    refine z_aload_n K dX9_hatch_5 rfl ?_
    refine z_get (k := 39) (v := .int (zi (μ 39 4))) K dX9_hatch_6 fl_X9_63 rfl rfl rfl ?_
    refine z_icmpge (tgt := 41) K dX9_hatch_9 (by decide) (by omega) (by omega) (fun h9 => ?_) (fun h9 => ?_)
    · have hln : l = n := by omega
      rw [hln] at hd
      refine z_iconst K dX9_hatch_41 ?_
      refine z_istore_n (lv' := [(0, .ref (ad 39)), (1, .ref (ad 46)), (2, .int (zi (0 : Int))), (3, .int (zi (0 : Int)))]) K dX9_hatch_42 (by decide) rfl ?_
      have L43 : ∀ l, l ≤ n → ∀ (f : Nat → Int) (m : Nat) (q : Nat → Int), zht n kd al (d) l = (f, m) → zAg n nc S q f → zV χ 4 ad zSH 0 0 43 [(0, .ref (ad 39)), (1, .ref (ad 46)), (2, .int (zi ((m : Nat) : Int))), (3, .int (zi ((l : Nat) : Int)))] [] (zup (zup μ 46 q) 53 a) := by
        refine zfor ?_
        intro l hl ih f m q hF3 hag
        have hht := zht_ok hpk hwt.1 l hl
        rw [hF3] at hht
        dsimp only at hht
        refine z_iload_n K dX9_hatch_43 rfl ?_
        refine z_aload_n K dX9_hatch_44 rfl ?_
        refine z_get (k := 39) (v := .int (zi (μ 39 4))) K dX9_hatch_45 fl_X9_63 rfl rfl rfl ?_
        refine z_icmpge (tgt := 107) K dX9_hatch_48 (by decide) (by omega) (by omega) (fun h48 => ?_) (fun h48 => ?_)
        · refine z_iload_n K dX9_hatch_107 rfl ?_
          exact z_ireti K T rfl dX9_hatch_108 (by
              have e : l = n := by omega
              rw [e] at hF3
              exact ⟨by rw [hd, hF3], q, rfl, by rw [hd, hF3]; exact hag⟩)
        · have hk1 := hpk.2.2.1 l (by omega)
          have ag := hag.1 l (by omega)
          have hwl := hht.1.1 l (by omega)
          have hdl := zdl_nd n kd al f l
          have hpl1 := hpl l (by omega)
          have hnd : 1 ≤ znd n kd al f l ∧ znd n kd al f l ≤ 15 := by
            have h1 := hpk.2.2.1 l (by omega)
            have h3 := zcnt_le f l n
            unfold znd; split <;> omega
          refine z_aload_n K dX9_hatch_51 rfl ?_
          refine z_bipush K dX9_hatch_52 (by decide +kernel) ?_
          refine z_iload_n K dX9_hatch_54 rfl ?_
          refine z_iadd K dX9_hatch_55 ?_
          refine z_iald (k := 46) (v := f (12 + l)) K dX9_hatch_56 (6 + l) rfl (by decide) (by omega) (by omega) ag.2.1 ?_
          refine z_ifne (tgt := 101) K dX9_hatch_57 (by decide) (by omega) (fun h57 => ?_) (fun h57 => ?_)
          · refine z_iincN (lv' := [(0, .ref (ad 39)), (1, .ref (ad 46)), (2, .int (zi ((m : Nat) : Int))), (3, .int (zi ((l + 1 : Nat) : Int)))]) K dX9_hatch_101 rfl (by decide) rfl ?_
            refine z_goto (tgt := 43) K dX9_hatch_104 (by decide) ?_
            exact ih (l + 1) (by omega) (by omega) f m q (by
              rw [zht_s, hF3]
              dsimp only
              rw [if_neg (by omega)]) hag
          · refine z_aload_n K dX9_hatch_60 rfl ?_
            refine z_bipush K dX9_hatch_61 (by decide +kernel) ?_
            refine z_iload_n K dX9_hatch_63 rfl ?_
            refine z_iadd K dX9_hatch_64 ?_
            refine z_iald (k := 46) (v := f (6 + l)) K dX9_hatch_65 (12 + l) rfl (by decide) (by omega) (by omega) ag.2.2 ?_
            refine z_aload_n K dX9_hatch_66 rfl ?_
            refine z_aload_n K dX9_hatch_67 rfl ?_
            refine z_iload_n K dX9_hatch_68 rfl ?_
            refine z_callVd K hl1 hg1 (kb := 39) (As := [.ref (ad 46), .int (zi ((l : Nat) : Int))]) (rest := [.int (zi (f (6 + l)))]) (cm_needs_g la g0 ad (zup (zup μ 46 q) 53 a) n nc S kd al wt an f hm hht.1 hag l (by omega)) (by decide) lk_X9_118 cd_X9_needs rfl rfl rfl rfl (Nat.le_of_ble_eq_true rfl) dX9_hatch_69 ?_
            show zV χ 4 ad zSH 0 0 72 [(0, .ref (ad 39)), (1, .ref (ad 46)), (2, .int (zi ((m : Nat) : Int))), (3, .int (zi ((l : Nat) : Int)))] [.int (zi (znd n kd al f l)), .int (zi (f (6 + l)))] (zup (zup μ 46 q) 53 a)
            refine z_icmplt (tgt := 101) K dX9_hatch_72 (by decide) (by omega) (by omega) (fun h72 => ?_) (fun h72 => ?_)
            · refine z_iincN (lv' := [(0, .ref (ad 39)), (1, .ref (ad 46)), (2, .int (zi ((m : Nat) : Int))), (3, .int (zi ((l + 1 : Nat) : Int)))]) K dX9_hatch_101 rfl (by decide) rfl ?_
              refine z_goto (tgt := 43) K dX9_hatch_104 (by decide) ?_
              exact ih (l + 1) (by omega) (by omega) f m q (by
                rw [zht_s, hF3]
                dsimp only
                rw [if_neg (by omega)]) hag
            · refine z_aload_n K dX9_hatch_75 rfl ?_
              refine z_bipush K dX9_hatch_76 (by decide +kernel) ?_
              refine z_iload_n K dX9_hatch_78 rfl ?_
              refine z_iadd K dX9_hatch_79 ?_
              refine z_iconst K dX9_hatch_80 ?_
              refine z_iast (k := 46) K dX9_hatch_81 (6 + l) rfl (by decide) (by omega) (by omega) (z_mem (ν := zup (zup μ 46 (zu1 q (6 + l) (2 : Int))) 53 a) (zup_sw _ (by decide) _ _ _) ?_)
              refine z_iincN (lv' := [(0, .ref (ad 39)), (1, .ref (ad 46)), (2, .int (zi ((m + 1 : Nat) : Int))), (3, .int (zi ((l : Nat) : Int)))]) K dX9_hatch_82 rfl (by decide) rfl ?_
              refine z_aload_n K dX9_hatch_85 rfl ?_
              refine z_get (k := 39) (v := .ref (ad 42)) K dX9_hatch_86 fl_X9_16 rfl rfl rfl ?_
              refine z_iload_n K dX9_hatch_89 rfl ?_
              refine z_iald (k := 42) (v := kd l) K dX9_hatch_90 l rfl (by decide) (by omega) (by omega) hpl1.2.1 ?_
              refine z_iconst K dX9_hatch_91 ?_
              refine z_icmpne (tgt := 101) K dX9_hatch_92 (by decide) (by omega) ⟨by decide, by decide⟩ (fun h92 => ?_) (fun h92 => ?_)
              · refine z_iincN (lv' := [(0, .ref (ad 39)), (1, .ref (ad 46)), (2, .int (zi ((m + 1 : Nat) : Int))), (3, .int (zi ((l + 1 : Nat) : Int)))]) K dX9_hatch_101 rfl (by decide) rfl ?_
                refine z_goto (tgt := 43) K dX9_hatch_104 (by decide) ?_
                exact ih (l + 1) (by omega) (by omega) (zhat n kd f l) (m + 1) _ (by
                  rw [zht_s, hF3]
                  dsimp only
                  rw [if_pos ⟨by omega, by omega⟩]) (by rw [zhat_no n kd f l (by omega)]; exact zAg_fate hn6 hag (by omega) 2)
              · refine z_aload_n K dX9_hatch_95 rfl ?_
                refine z_aload_n K dX9_hatch_96 rfl ?_
                refine z_iload_n K dX9_hatch_97 rfl ?_
                refine z_callVv K hl1 hg1 (kb := 39) (As := [.ref (ad 46), .int (zi ((l : Nat) : Int))]) (rest := []) (cm_putOut_g la g0 ad μ n nc S kd al wt an (zu1 q (6 + l) 2) (zu1 f (12 + l) 2) a hm (zHW_fate hn6 hht.1 (by omega) ⟨by decide, by decide⟩) (zAg_fate hn6 hag (by omega) 2) l (by omega) (zu1_eq _ _ _) (f l) (zu1_ne _ _ (by omega))) (by decide) lk_X9_137 cd_X9_putOut rfl rfl rfl rfl (Nat.le_of_ble_eq_true rfl) dX9_hatch_98 (fun ν h98 => ?_)
                obtain ⟨q2, hν, hag2⟩ := h98
                subst hν
                refine z_iincN (lv' := [(0, .ref (ad 39)), (1, .ref (ad 46)), (2, .int (zi ((m + 1 : Nat) : Int))), (3, .int (zi ((l + 1 : Nat) : Int)))]) K dX9_hatch_101 rfl (by decide) rfl ?_
                refine z_goto (tgt := 43) K dX9_hatch_104 (by decide) ?_
                exact ih (l + 1) (by omega) (by omega) (zhat n kd f l) (m + 1) q2 (by
                  rw [zht_s, hF3]
                  dsimp only
                  rw [if_pos ⟨by omega, by omega⟩]) (by rw [zhat_if n kd f l (by omega)]; exact hag2)
      exact L43 0 (by omega) d 0 q rfl hag
    · have ag := hag.1 l (by omega)
      have hwl := hwt.1.1 l (by omega)
      refine z_aload_n K dX9_hatch_12 rfl ?_
      refine z_bipush K dX9_hatch_13 (by decide +kernel) ?_
      refine z_iload_n K dX9_hatch_15 rfl ?_
      refine z_iadd K dX9_hatch_16 ?_
      refine z_dup2 K dX9_hatch_17 rfl rfl ?_
      refine z_iald (k := 46) (v := d (6 + l)) K dX9_hatch_18 (12 + l) rfl (by decide) (by omega) (by omega) ag.2.2 ?_
      refine z_aload_n K dX9_hatch_19 rfl ?_
      refine z_bipush K dX9_hatch_20 (by decide +kernel) ?_
      refine z_iload_n K dX9_hatch_22 rfl ?_
      refine z_iadd K dX9_hatch_23 ?_
      refine z_iald (k := 46) (v := d (12 + l)) K dX9_hatch_24 (6 + l) rfl (by decide) (by omega) (by omega) ag.2.1 ?_
      refine z_ifne (tgt := 32) K dX9_hatch_25 (by decide) (by omega) (fun h25 => ?_) (fun h25 => ?_)
      · refine z_iconst K dX9_hatch_32 ?_
        refine z_iadd K dX9_hatch_33 ?_
        refine z_iast (k := 46) K dX9_hatch_34 (12 + l) rfl (by decide) (by omega) (by omega) (z_mem (ν := zup (zup μ 46 (zu1 q (12 + l) ((d (6 + l)) + (0 : Int)))) 53 a) (zup_sw _ (by decide) _ _ _) ?_)
        refine z_iincN (lv' := [(0, .ref (ad 39)), (1, .ref (ad 46)), (2, .int (zi (0 : Int))), (3, .int (zi ((l + 1 : Nat) : Int)))]) K dX9_hatch_35 rfl (by decide) rfl ?_
        refine z_goto (tgt := 4) K dX9_hatch_38 (by decide) ?_
        exact ih (l + 1) (by omega) (by omega) d _ (by
          rw [zwt_s, hd, if_neg h25]) (zAg_same hag (12 + l) (by omega))
      · refine z_iconst K dX9_hatch_28 ?_
        refine z_goto (tgt := 33) K dX9_hatch_29 (by decide) ?_
        refine z_iadd K dX9_hatch_33 ?_
        refine z_iast (k := 46) K dX9_hatch_34 (12 + l) rfl (by decide) (by omega) (by omega) (z_mem (ν := zup (zup μ 46 (zu1 q (12 + l) ((d (6 + l)) + (1 : Int)))) 53 a) (zup_sw _ (by decide) _ _ _) ?_)
        refine z_iincN (lv' := [(0, .ref (ad 39)), (1, .ref (ad 46)), (2, .int (zi (0 : Int))), (3, .int (zi ((l + 1 : Nat) : Int)))]) K dX9_hatch_35 rfl (by decide) rfl ?_
        refine z_goto (tgt := 4) K dX9_hatch_38 (by decide) ?_
        exact ih (l + 1) (by omega) (by omega) (zu1 d (6 + l) (d (6 + l) + (1 : Int))) _ (by
          rw [zwt_s, hd, if_pos h25]) (zAg_wait hn6 hag (by omega) _)
  exact L4 0 (by omega) c p rfl hg
set_option maxHeartbeats 4000000 in
set_option maxRecDepth 100000 in
theorem cm_goDay_g (la : Launch) (g0 : zG) (ad : Nat → Nat) (μ : zMem) (n nc S : Nat) (kd al wt an p c a : Nat → Int) (hm : zMP μ n nc kd al wt an) (hw : zHV n nc c) (hg : zAg n nc S p c) (hS : μ 39 24 = (S : Int)) (hS6 : S < 64) : zCon la g0 yX9_goDay cX9_goDay 4 (some .int) 5 ad zSH [.ref (ad 39), .ref (ad 46)] (zup (zup μ 46 p) 53 a) (zPi (fun r ν => r = ((zdayM n kd al nc an (c, a) : Nat) : Int) ∧ zGo μ 46 n nc S (zday n kd al nc an (c, a)) ν)) := by
  refine zCon_of (by decide +kernel) (Nat.le_of_ble_eq_true rfl) ?_
  intro χ K T hl1 hg1
  have K : zOk χ cX9_goDay RX9 4 5 (some .int) := K
  obtain ⟨hn, hnc, hpl, hpa, hpk⟩ := id hm
  have hn6 := hpk.1
  have hnc3 := hpk.2.1
  show zV χ 4 ad zSH 0 0 0 [(0, .ref (ad 39)), (1, .ref (ad 46))] [] (zup (zup μ 46 p) 53 a)
  refine z_iconst K dX9_goDay_0 ?_
  refine z_istore_n (lv' := [(0, .ref (ad 39)), (1, .ref (ad 46)), (2, .int (zi (0 : Int)))]) K dX9_goDay_1 (by decide) rfl ?_
  have L2 : ∀ k, k ≤ nc → ∀ (d b q : Nat → Int), zcl n kd al an k (c, a) = (d, b) → zAg n nc S q d → zV χ 4 ad zSH 0 0 2 [(0, .ref (ad 39)), (1, .ref (ad 46)), (2, .int (zi ((k : Nat) : Int)))] [] (zup (zup μ 46 q) 53 b) := by
    refine zfor ?_
    intro k hk ih d b q hF hag
    have hwv := zcl_wait hpk k (c, a) hw
    rw [hF] at hwv
    dsimp only at hwv
    have hbl := zbit_lt S k
    refine z_iload_n K dX9_goDay_2 rfl ?_
    refine z_aload_n K dX9_goDay_3 rfl ?_
    refine z_get (k := 39) (v := .int (zi (μ 39 7))) K dX9_goDay_4 fl_X9_70 rfl rfl rfl ?_
    refine z_icmpge (tgt := 33) K dX9_goDay_7 (by decide) (by omega) (by omega) (fun h7 => ?_) (fun h7 => ?_)
    · have hkn : k = nc := by omega
      rw [hkn] at hF
      have hdV := (zdayA_ok hpk (s := (c, a)) hw).1
      have hdM := (zdayA_ok hpk (s := (c, a)) hw).2
      refine z_aload_n K dX9_goDay_33 rfl ?_
      refine z_aload_n K dX9_goDay_34 rfl ?_
      refine z_callVi K hl1 hg1 (kb := 39) (As := [.ref (ad 46)]) (rest := []) (cm_hatch_g la g0 ad μ n nc S kd al wt an q d b hm hwv hag) (by decide) lk_X9_151 cd_X9_hatch rfl rfl rfl rfl (Nat.le_of_ble_eq_true rfl) dX9_goDay_35 (fun r ν h35 => ?_)
      obtain ⟨hr, q3, hν, hag3⟩ := h35
      subst hν hr
      have hdA : zdayA n kd al nc an (c, a) = zht n kd al (zwt d n) n := by unfold zdayA; rw [hF]
      rw [← hdA] at hag3 ⊢
      refine z_istore_n (lv' := [(0, .ref (ad 39)), (1, .ref (ad 46)), (2, .int (zi (((zdayA n kd al nc an (c, a)).2 : Nat) : Int)))]) K dX9_goDay_38 (by decide) rfl ?_
      refine z_iconst K dX9_goDay_39 ?_
      refine z_istore_n (lv' := [(0, .ref (ad 39)), (1, .ref (ad 46)), (2, .int (zi (((zdayA n kd al nc an (c, a)).2 : Nat) : Int))), (3, .int (zi (0 : Int)))]) K dX9_goDay_40 (by decide) rfl ?_
      have L41 : ∀ l, l ≤ n → ∀ (g q : Nat → Int), zeat (zdayA n kd al nc an (c, a)).1 l = g → zAg n nc S q g → zV χ 4 ad zSH 0 0 41 [(0, .ref (ad 39)), (1, .ref (ad 46)), (2, .int (zi (((zdayA n kd al nc an (c, a)).2 : Nat) : Int))), (3, .int (zi ((l : Nat) : Int)))] [] (zup (zup μ 46 q) 53 b) := by
        refine zfor ?_
        intro l hl ih g q hd hag
        have hev := zeat_ok hn6 hnc3 hdV l hl
        rw [hd] at hev
        have hgr := hag.2.2.1
        have hg21 := hev.1.2.2
        refine z_iload_n K dX9_goDay_41 rfl ?_
        refine z_aload_n K dX9_goDay_42 rfl ?_
        refine z_get (k := 39) (v := .int (zi (μ 39 4))) K dX9_goDay_43 fl_X9_63 rfl rfl rfl ?_
        refine z_icmpge (tgt := 102) K dX9_goDay_46 (by decide) (by omega) (by omega) (fun h46 => ?_) (fun h46 => ?_)
        · refine z_aload_n K dX9_goDay_102 rfl ?_
          refine z_bipush K dX9_goDay_103 (by decide +kernel) ?_
          refine z_dup2 K dX9_goDay_105 rfl rfl ?_
          refine z_iald (k := 46) (v := g 22) K dX9_goDay_106 22 rfl (by decide) (by omega) (by omega) hag.2.2.2 ?_
          refine z_iconst K dX9_goDay_107 ?_
          refine z_iadd K dX9_goDay_108 ?_
          refine z_iast (k := 46) K dX9_goDay_109 22 rfl (by decide) (by omega) (by omega) (z_mem (ν := zup (zup μ 46 (zu1 q 22 ((g 22) + (1 : Int)))) 53 b) (zup_sw _ (by decide) _ _ _) ?_)
          refine z_iload_n K dX9_goDay_110 rfl ?_
          exact z_ireti K T rfl dX9_goDay_111 (by
              have e : l = n := by omega
              rw [e] at hd
              exact ⟨rfl, _, by unfold zday; rw [hF], by unfold zday; rw [hd]; exact zAg_one hn6 hnc3 hag (Or.inr rfl) _⟩)
        · have ag := hag.1 l (by omega)
          have hwl := hev.1.1 l (by omega)
          refine z_aload_n K dX9_goDay_49 rfl ?_
          refine z_bipush K dX9_goDay_50 (by decide +kernel) ?_
          refine z_iload_n K dX9_goDay_52 rfl ?_
          refine z_iadd K dX9_goDay_53 ?_
          refine z_iald (k := 46) (v := g (12 + l)) K dX9_goDay_54 (6 + l) rfl (by decide) (by omega) (by omega) ag.2.1 ?_
          refine z_iconst K dX9_goDay_55 ?_
          refine z_icmpne (tgt := 96) K dX9_goDay_56 (by decide) (by omega) ⟨by decide, by decide⟩ (fun h56 => ?_) (fun h56 => ?_)
          · refine z_iincN (lv' := [(0, .ref (ad 39)), (1, .ref (ad 46)), (2, .int (zi (((zdayA n kd al nc an (c, a)).2 : Nat) : Int))), (3, .int (zi ((l + 1 : Nat) : Int)))]) K dX9_goDay_96 rfl (by decide) rfl ?_
            refine z_goto (tgt := 41) K dX9_goDay_99 (by decide) ?_
            exact ih (l + 1) (by omega) (by omega) g q (by
              rw [zeat_s, hd, if_neg (by omega)]) hag
          · refine z_aload_n K dX9_goDay_59 rfl ?_
            refine z_bipush K dX9_goDay_60 (by decide +kernel) ?_
            refine z_iload_n K dX9_goDay_62 rfl ?_
            refine z_iadd K dX9_goDay_63 ?_
            refine z_aload_n K dX9_goDay_64 rfl ?_
            refine z_bipush K dX9_goDay_65 (by decide +kernel) ?_
            refine z_iald (k := 46) (v := g 21) K dX9_goDay_67 21 rfl (by decide) (by omega) (by omega) hgr ?_
            refine z_ifle (tgt := 75) K dX9_goDay_68 (by decide) (by omega) (fun h68 => ?_) (fun h68 => ?_)
            · refine z_iconst K dX9_goDay_75 ?_
              refine z_iast (k := 46) K dX9_goDay_76 (6 + l) rfl (by decide) (by omega) (by omega) (z_mem (ν := zup (zup μ 46 (zu1 q (6 + l) (3 : Int))) 53 b) (zup_sw _ (by decide) _ _ _) ?_)
              refine z_aload_n K dX9_goDay_77 rfl ?_
              refine z_bipush K dX9_goDay_78 (by decide +kernel) ?_
              refine z_dup2 K dX9_goDay_80 rfl rfl ?_
              refine z_iald (k := 46) (v := g 21) K dX9_goDay_81 21 rfl (by decide) (by omega) (by omega) ((zu1_ne _ _ (by omega)).trans hgr) ?_
              refine z_aload_n K dX9_goDay_82 rfl ?_
              refine z_bipush K dX9_goDay_83 (by decide +kernel) ?_
              refine z_iald (k := 46) (v := g 21) K dX9_goDay_85 21 rfl (by decide) (by omega) (by omega) ((zu1_ne _ _ (by omega)).trans hgr) ?_
              refine z_ifle (tgt := 93) K dX9_goDay_86 (by decide) (by omega) (fun h86 => ?_) (fun h86 => absurd h86 (by omega))
              refine z_iconst K dX9_goDay_93 ?_
              refine z_isub K dX9_goDay_94 ?_
              refine z_iast (k := 46) K dX9_goDay_95 21 rfl (by decide) (by omega) (by omega) (z_mem (ν := zup (zup μ 46 (zu1 (zu1 q (6 + l) (3 : Int)) 21 ((g 21) - (0 : Int)))) 53 b) (zup_sw _ (by decide) _ _ _) ?_)
              refine z_iincN (lv' := [(0, .ref (ad 39)), (1, .ref (ad 46)), (2, .int (zi (((zdayA n kd al nc an (c, a)).2 : Nat) : Int))), (3, .int (zi ((l + 1 : Nat) : Int)))]) K dX9_goDay_96 rfl (by decide) rfl ?_
              refine z_goto (tgt := 41) K dX9_goDay_99 (by decide) ?_
              exact ih (l + 1) (by omega) (by omega) (zu1 g (12 + l) 3) _ (by
                rw [zeat_s, hd, if_pos (by omega), if_neg (by omega)]) (zAg_same (zAg_fate hn6 hag (by omega) 3) 21 (by rw [zu1_ne _ _ (by omega), hag.2.2.1]; omega))
            · refine z_iconst K dX9_goDay_71 ?_
              refine z_goto (tgt := 76) K dX9_goDay_72 (by decide) ?_
              refine z_iast (k := 46) K dX9_goDay_76 (6 + l) rfl (by decide) (by omega) (by omega) (z_mem (ν := zup (zup μ 46 (zu1 q (6 + l) (2 : Int))) 53 b) (zup_sw _ (by decide) _ _ _) ?_)
              refine z_aload_n K dX9_goDay_77 rfl ?_
              refine z_bipush K dX9_goDay_78 (by decide +kernel) ?_
              refine z_dup2 K dX9_goDay_80 rfl rfl ?_
              refine z_iald (k := 46) (v := g 21) K dX9_goDay_81 21 rfl (by decide) (by omega) (by omega) ((zu1_ne _ _ (by omega)).trans hgr) ?_
              refine z_aload_n K dX9_goDay_82 rfl ?_
              refine z_bipush K dX9_goDay_83 (by decide +kernel) ?_
              refine z_iald (k := 46) (v := g 21) K dX9_goDay_85 21 rfl (by decide) (by omega) (by omega) ((zu1_ne _ _ (by omega)).trans hgr) ?_
              refine z_ifle (tgt := 93) K dX9_goDay_86 (by decide) (by omega) (fun h86 => absurd h86 (by omega)) (fun h86 => ?_)
              refine z_iconst K dX9_goDay_89 ?_
              refine z_goto (tgt := 94) K dX9_goDay_90 (by decide) ?_
              refine z_isub K dX9_goDay_94 ?_
              refine z_iast (k := 46) K dX9_goDay_95 21 rfl (by decide) (by omega) (by omega) (z_mem (ν := zup (zup μ 46 (zu1 (zu1 q (6 + l) (2 : Int)) 21 ((g 21) - (1 : Int)))) 53 b) (zup_sw _ (by decide) _ _ _) ?_)
              refine z_iincN (lv' := [(0, .ref (ad 39)), (1, .ref (ad 46)), (2, .int (zi (((zdayA n kd al nc an (c, a)).2 : Nat) : Int))), (3, .int (zi ((l + 1 : Nat) : Int)))]) K dX9_goDay_96 rfl (by decide) rfl ?_
              refine z_goto (tgt := 41) K dX9_goDay_99 (by decide) ?_
              exact ih (l + 1) (by omega) (by omega) (zu1 g 21 (g 21 - (1 : Int))) _ (by
                rw [zeat_s, hd, if_pos (by omega), if_pos (by omega)]) (zAg_one hn6 hnc3 (zAg_same hag (6 + l) (by omega)) (Or.inl rfl) _)
      exact L41 0 (by omega) _ q3 rfl hag3
    · refine z_aload_n K dX9_goDay_10 rfl ?_
      refine z_get (k := 39) (v := .int (zi (μ 39 24))) K dX9_goDay_11 fl_X9_141 rfl rfl rfl ?_
      rw [show (μ 39 24) = ((S : Nat) : Int) from hS]
      refine z_iload_n K dX9_goDay_14 rfl ?_
      refine z_callSd K hl1 hg1 (As := [.int (zi ((S : Nat) : Int)), .int (zi ((k : Nat) : Int))]) (rest := []) (cm_has la g0 ad (zup (zup μ 46 q) 53 b) S k hS6 (by omega)) (by decide) lk_X9_144 cd_X9_has rfl rfl (Nat.le_of_ble_eq_true rfl) dX9_goDay_15 ?_
      show zV χ 4 ad zSH 0 0 18 [(0, .ref (ad 39)), (1, .ref (ad 46)), (2, .int (zi ((k : Nat) : Int)))] [.int (zi ((zbit S k : Nat) : Int))] (zup (zup μ 46 q) 53 b)
      refine z_ifeq (tgt := 27) K dX9_goDay_18 (by decide) (by omega) (fun h18 => ?_) (fun h18 => ?_)
      · refine z_iincN (lv' := [(0, .ref (ad 39)), (1, .ref (ad 46)), (2, .int (zi ((k + 1 : Nat) : Int)))]) K dX9_goDay_27 rfl (by decide) rfl ?_
        refine z_goto (tgt := 2) K dX9_goDay_30 (by decide) ?_
        exact ih (k + 1) (by omega) (by omega) d b q (by
          rw [zcl_s, hF, zca_no]
          show (zmp n kd al d (d (18 + k)) n).1 = -9
          rw [(hag.2.1 k (by omega)).2 (by omega)]
          exact zmp_3 hwv.1) hag
      · refine z_aload_n K dX9_goDay_21 rfl ?_
        refine z_aload_n K dX9_goDay_22 rfl ?_
        refine z_iload_n K dX9_goDay_23 rfl ?_
        refine z_callVv K hl1 hg1 (kb := 39) (As := [.ref (ad 46), .int (zi ((k : Nat) : Int))]) (rest := []) (cm_answer_g la g0 ad μ n nc S kd al wt an q d b hm hwv.1 hag k (by omega) (by omega)) (by decide) lk_X9_148 cd_X9_answer rfl rfl rfl rfl (Nat.le_of_ble_eq_true rfl) dX9_goDay_24 (fun ν h24 => ?_)
        obtain ⟨q2, hν, hag2⟩ := h24
        subst hν
        refine z_iincN (lv' := [(0, .ref (ad 39)), (1, .ref (ad 46)), (2, .int (zi ((k + 1 : Nat) : Int)))]) K dX9_goDay_27 rfl (by decide) rfl ?_
        refine z_goto (tgt := 2) K dX9_goDay_30 (by decide) ?_
        exact ih (k + 1) (by omega) (by omega) _ _ _ (by rw [zcl_s, hF]) hag2
  exact L2 0 (by omega) c a p rfl hg
set_option maxHeartbeats 4000000 in
set_option maxRecDepth 100000 in
theorem cm_answer_r (la : Launch) (g0 : zG) (ad : Nat → Nat) (μ : zMem) (n nc S : Nat) (kd al wt an p c a : Nat → Int) (hm : zMP μ n nc kd al wt an) (hw : zHW n nc c) (hg : zAg n nc S p c) (k : Nat) (hk : k < nc) (hb : zbit S k = 1) : zCon la g0 yX9_answer cX9_answer 5 none 4 ad zSH [.ref (ad 39), .ref (ad 47), .int (zi ((k : Nat) : Int))] (zup (zup μ 47 p) 53 a) (zPv (zGo μ 47 n nc S (zca n kd al k (an k).toNat (c, a)))) := by
  refine zCon_of (by decide +kernel) (Nat.le_of_ble_eq_true rfl) ?_
  intro χ K T hl1 hg1
  have K : zOk χ cX9_answer RX9 5 4 none := K
  obtain ⟨hn, hnc, hpl, hpa, hpk⟩ := id hm
  have hn6 := hpk.1
  have hnc3 := hpk.2.1
  have hpk1 := hpk.2.2.2 k hk
  have hpa1 := hpa k hk
  show zV χ 5 ad zSH 0 0 0 [(0, .ref (ad 39)), (1, .ref (ad 47)), (2, .int (zi ((k : Nat) : Int)))] [] (zup (zup μ 47 p) 53 a)
  refine z_iconst K dX9_answer_0 ?_
  refine z_istore_n (lv' := [(0, .ref (ad 39)), (1, .ref (ad 47)), (2, .int (zi ((k : Nat) : Int))), (3, .int (zi (0 : Int)))]) K dX9_answer_1 (by decide) rfl ?_
  have L2 : ∀ i, i ≤ (an k).toNat → ∀ (d q b : Nat → Int), zHW n nc d → zAg n nc S q d → zca n kd al k ((an k).toNat - i) (d, b) = zca n kd al k (an k).toNat (c, a) → zV χ 5 ad zSH 0 0 2 [(0, .ref (ad 39)), (1, .ref (ad 47)), (2, .int (zi ((k : Nat) : Int))), (3, .int (zi ((i : Nat) : Int)))] [] (zup (zup μ 47 q) 53 b) := by
    refine zfor ?_
    intro i hi ih d q b hv hag hF
    have hw2 := hv.2.1 k hk
    have hb2 := (hag.2.1 k hk).1 hb
    have hz := zmp_rg hpk hv (d (18 + k)) n (Nat.le_refl _)
    refine z_iload_n K dX9_answer_2 rfl ?_
    refine z_aload_n K dX9_answer_3 rfl ?_
    refine z_get (k := 39) (v := .ref (ad 43)) K dX9_answer_4 fl_X9_19 rfl rfl rfl ?_
    refine z_iload_n K dX9_answer_7 rfl ?_
    refine z_iald (k := 43) (v := an k) K dX9_answer_8 k rfl (by decide) (by omega) (by omega) hpa1 ?_
    refine z_icmpge (tgt := 56) K dX9_answer_9 (by decide) (by omega) (by omega) (fun h9 => ?_) (fun h9 => ?_)
    · exact z_vreti K T rfl dX9_answer_56 (by
          rw [show (an k).toNat - i = 0 by omega] at hF
          exact ⟨q, by rw [← hF]; rfl, by rw [← hF]; exact hag⟩)
    · refine z_aload_n K dX9_answer_12 rfl ?_
      refine z_aload_n K dX9_answer_13 rfl ?_
      refine z_aload_n K dX9_answer_14 rfl ?_
      refine z_bipush K dX9_answer_15 (by decide +kernel) ?_
      refine z_iload_n K dX9_answer_17 rfl ?_
      refine z_iadd K dX9_answer_18 ?_
      refine z_iald (k := 47) (v := d (18 + k)) K dX9_answer_19 (18 + k) rfl (by decide) (by omega) (by omega) hb2 ?_
      refine z_callVd K hl1 hg1 (kb := 39) (As := [.ref (ad 47), .int (zi (d (18 + k)))]) (rest := []) (cm_nextOf_r la g0 ad (zup (zup μ 47 q) 53 b) n nc S kd al wt an d hm hv hag (d (18 + k)) hw2) (by decide) lk_X9_134 cd_X9_nextOf rfl rfl rfl rfl (Nat.le_of_ble_eq_true rfl) dX9_answer_20 ?_
      show zV χ 5 ad zSH 0 0 23 [(0, .ref (ad 39)), (1, .ref (ad 47)), (2, .int (zi ((k : Nat) : Int))), (3, .int (zi ((i : Nat) : Int)))] [.int (zi ((zmp n kd al d (d (18 + k)) n).1))] (zup (zup μ 47 q) 53 b)
      refine z_istore (lv' := [(0, .ref (ad 39)), (1, .ref (ad 47)), (2, .int (zi ((k : Nat) : Int))), (3, .int (zi ((i : Nat) : Int))), (4, .int (zi ((zmp n kd al d (d (18 + k)) n).1)))]) K dX9_answer_23 (by decide) rfl ?_
      refine z_iload K dX9_answer_25 rfl ?_
      refine z_bipush K dX9_answer_27 (by decide +kernel) ?_
      refine z_icmpeq (tgt := 50) K dX9_answer_29 (by decide) (by omega) ⟨by decide, by decide⟩ (fun h29 => ?_) (fun h29 => ?_)
      · refine z_iincN (lv' := [(0, .ref (ad 39)), (1, .ref (ad 47)), (2, .int (zi ((k : Nat) : Int))), (3, .int (zi ((i + 1 : Nat) : Int))), (4, .int (zi ((zmp n kd al d (d (18 + k)) n).1)))]) K dX9_answer_50 rfl (by decide) rfl ?_
        refine z_goto (tgt := 2) K dX9_answer_53 (by decide) ?_
        refine z_ipick [0, 1, 2, 3] rfl ?_
        exact ih (i + 1) (by omega) (by omega) _ _ _ hv hag (by
          rw [zca_no (s := (d, b)) h29] at hF ⊢
          exact hF)
      · refine z_aload_n K dX9_answer_32 rfl ?_
        refine z_bipush K dX9_answer_33 (by decide +kernel) ?_
        refine z_iload K dX9_answer_35 rfl ?_
        refine z_iadd K dX9_answer_37 ?_
        refine z_iconst K dX9_answer_38 ?_
        refine z_iast (k := 47) K dX9_answer_39 (6 + (zmp n kd al d (d (18 + k)) n).1.toNat) rfl (by decide) (by omega) (by omega) (z_mem (ν := zup (zup μ 47 (zu1 q (6 + (zmp n kd al d (d (18 + k)) n).1.toNat) (1 : Int))) 53 b) (zup_sw _ (by decide) _ _ _) ?_)
        refine z_aload_n K dX9_answer_40 rfl ?_
        refine z_get (k := 39) (v := .ref (ad 53)) K dX9_answer_41 fl_X9_50 rfl rfl rfl ?_
        refine z_iload_n K dX9_answer_44 rfl ?_
        refine z_dup2 K dX9_answer_45 rfl rfl ?_
        refine z_iald (k := 53) (v := b k) K dX9_answer_46 k rfl (by decide) (by omega) (by omega) rfl ?_
        refine z_iconst K dX9_answer_47 ?_
        refine z_iadd K dX9_answer_48 ?_
        refine z_iast (k := 53) K dX9_answer_49 k rfl (by decide) (by omega) (by omega) (z_mem (ν := zup (zup μ 47 (zu1 q (6 + (zmp n kd al d (d (18 + k)) n).1.toNat) (1 : Int))) 53 (zu1 b k ((b k) + (1 : Int)))) (zup_same _ _ _ _) ?_)
        refine z_iincN (lv' := [(0, .ref (ad 39)), (1, .ref (ad 47)), (2, .int (zi ((k : Nat) : Int))), (3, .int (zi ((i + 1 : Nat) : Int))), (4, .int (zi ((zmp n kd al d (d (18 + k)) n).1)))]) K dX9_answer_50 rfl (by decide) rfl ?_
        refine z_goto (tgt := 2) K dX9_answer_53 (by decide) ?_
        refine z_ipick [0, 1, 2, 3] rfl ?_
        exact ih (i + 1) (by omega) (by omega) (zu1 d (12 + (zmp n kd al d (d (18 + k)) n).1.toNat) 1) _ _ (zHW_fate hn6 hv (by omega) ⟨by decide, by decide⟩) (zAg_fate hn6 hag (by omega) 1) (by
          rw [show (an k).toNat - i = ((an k).toNat - (i + 1)) + 1 by omega, zca_s, if_neg h29] at hF
          exact hF)
  exact L2 0 (by omega) c p a hw hg rfl
set_option maxHeartbeats 4000000 in
set_option maxRecDepth 100000 in
theorem cm_putOut_r (la : Launch) (g0 : zG) (ad : Nat → Nat) (μ : zMem) (n nc S : Nat) (kd al wt an p c a : Nat → Int) (hm : zMP μ n nc kd al wt an) (hw : zHW n nc c) (hg : zAg n nc S p c) (b : Nat) (hb : b < n) (hf : c (12 + b) = 2) (x : Int) (hx : c b = x) : zCon la g0 yX9_putOut cX9_putOut 5 none 0 ad zSH [.ref (ad 39), .ref (ad 47), .int (zi ((b : Nat) : Int))] (zup (zup μ 47 p) 53 a) (zPv (zGo μ 47 n nc S ((if 4 ≤ x then zpo c x n else c), a))) := by
  refine zCon_of (by decide +kernel) (Nat.le_of_ble_eq_true rfl) ?_
  intro χ K T hl1 hg1
  have K : zOk χ cX9_putOut RX9 5 0 none := K
  obtain ⟨hn, hnc, hpl, hpa, hpk⟩ := id hm
  have hn6 := hpk.1
  have hnc3 := hpk.2.1
  have hwb := hw.1 b hb
  show zV χ 5 ad zSH 0 0 0 [(0, .ref (ad 39)), (1, .ref (ad 47)), (2, .int (zi ((b : Nat) : Int)))] [] (zup (zup μ 47 p) 53 a)
  refine z_iconst K dX9_putOut_0 ?_
  refine z_istore_n (lv' := [(0, .ref (ad 39)), (1, .ref (ad 47)), (2, .int (zi ((b : Nat) : Int))), (3, .int (zi (0 : Int)))]) K dX9_putOut_1 (by decide) rfl ?_
  have L2 : ∀ l, l ≤ n → ∀ (d q : Nat → Int), zHW n nc d → (if 4 ≤ x then zpo c x l else c) = d → zAg n nc S q d → zV χ 5 ad zSH 0 0 2 [(0, .ref (ad 39)), (1, .ref (ad 47)), (2, .int (zi ((b : Nat) : Int))), (3, .int (zi ((l : Nat) : Int)))] [] (zup (zup μ 47 q) 53 a) := by
    refine zfor ?_
    intro l hl ih d q hv hd hag
    have hdb : d b = x := by
      rw [← hd, ← hx]
      split
      · exact zpo_at c _ n hn6 (by omega) l hl
      · rfl
    have hdf : d (12 + b) = 2 := by
      rw [← hd]
      split
      · rw [zpo_keep c x n hn6 l hl _ (by omega)]; exact hf
      · exact hf
    have hlb : l ≠ b ∨ d (12 + l) = 2 := by
      by_cases e : l = b
      · subst e; exact Or.inr hdf
      · exact Or.inl e
    have agb := hag.1 b hb
    refine z_iload_n K dX9_putOut_2 rfl ?_
    refine z_aload_n K dX9_putOut_3 rfl ?_
    refine z_get (k := 39) (v := .int (zi (μ 39 4))) K dX9_putOut_4 fl_X9_63 rfl rfl rfl ?_
    refine z_icmpge (tgt := 69) K dX9_putOut_7 (by decide) (by omega) (by omega) (fun h7 => ?_) (fun h7 => ?_)
    · exact z_vreti K T rfl dX9_putOut_69 (by
          have e : l = n := by omega
          rw [e] at hd
          exact ⟨q, rfl, by rw [hd]; exact hag⟩)
    · have ag := hag.1 l (by omega)
      have hvl := hv.1 l (by omega)
      refine z_iload_n K dX9_putOut_10 rfl ?_
      refine z_iload_n K dX9_putOut_11 rfl ?_
      refine z_icmpeq (tgt := 44) K dX9_putOut_12 (by decide) (by omega) (by omega) (fun h12 => ?_) (fun h12 => ?_)
      · refine z_iconst K dX9_putOut_44 ?_
        refine z_istore (lv' := [(0, .ref (ad 39)), (1, .ref (ad 47)), (2, .int (zi ((b : Nat) : Int))), (3, .int (zi ((l : Nat) : Int))), (4, .int (zi (0 : Int)))]) K dX9_putOut_45 (by decide) rfl ?_
        refine z_aload_n K dX9_putOut_47 rfl ?_
        refine z_iload_n K dX9_putOut_48 rfl ?_
        refine z_dup2 K dX9_putOut_49 rfl rfl ?_
        refine z_iald (k := 47) (v := d l) K dX9_putOut_50 l rfl (by decide) (by omega) (by omega) ag.1 ?_
        refine z_iload K dX9_putOut_51 rfl ?_
        refine z_ifeq (tgt := 60) K dX9_putOut_53 (by decide) ⟨by decide, by decide⟩ (fun h53 => ?_) (fun h53 => ?_)
        · refine z_iconst K dX9_putOut_60 ?_
          refine z_isub K dX9_putOut_61 ?_
          refine z_iast (k := 47) K dX9_putOut_62 l rfl (by decide) (by omega) (by omega) (z_mem (ν := zup (zup μ 47 (zu1 q l ((d l) - (0 : Int)))) 53 a) (zup_sw _ (by decide) _ _ _) ?_)
          refine z_iincN (lv' := [(0, .ref (ad 39)), (1, .ref (ad 47)), (2, .int (zi ((b : Nat) : Int))), (3, .int (zi ((l + 1 : Nat) : Int))), (4, .int (zi (0 : Int)))]) K dX9_putOut_63 rfl (by decide) rfl ?_
          refine z_goto (tgt := 2) K dX9_putOut_66 (by decide) ?_
          refine z_ipick [0, 1, 2, 3] rfl ?_
          exact ih (l + 1) (by omega) (by omega) d _ hv (by
            by_cases h4 : 4 ≤ x
            · rw [if_pos h4] at hd ⊢
              rw [zpo_s, hd, if_neg (by omega)]
            · rw [if_neg h4] at hd ⊢
              exact hd) (zAg_same hag l (by omega))
        · refine z_iconst K dX9_putOut_56 ?_
          refine z_goto (tgt := 61) K dX9_putOut_57 (by decide) ?_
          refine z_isub K dX9_putOut_61 ?_
          refine z_iast (k := 47) K dX9_putOut_62 l rfl (by decide) (by omega) (by omega) (z_mem (ν := zup (zup μ 47 (zu1 q l ((d l) - (4 : Int)))) 53 a) (zup_sw _ (by decide) _ _ _) ?_)
          refine z_iincN (lv' := [(0, .ref (ad 39)), (1, .ref (ad 47)), (2, .int (zi ((b : Nat) : Int))), (3, .int (zi ((l + 1 : Nat) : Int))), (4, .int (zi (0 : Int)))]) K dX9_putOut_63 rfl (by decide) rfl ?_
          refine z_goto (tgt := 2) K dX9_putOut_66 (by decide) ?_
          refine z_ipick [0, 1, 2, 3] rfl ?_
          exact ih (l + 1) (by omega) (by omega) (zu1 d l (d l - (4 : Int))) _ (zHW_hole hn6 hv (by omega) ⟨by omega, by omega⟩) (by
            rw [if_pos (by omega)] at hd ⊢
            rw [zpo_s, hd, if_pos ⟨by omega, by omega⟩, show x - 4 = d l - (4 : Int) by omega]) (zAg_hole hn6 hag (by omega) _)
      · refine z_aload_n K dX9_putOut_15 rfl ?_
        refine z_bipush K dX9_putOut_16 (by decide +kernel) ?_
        refine z_iload_n K dX9_putOut_18 rfl ?_
        refine z_iadd K dX9_putOut_19 ?_
        refine z_iald (k := 47) (v := d (12 + l)) K dX9_putOut_20 (6 + l) rfl (by decide) (by omega) (by omega) ag.2.1 ?_
        refine z_ifne (tgt := 44) K dX9_putOut_21 (by decide) (by omega) (fun h21 => ?_) (fun h21 => ?_)
        · refine z_iconst K dX9_putOut_44 ?_
          refine z_istore (lv' := [(0, .ref (ad 39)), (1, .ref (ad 47)), (2, .int (zi ((b : Nat) : Int))), (3, .int (zi ((l : Nat) : Int))), (4, .int (zi (0 : Int)))]) K dX9_putOut_45 (by decide) rfl ?_
          refine z_aload_n K dX9_putOut_47 rfl ?_
          refine z_iload_n K dX9_putOut_48 rfl ?_
          refine z_dup2 K dX9_putOut_49 rfl rfl ?_
          refine z_iald (k := 47) (v := d l) K dX9_putOut_50 l rfl (by decide) (by omega) (by omega) ag.1 ?_
          refine z_iload K dX9_putOut_51 rfl ?_
          refine z_ifeq (tgt := 60) K dX9_putOut_53 (by decide) ⟨by decide, by decide⟩ (fun h53 => ?_) (fun h53 => ?_)
          · refine z_iconst K dX9_putOut_60 ?_
            refine z_isub K dX9_putOut_61 ?_
            refine z_iast (k := 47) K dX9_putOut_62 l rfl (by decide) (by omega) (by omega) (z_mem (ν := zup (zup μ 47 (zu1 q l ((d l) - (0 : Int)))) 53 a) (zup_sw _ (by decide) _ _ _) ?_)
            refine z_iincN (lv' := [(0, .ref (ad 39)), (1, .ref (ad 47)), (2, .int (zi ((b : Nat) : Int))), (3, .int (zi ((l + 1 : Nat) : Int))), (4, .int (zi (0 : Int)))]) K dX9_putOut_63 rfl (by decide) rfl ?_
            refine z_goto (tgt := 2) K dX9_putOut_66 (by decide) ?_
            refine z_ipick [0, 1, 2, 3] rfl ?_
            exact ih (l + 1) (by omega) (by omega) d _ hv (by
              by_cases h4 : 4 ≤ x
              · rw [if_pos h4] at hd ⊢
                rw [zpo_s, hd, if_neg (by omega)]
              · rw [if_neg h4] at hd ⊢
                exact hd) (zAg_same hag l (by omega))
          · refine z_iconst K dX9_putOut_56 ?_
            refine z_goto (tgt := 61) K dX9_putOut_57 (by decide) ?_
            refine z_isub K dX9_putOut_61 ?_
            refine z_iast (k := 47) K dX9_putOut_62 l rfl (by decide) (by omega) (by omega) (z_mem (ν := zup (zup μ 47 (zu1 q l ((d l) - (4 : Int)))) 53 a) (zup_sw _ (by decide) _ _ _) ?_)
            refine z_iincN (lv' := [(0, .ref (ad 39)), (1, .ref (ad 47)), (2, .int (zi ((b : Nat) : Int))), (3, .int (zi ((l + 1 : Nat) : Int))), (4, .int (zi (0 : Int)))]) K dX9_putOut_63 rfl (by decide) rfl ?_
            refine z_goto (tgt := 2) K dX9_putOut_66 (by decide) ?_
            refine z_ipick [0, 1, 2, 3] rfl ?_
            exact ih (l + 1) (by omega) (by omega) (zu1 d l (d l - (4 : Int))) _ (zHW_hole hn6 hv (by omega) ⟨by omega, by omega⟩) (by
              rw [if_pos (by omega)] at hd ⊢
              rw [zpo_s, hd, if_pos ⟨by omega, by omega⟩, show x - 4 = d l - (4 : Int) by omega]) (zAg_hole hn6 hag (by omega) _)
        · refine z_aload_n K dX9_putOut_24 rfl ?_
          refine z_iload_n K dX9_putOut_25 rfl ?_
          refine z_iald (k := 47) (v := d l) K dX9_putOut_26 l rfl (by decide) (by omega) (by omega) ag.1 ?_
          refine z_aload_n K dX9_putOut_27 rfl ?_
          refine z_iload_n K dX9_putOut_28 rfl ?_
          refine z_iald (k := 47) (v := d b) K dX9_putOut_29 b rfl (by decide) (by omega) (by omega) agb.1 ?_
          refine z_icmpne (tgt := 44) K dX9_putOut_30 (by decide) (by omega) (by omega) (fun h30 => ?_) (fun h30 => ?_)
          · refine z_iconst K dX9_putOut_44 ?_
            refine z_istore (lv' := [(0, .ref (ad 39)), (1, .ref (ad 47)), (2, .int (zi ((b : Nat) : Int))), (3, .int (zi ((l : Nat) : Int))), (4, .int (zi (0 : Int)))]) K dX9_putOut_45 (by decide) rfl ?_
            refine z_aload_n K dX9_putOut_47 rfl ?_
            refine z_iload_n K dX9_putOut_48 rfl ?_
            refine z_dup2 K dX9_putOut_49 rfl rfl ?_
            refine z_iald (k := 47) (v := d l) K dX9_putOut_50 l rfl (by decide) (by omega) (by omega) ag.1 ?_
            refine z_iload K dX9_putOut_51 rfl ?_
            refine z_ifeq (tgt := 60) K dX9_putOut_53 (by decide) ⟨by decide, by decide⟩ (fun h53 => ?_) (fun h53 => ?_)
            · refine z_iconst K dX9_putOut_60 ?_
              refine z_isub K dX9_putOut_61 ?_
              refine z_iast (k := 47) K dX9_putOut_62 l rfl (by decide) (by omega) (by omega) (z_mem (ν := zup (zup μ 47 (zu1 q l ((d l) - (0 : Int)))) 53 a) (zup_sw _ (by decide) _ _ _) ?_)
              refine z_iincN (lv' := [(0, .ref (ad 39)), (1, .ref (ad 47)), (2, .int (zi ((b : Nat) : Int))), (3, .int (zi ((l + 1 : Nat) : Int))), (4, .int (zi (0 : Int)))]) K dX9_putOut_63 rfl (by decide) rfl ?_
              refine z_goto (tgt := 2) K dX9_putOut_66 (by decide) ?_
              refine z_ipick [0, 1, 2, 3] rfl ?_
              exact ih (l + 1) (by omega) (by omega) d _ hv (by
                by_cases h4 : 4 ≤ x
                · rw [if_pos h4] at hd ⊢
                  rw [zpo_s, hd, if_neg (by omega)]
                · rw [if_neg h4] at hd ⊢
                  exact hd) (zAg_same hag l (by omega))
            · refine z_iconst K dX9_putOut_56 ?_
              refine z_goto (tgt := 61) K dX9_putOut_57 (by decide) ?_
              refine z_isub K dX9_putOut_61 ?_
              refine z_iast (k := 47) K dX9_putOut_62 l rfl (by decide) (by omega) (by omega) (z_mem (ν := zup (zup μ 47 (zu1 q l ((d l) - (4 : Int)))) 53 a) (zup_sw _ (by decide) _ _ _) ?_)
              refine z_iincN (lv' := [(0, .ref (ad 39)), (1, .ref (ad 47)), (2, .int (zi ((b : Nat) : Int))), (3, .int (zi ((l + 1 : Nat) : Int))), (4, .int (zi (0 : Int)))]) K dX9_putOut_63 rfl (by decide) rfl ?_
              refine z_goto (tgt := 2) K dX9_putOut_66 (by decide) ?_
              refine z_ipick [0, 1, 2, 3] rfl ?_
              exact ih (l + 1) (by omega) (by omega) (zu1 d l (d l - (4 : Int))) _ (zHW_hole hn6 hv (by omega) ⟨by omega, by omega⟩) (by
                rw [if_pos (by omega)] at hd ⊢
                rw [zpo_s, hd, if_pos ⟨by omega, by omega⟩, show x - 4 = d l - (4 : Int) by omega]) (zAg_hole hn6 hag (by omega) _)
          · refine z_aload_n K dX9_putOut_33 rfl ?_
            refine z_iload_n K dX9_putOut_34 rfl ?_
            refine z_iald (k := 47) (v := d b) K dX9_putOut_35 b rfl (by decide) (by omega) (by omega) agb.1 ?_
            refine z_iconst K dX9_putOut_36 ?_
            refine z_icmple (tgt := 44) K dX9_putOut_37 (by decide) (by omega) ⟨by decide, by decide⟩ (fun h37 => ?_) (fun h37 => ?_)
            · refine z_iconst K dX9_putOut_44 ?_
              refine z_istore (lv' := [(0, .ref (ad 39)), (1, .ref (ad 47)), (2, .int (zi ((b : Nat) : Int))), (3, .int (zi ((l : Nat) : Int))), (4, .int (zi (0 : Int)))]) K dX9_putOut_45 (by decide) rfl ?_
              refine z_aload_n K dX9_putOut_47 rfl ?_
              refine z_iload_n K dX9_putOut_48 rfl ?_
              refine z_dup2 K dX9_putOut_49 rfl rfl ?_
              refine z_iald (k := 47) (v := d l) K dX9_putOut_50 l rfl (by decide) (by omega) (by omega) ag.1 ?_
              refine z_iload K dX9_putOut_51 rfl ?_
              refine z_ifeq (tgt := 60) K dX9_putOut_53 (by decide) ⟨by decide, by decide⟩ (fun h53 => ?_) (fun h53 => ?_)
              · refine z_iconst K dX9_putOut_60 ?_
                refine z_isub K dX9_putOut_61 ?_
                refine z_iast (k := 47) K dX9_putOut_62 l rfl (by decide) (by omega) (by omega) (z_mem (ν := zup (zup μ 47 (zu1 q l ((d l) - (0 : Int)))) 53 a) (zup_sw _ (by decide) _ _ _) ?_)
                refine z_iincN (lv' := [(0, .ref (ad 39)), (1, .ref (ad 47)), (2, .int (zi ((b : Nat) : Int))), (3, .int (zi ((l + 1 : Nat) : Int))), (4, .int (zi (0 : Int)))]) K dX9_putOut_63 rfl (by decide) rfl ?_
                refine z_goto (tgt := 2) K dX9_putOut_66 (by decide) ?_
                refine z_ipick [0, 1, 2, 3] rfl ?_
                exact ih (l + 1) (by omega) (by omega) d _ hv (by
                  by_cases h4 : 4 ≤ x
                  · rw [if_pos h4] at hd ⊢
                    rw [zpo_s, hd, if_neg (by omega)]
                  · rw [if_neg h4] at hd ⊢
                    exact hd) (zAg_same hag l (by omega))
              · refine z_iconst K dX9_putOut_56 ?_
                refine z_goto (tgt := 61) K dX9_putOut_57 (by decide) ?_
                refine z_isub K dX9_putOut_61 ?_
                refine z_iast (k := 47) K dX9_putOut_62 l rfl (by decide) (by omega) (by omega) (z_mem (ν := zup (zup μ 47 (zu1 q l ((d l) - (4 : Int)))) 53 a) (zup_sw _ (by decide) _ _ _) ?_)
                refine z_iincN (lv' := [(0, .ref (ad 39)), (1, .ref (ad 47)), (2, .int (zi ((b : Nat) : Int))), (3, .int (zi ((l + 1 : Nat) : Int))), (4, .int (zi (0 : Int)))]) K dX9_putOut_63 rfl (by decide) rfl ?_
                refine z_goto (tgt := 2) K dX9_putOut_66 (by decide) ?_
                refine z_ipick [0, 1, 2, 3] rfl ?_
                exact ih (l + 1) (by omega) (by omega) (zu1 d l (d l - (4 : Int))) _ (zHW_hole hn6 hv (by omega) ⟨by omega, by omega⟩) (by
                  rw [if_pos (by omega)] at hd ⊢
                  rw [zpo_s, hd, if_pos ⟨by omega, by omega⟩, show x - 4 = d l - (4 : Int) by omega]) (zAg_hole hn6 hag (by omega) _)
            · refine z_iconst K dX9_putOut_40 ?_
              refine z_goto (tgt := 45) K dX9_putOut_41 (by decide) ?_
              refine z_istore (lv' := [(0, .ref (ad 39)), (1, .ref (ad 47)), (2, .int (zi ((b : Nat) : Int))), (3, .int (zi ((l : Nat) : Int))), (4, .int (zi (1 : Int)))]) K dX9_putOut_45 (by decide) rfl ?_
              refine z_aload_n K dX9_putOut_47 rfl ?_
              refine z_iload_n K dX9_putOut_48 rfl ?_
              refine z_dup2 K dX9_putOut_49 rfl rfl ?_
              refine z_iald (k := 47) (v := d l) K dX9_putOut_50 l rfl (by decide) (by omega) (by omega) ag.1 ?_
              refine z_iload K dX9_putOut_51 rfl ?_
              refine z_ifeq (tgt := 60) K dX9_putOut_53 (by decide) ⟨by decide, by decide⟩ (fun h53 => ?_) (fun h53 => ?_)
              · refine z_iconst K dX9_putOut_60 ?_
                refine z_isub K dX9_putOut_61 ?_
                refine z_iast (k := 47) K dX9_putOut_62 l rfl (by decide) (by omega) (by omega) (z_mem (ν := zup (zup μ 47 (zu1 q l ((d l) - (0 : Int)))) 53 a) (zup_sw _ (by decide) _ _ _) ?_)
                refine z_iincN (lv' := [(0, .ref (ad 39)), (1, .ref (ad 47)), (2, .int (zi ((b : Nat) : Int))), (3, .int (zi ((l + 1 : Nat) : Int))), (4, .int (zi (1 : Int)))]) K dX9_putOut_63 rfl (by decide) rfl ?_
                refine z_goto (tgt := 2) K dX9_putOut_66 (by decide) ?_
                refine z_ipick [0, 1, 2, 3] rfl ?_
                exact ih (l + 1) (by omega) (by omega) d _ hv (by
                  by_cases h4 : 4 ≤ x
                  · rw [if_pos h4] at hd ⊢
                    rw [zpo_s, hd, if_neg (by omega)]
                  · rw [if_neg h4] at hd ⊢
                    exact hd) (zAg_same hag l (by omega))
              · refine z_iconst K dX9_putOut_56 ?_
                refine z_goto (tgt := 61) K dX9_putOut_57 (by decide) ?_
                refine z_isub K dX9_putOut_61 ?_
                refine z_iast (k := 47) K dX9_putOut_62 l rfl (by decide) (by omega) (by omega) (z_mem (ν := zup (zup μ 47 (zu1 q l ((d l) - (4 : Int)))) 53 a) (zup_sw _ (by decide) _ _ _) ?_)
                refine z_iincN (lv' := [(0, .ref (ad 39)), (1, .ref (ad 47)), (2, .int (zi ((b : Nat) : Int))), (3, .int (zi ((l + 1 : Nat) : Int))), (4, .int (zi (1 : Int)))]) K dX9_putOut_63 rfl (by decide) rfl ?_
                refine z_goto (tgt := 2) K dX9_putOut_66 (by decide) ?_
                refine z_ipick [0, 1, 2, 3] rfl ?_
                exact ih (l + 1) (by omega) (by omega) (zu1 d l (d l - (4 : Int))) _ (zHW_hole hn6 hv (by omega) ⟨by omega, by omega⟩) (by
                  rw [if_pos (by omega)] at hd ⊢
                  rw [zpo_s, hd, if_pos ⟨by omega, by omega⟩, show x - 4 = d l - (4 : Int) by omega]) (zAg_hole hn6 hag (by omega) _)
  exact L2 0 (by omega) c p hw (by split <;> rfl) hg
set_option maxHeartbeats 4000000 in
set_option maxRecDepth 100000 in
theorem cm_hatch_r (la : Launch) (g0 : zG) (ad : Nat → Nat) (μ : zMem) (n nc S : Nat) (kd al wt an p c a : Nat → Int) (hm : zMP μ n nc kd al wt an) (hw : zHV n nc c) (hg : zAg n nc S p c) : zCon la g0 yX9_hatch cX9_hatch 4 (some .int) 2 ad zSH [.ref (ad 39), .ref (ad 47)] (zup (zup μ 47 p) 53 a) (zPi (fun r ν => r = (((zht n kd al (zwt c n) n).2 : Nat) : Int) ∧ zGo μ 47 n nc S ((zht n kd al (zwt c n) n).1, a) ν)) := by
  refine zCon_of (by decide +kernel) (Nat.le_of_ble_eq_true rfl) ?_
  intro χ K T hl1 hg1
  have K : zOk χ cX9_hatch RX9 4 2 (some .int) := K
  obtain ⟨hn, hnc, hpl, hpa, hpk⟩ := id hm
  have hn6 := hpk.1
  have hnc3 := hpk.2.1
  show zV χ 4 ad zSH 0 0 0 [(0, .ref (ad 39)), (1, .ref (ad 47))] [] (zup (zup μ 47 p) 53 a)
  refine z_iconst K dX9_hatch_0 ?_
  refine z_istore_n (lv' := [(0, .ref (ad 39)), (1, .ref (ad 47)), (2, .int (zi (0 : Int)))]) K dX9_hatch_1 (by decide) rfl ?_
  refine z_iconst K dX9_hatch_2 ?_
  refine z_istore_n (lv' := [(0, .ref (ad 39)), (1, .ref (ad 47)), (2, .int (zi (0 : Int))), (3, .int (zi (0 : Int)))]) K dX9_hatch_3 (by decide) rfl ?_
  have L4 : ∀ l, l ≤ n → ∀ (d q : Nat → Int), zwt c l = d → zAg n nc S q d → zV χ 4 ad zSH 0 0 4 [(0, .ref (ad 39)), (1, .ref (ad 47)), (2, .int (zi (0 : Int))), (3, .int (zi ((l : Nat) : Int)))] [] (zup (zup μ 47 q) 53 a) := by
    refine zfor ?_
    intro l hl ih d q hd hag
    have hwt := zwt_ok hn6 hw l hl
    rw [hd] at hwt
    refine z_iload_n K dX9_hatch_4 rfl ?_
    refine z_aload_n K dX9_hatch_5 rfl ?_
    refine z_get (k := 39) (v := .int (zi (μ 39 4))) K dX9_hatch_6 fl_X9_63 rfl rfl rfl ?_
    refine z_icmpge (tgt := 41) K dX9_hatch_9 (by decide) (by omega) (by omega) (fun h9 => ?_) (fun h9 => ?_)
    · have hln : l = n := by omega
      rw [hln] at hd
      refine z_iconst K dX9_hatch_41 ?_
      refine z_istore_n (lv' := [(0, .ref (ad 39)), (1, .ref (ad 47)), (2, .int (zi (0 : Int))), (3, .int (zi (0 : Int)))]) K dX9_hatch_42 (by decide) rfl ?_
      have L43 : ∀ l, l ≤ n → ∀ (f : Nat → Int) (m : Nat) (q : Nat → Int), zht n kd al (d) l = (f, m) → zAg n nc S q f → zV χ 4 ad zSH 0 0 43 [(0, .ref (ad 39)), (1, .ref (ad 47)), (2, .int (zi ((m : Nat) : Int))), (3, .int (zi ((l : Nat) : Int)))] [] (zup (zup μ 47 q) 53 a) := by
        refine zfor ?_
        intro l hl ih f m q hF3 hag
        have hht := zht_ok hpk hwt.1 l hl
        rw [hF3] at hht
        dsimp only at hht
        refine z_iload_n K dX9_hatch_43 rfl ?_
        refine z_aload_n K dX9_hatch_44 rfl ?_
        refine z_get (k := 39) (v := .int (zi (μ 39 4))) K dX9_hatch_45 fl_X9_63 rfl rfl rfl ?_
        refine z_icmpge (tgt := 107) K dX9_hatch_48 (by decide) (by omega) (by omega) (fun h48 => ?_) (fun h48 => ?_)
        · refine z_iload_n K dX9_hatch_107 rfl ?_
          exact z_ireti K T rfl dX9_hatch_108 (by
              have e : l = n := by omega
              rw [e] at hF3
              exact ⟨by rw [hd, hF3], q, rfl, by rw [hd, hF3]; exact hag⟩)
        · have hk1 := hpk.2.2.1 l (by omega)
          have ag := hag.1 l (by omega)
          have hwl := hht.1.1 l (by omega)
          have hdl := zdl_nd n kd al f l
          have hpl1 := hpl l (by omega)
          have hnd : 1 ≤ znd n kd al f l ∧ znd n kd al f l ≤ 15 := by
            have h1 := hpk.2.2.1 l (by omega)
            have h3 := zcnt_le f l n
            unfold znd; split <;> omega
          refine z_aload_n K dX9_hatch_51 rfl ?_
          refine z_bipush K dX9_hatch_52 (by decide +kernel) ?_
          refine z_iload_n K dX9_hatch_54 rfl ?_
          refine z_iadd K dX9_hatch_55 ?_
          refine z_iald (k := 47) (v := f (12 + l)) K dX9_hatch_56 (6 + l) rfl (by decide) (by omega) (by omega) ag.2.1 ?_
          refine z_ifne (tgt := 101) K dX9_hatch_57 (by decide) (by omega) (fun h57 => ?_) (fun h57 => ?_)
          · refine z_iincN (lv' := [(0, .ref (ad 39)), (1, .ref (ad 47)), (2, .int (zi ((m : Nat) : Int))), (3, .int (zi ((l + 1 : Nat) : Int)))]) K dX9_hatch_101 rfl (by decide) rfl ?_
            refine z_goto (tgt := 43) K dX9_hatch_104 (by decide) ?_
            exact ih (l + 1) (by omega) (by omega) f m q (by
              rw [zht_s, hF3]
              dsimp only
              rw [if_neg (by omega)]) hag
          · refine z_aload_n K dX9_hatch_60 rfl ?_
            refine z_bipush K dX9_hatch_61 (by decide +kernel) ?_
            refine z_iload_n K dX9_hatch_63 rfl ?_
            refine z_iadd K dX9_hatch_64 ?_
            refine z_iald (k := 47) (v := f (6 + l)) K dX9_hatch_65 (12 + l) rfl (by decide) (by omega) (by omega) ag.2.2 ?_
            refine z_aload_n K dX9_hatch_66 rfl ?_
            refine z_aload_n K dX9_hatch_67 rfl ?_
            refine z_iload_n K dX9_hatch_68 rfl ?_
            refine z_callVd K hl1 hg1 (kb := 39) (As := [.ref (ad 47), .int (zi ((l : Nat) : Int))]) (rest := [.int (zi (f (6 + l)))]) (cm_needs_r la g0 ad (zup (zup μ 47 q) 53 a) n nc S kd al wt an f hm hht.1 hag l (by omega)) (by decide) lk_X9_118 cd_X9_needs rfl rfl rfl rfl (Nat.le_of_ble_eq_true rfl) dX9_hatch_69 ?_
            show zV χ 4 ad zSH 0 0 72 [(0, .ref (ad 39)), (1, .ref (ad 47)), (2, .int (zi ((m : Nat) : Int))), (3, .int (zi ((l : Nat) : Int)))] [.int (zi (znd n kd al f l)), .int (zi (f (6 + l)))] (zup (zup μ 47 q) 53 a)
            refine z_icmplt (tgt := 101) K dX9_hatch_72 (by decide) (by omega) (by omega) (fun h72 => ?_) (fun h72 => ?_)
            · refine z_iincN (lv' := [(0, .ref (ad 39)), (1, .ref (ad 47)), (2, .int (zi ((m : Nat) : Int))), (3, .int (zi ((l + 1 : Nat) : Int)))]) K dX9_hatch_101 rfl (by decide) rfl ?_
              refine z_goto (tgt := 43) K dX9_hatch_104 (by decide) ?_
              exact ih (l + 1) (by omega) (by omega) f m q (by
                rw [zht_s, hF3]
                dsimp only
                rw [if_neg (by omega)]) hag
            · refine z_aload_n K dX9_hatch_75 rfl ?_
              refine z_bipush K dX9_hatch_76 (by decide +kernel) ?_
              refine z_iload_n K dX9_hatch_78 rfl ?_
              refine z_iadd K dX9_hatch_79 ?_
              refine z_iconst K dX9_hatch_80 ?_
              refine z_iast (k := 47) K dX9_hatch_81 (6 + l) rfl (by decide) (by omega) (by omega) (z_mem (ν := zup (zup μ 47 (zu1 q (6 + l) (2 : Int))) 53 a) (zup_sw _ (by decide) _ _ _) ?_)
              refine z_iincN (lv' := [(0, .ref (ad 39)), (1, .ref (ad 47)), (2, .int (zi ((m + 1 : Nat) : Int))), (3, .int (zi ((l : Nat) : Int)))]) K dX9_hatch_82 rfl (by decide) rfl ?_
              refine z_aload_n K dX9_hatch_85 rfl ?_
              refine z_get (k := 39) (v := .ref (ad 42)) K dX9_hatch_86 fl_X9_16 rfl rfl rfl ?_
              refine z_iload_n K dX9_hatch_89 rfl ?_
              refine z_iald (k := 42) (v := kd l) K dX9_hatch_90 l rfl (by decide) (by omega) (by omega) hpl1.2.1 ?_
              refine z_iconst K dX9_hatch_91 ?_
              refine z_icmpne (tgt := 101) K dX9_hatch_92 (by decide) (by omega) ⟨by decide, by decide⟩ (fun h92 => ?_) (fun h92 => ?_)
              · refine z_iincN (lv' := [(0, .ref (ad 39)), (1, .ref (ad 47)), (2, .int (zi ((m + 1 : Nat) : Int))), (3, .int (zi ((l + 1 : Nat) : Int)))]) K dX9_hatch_101 rfl (by decide) rfl ?_
                refine z_goto (tgt := 43) K dX9_hatch_104 (by decide) ?_
                exact ih (l + 1) (by omega) (by omega) (zhat n kd f l) (m + 1) _ (by
                  rw [zht_s, hF3]
                  dsimp only
                  rw [if_pos ⟨by omega, by omega⟩]) (by rw [zhat_no n kd f l (by omega)]; exact zAg_fate hn6 hag (by omega) 2)
              · refine z_aload_n K dX9_hatch_95 rfl ?_
                refine z_aload_n K dX9_hatch_96 rfl ?_
                refine z_iload_n K dX9_hatch_97 rfl ?_
                refine z_callVv K hl1 hg1 (kb := 39) (As := [.ref (ad 47), .int (zi ((l : Nat) : Int))]) (rest := []) (cm_putOut_r la g0 ad μ n nc S kd al wt an (zu1 q (6 + l) 2) (zu1 f (12 + l) 2) a hm (zHW_fate hn6 hht.1 (by omega) ⟨by decide, by decide⟩) (zAg_fate hn6 hag (by omega) 2) l (by omega) (zu1_eq _ _ _) (f l) (zu1_ne _ _ (by omega))) (by decide) lk_X9_137 cd_X9_putOut rfl rfl rfl rfl (Nat.le_of_ble_eq_true rfl) dX9_hatch_98 (fun ν h98 => ?_)
                obtain ⟨q2, hν, hag2⟩ := h98
                subst hν
                refine z_iincN (lv' := [(0, .ref (ad 39)), (1, .ref (ad 47)), (2, .int (zi ((m + 1 : Nat) : Int))), (3, .int (zi ((l + 1 : Nat) : Int)))]) K dX9_hatch_101 rfl (by decide) rfl ?_
                refine z_goto (tgt := 43) K dX9_hatch_104 (by decide) ?_
                exact ih (l + 1) (by omega) (by omega) (zhat n kd f l) (m + 1) q2 (by
                  rw [zht_s, hF3]
                  dsimp only
                  rw [if_pos ⟨by omega, by omega⟩]) (by rw [zhat_if n kd f l (by omega)]; exact hag2)
      exact L43 0 (by omega) d 0 q rfl hag
    · have ag := hag.1 l (by omega)
      have hwl := hwt.1.1 l (by omega)
      refine z_aload_n K dX9_hatch_12 rfl ?_
      refine z_bipush K dX9_hatch_13 (by decide +kernel) ?_
      refine z_iload_n K dX9_hatch_15 rfl ?_
      refine z_iadd K dX9_hatch_16 ?_
      refine z_dup2 K dX9_hatch_17 rfl rfl ?_
      refine z_iald (k := 47) (v := d (6 + l)) K dX9_hatch_18 (12 + l) rfl (by decide) (by omega) (by omega) ag.2.2 ?_
      refine z_aload_n K dX9_hatch_19 rfl ?_
      refine z_bipush K dX9_hatch_20 (by decide +kernel) ?_
      refine z_iload_n K dX9_hatch_22 rfl ?_
      refine z_iadd K dX9_hatch_23 ?_
      refine z_iald (k := 47) (v := d (12 + l)) K dX9_hatch_24 (6 + l) rfl (by decide) (by omega) (by omega) ag.2.1 ?_
      refine z_ifne (tgt := 32) K dX9_hatch_25 (by decide) (by omega) (fun h25 => ?_) (fun h25 => ?_)
      · refine z_iconst K dX9_hatch_32 ?_
        refine z_iadd K dX9_hatch_33 ?_
        refine z_iast (k := 47) K dX9_hatch_34 (12 + l) rfl (by decide) (by omega) (by omega) (z_mem (ν := zup (zup μ 47 (zu1 q (12 + l) ((d (6 + l)) + (0 : Int)))) 53 a) (zup_sw _ (by decide) _ _ _) ?_)
        refine z_iincN (lv' := [(0, .ref (ad 39)), (1, .ref (ad 47)), (2, .int (zi (0 : Int))), (3, .int (zi ((l + 1 : Nat) : Int)))]) K dX9_hatch_35 rfl (by decide) rfl ?_
        refine z_goto (tgt := 4) K dX9_hatch_38 (by decide) ?_
        exact ih (l + 1) (by omega) (by omega) d _ (by
          rw [zwt_s, hd, if_neg h25]) (zAg_same hag (12 + l) (by omega))
      · refine z_iconst K dX9_hatch_28 ?_
        refine z_goto (tgt := 33) K dX9_hatch_29 (by decide) ?_
        refine z_iadd K dX9_hatch_33 ?_
        refine z_iast (k := 47) K dX9_hatch_34 (12 + l) rfl (by decide) (by omega) (by omega) (z_mem (ν := zup (zup μ 47 (zu1 q (12 + l) ((d (6 + l)) + (1 : Int)))) 53 a) (zup_sw _ (by decide) _ _ _) ?_)
        refine z_iincN (lv' := [(0, .ref (ad 39)), (1, .ref (ad 47)), (2, .int (zi (0 : Int))), (3, .int (zi ((l + 1 : Nat) : Int)))]) K dX9_hatch_35 rfl (by decide) rfl ?_
        refine z_goto (tgt := 4) K dX9_hatch_38 (by decide) ?_
        exact ih (l + 1) (by omega) (by omega) (zu1 d (6 + l) (d (6 + l) + (1 : Int))) _ (by
          rw [zwt_s, hd, if_pos h25]) (zAg_wait hn6 hag (by omega) _)
  exact L4 0 (by omega) c p rfl hg
set_option maxHeartbeats 4000000 in
set_option maxRecDepth 100000 in
theorem cm_goDay_r (la : Launch) (g0 : zG) (ad : Nat → Nat) (μ : zMem) (n nc S : Nat) (kd al wt an p c a : Nat → Int) (hm : zMP μ n nc kd al wt an) (hw : zHV n nc c) (hg : zAg n nc S p c) (hS : μ 39 24 = (S : Int)) (hS6 : S < 64) : zCon la g0 yX9_goDay cX9_goDay 4 (some .int) 5 ad zSH [.ref (ad 39), .ref (ad 47)] (zup (zup μ 47 p) 53 a) (zPi (fun r ν => r = ((zdayM n kd al nc an (c, a) : Nat) : Int) ∧ zGo μ 47 n nc S (zday n kd al nc an (c, a)) ν)) := by
  refine zCon_of (by decide +kernel) (Nat.le_of_ble_eq_true rfl) ?_
  intro χ K T hl1 hg1
  have K : zOk χ cX9_goDay RX9 4 5 (some .int) := K
  obtain ⟨hn, hnc, hpl, hpa, hpk⟩ := id hm
  have hn6 := hpk.1
  have hnc3 := hpk.2.1
  show zV χ 4 ad zSH 0 0 0 [(0, .ref (ad 39)), (1, .ref (ad 47))] [] (zup (zup μ 47 p) 53 a)
  refine z_iconst K dX9_goDay_0 ?_
  refine z_istore_n (lv' := [(0, .ref (ad 39)), (1, .ref (ad 47)), (2, .int (zi (0 : Int)))]) K dX9_goDay_1 (by decide) rfl ?_
  have L2 : ∀ k, k ≤ nc → ∀ (d b q : Nat → Int), zcl n kd al an k (c, a) = (d, b) → zAg n nc S q d → zV χ 4 ad zSH 0 0 2 [(0, .ref (ad 39)), (1, .ref (ad 47)), (2, .int (zi ((k : Nat) : Int)))] [] (zup (zup μ 47 q) 53 b) := by
    refine zfor ?_
    intro k hk ih d b q hF hag
    have hwv := zcl_wait hpk k (c, a) hw
    rw [hF] at hwv
    dsimp only at hwv
    have hbl := zbit_lt S k
    refine z_iload_n K dX9_goDay_2 rfl ?_
    refine z_aload_n K dX9_goDay_3 rfl ?_
    refine z_get (k := 39) (v := .int (zi (μ 39 7))) K dX9_goDay_4 fl_X9_70 rfl rfl rfl ?_
    refine z_icmpge (tgt := 33) K dX9_goDay_7 (by decide) (by omega) (by omega) (fun h7 => ?_) (fun h7 => ?_)
    · have hkn : k = nc := by omega
      rw [hkn] at hF
      have hdV := (zdayA_ok hpk (s := (c, a)) hw).1
      have hdM := (zdayA_ok hpk (s := (c, a)) hw).2
      refine z_aload_n K dX9_goDay_33 rfl ?_
      refine z_aload_n K dX9_goDay_34 rfl ?_
      refine z_callVi K hl1 hg1 (kb := 39) (As := [.ref (ad 47)]) (rest := []) (cm_hatch_r la g0 ad μ n nc S kd al wt an q d b hm hwv hag) (by decide) lk_X9_151 cd_X9_hatch rfl rfl rfl rfl (Nat.le_of_ble_eq_true rfl) dX9_goDay_35 (fun r ν h35 => ?_)
      obtain ⟨hr, q3, hν, hag3⟩ := h35
      subst hν hr
      have hdA : zdayA n kd al nc an (c, a) = zht n kd al (zwt d n) n := by unfold zdayA; rw [hF]
      rw [← hdA] at hag3 ⊢
      refine z_istore_n (lv' := [(0, .ref (ad 39)), (1, .ref (ad 47)), (2, .int (zi (((zdayA n kd al nc an (c, a)).2 : Nat) : Int)))]) K dX9_goDay_38 (by decide) rfl ?_
      refine z_iconst K dX9_goDay_39 ?_
      refine z_istore_n (lv' := [(0, .ref (ad 39)), (1, .ref (ad 47)), (2, .int (zi (((zdayA n kd al nc an (c, a)).2 : Nat) : Int))), (3, .int (zi (0 : Int)))]) K dX9_goDay_40 (by decide) rfl ?_
      have L41 : ∀ l, l ≤ n → ∀ (g q : Nat → Int), zeat (zdayA n kd al nc an (c, a)).1 l = g → zAg n nc S q g → zV χ 4 ad zSH 0 0 41 [(0, .ref (ad 39)), (1, .ref (ad 47)), (2, .int (zi (((zdayA n kd al nc an (c, a)).2 : Nat) : Int))), (3, .int (zi ((l : Nat) : Int)))] [] (zup (zup μ 47 q) 53 b) := by
        refine zfor ?_
        intro l hl ih g q hd hag
        have hev := zeat_ok hn6 hnc3 hdV l hl
        rw [hd] at hev
        have hgr := hag.2.2.1
        have hg21 := hev.1.2.2
        refine z_iload_n K dX9_goDay_41 rfl ?_
        refine z_aload_n K dX9_goDay_42 rfl ?_
        refine z_get (k := 39) (v := .int (zi (μ 39 4))) K dX9_goDay_43 fl_X9_63 rfl rfl rfl ?_
        refine z_icmpge (tgt := 102) K dX9_goDay_46 (by decide) (by omega) (by omega) (fun h46 => ?_) (fun h46 => ?_)
        · refine z_aload_n K dX9_goDay_102 rfl ?_
          refine z_bipush K dX9_goDay_103 (by decide +kernel) ?_
          refine z_dup2 K dX9_goDay_105 rfl rfl ?_
          refine z_iald (k := 47) (v := g 22) K dX9_goDay_106 22 rfl (by decide) (by omega) (by omega) hag.2.2.2 ?_
          refine z_iconst K dX9_goDay_107 ?_
          refine z_iadd K dX9_goDay_108 ?_
          refine z_iast (k := 47) K dX9_goDay_109 22 rfl (by decide) (by omega) (by omega) (z_mem (ν := zup (zup μ 47 (zu1 q 22 ((g 22) + (1 : Int)))) 53 b) (zup_sw _ (by decide) _ _ _) ?_)
          refine z_iload_n K dX9_goDay_110 rfl ?_
          exact z_ireti K T rfl dX9_goDay_111 (by
              have e : l = n := by omega
              rw [e] at hd
              exact ⟨rfl, _, by unfold zday; rw [hF], by unfold zday; rw [hd]; exact zAg_one hn6 hnc3 hag (Or.inr rfl) _⟩)
        · have ag := hag.1 l (by omega)
          have hwl := hev.1.1 l (by omega)
          refine z_aload_n K dX9_goDay_49 rfl ?_
          refine z_bipush K dX9_goDay_50 (by decide +kernel) ?_
          refine z_iload_n K dX9_goDay_52 rfl ?_
          refine z_iadd K dX9_goDay_53 ?_
          refine z_iald (k := 47) (v := g (12 + l)) K dX9_goDay_54 (6 + l) rfl (by decide) (by omega) (by omega) ag.2.1 ?_
          refine z_iconst K dX9_goDay_55 ?_
          refine z_icmpne (tgt := 96) K dX9_goDay_56 (by decide) (by omega) ⟨by decide, by decide⟩ (fun h56 => ?_) (fun h56 => ?_)
          · refine z_iincN (lv' := [(0, .ref (ad 39)), (1, .ref (ad 47)), (2, .int (zi (((zdayA n kd al nc an (c, a)).2 : Nat) : Int))), (3, .int (zi ((l + 1 : Nat) : Int)))]) K dX9_goDay_96 rfl (by decide) rfl ?_
            refine z_goto (tgt := 41) K dX9_goDay_99 (by decide) ?_
            exact ih (l + 1) (by omega) (by omega) g q (by
              rw [zeat_s, hd, if_neg (by omega)]) hag
          · refine z_aload_n K dX9_goDay_59 rfl ?_
            refine z_bipush K dX9_goDay_60 (by decide +kernel) ?_
            refine z_iload_n K dX9_goDay_62 rfl ?_
            refine z_iadd K dX9_goDay_63 ?_
            refine z_aload_n K dX9_goDay_64 rfl ?_
            refine z_bipush K dX9_goDay_65 (by decide +kernel) ?_
            refine z_iald (k := 47) (v := g 21) K dX9_goDay_67 21 rfl (by decide) (by omega) (by omega) hgr ?_
            refine z_ifle (tgt := 75) K dX9_goDay_68 (by decide) (by omega) (fun h68 => ?_) (fun h68 => ?_)
            · refine z_iconst K dX9_goDay_75 ?_
              refine z_iast (k := 47) K dX9_goDay_76 (6 + l) rfl (by decide) (by omega) (by omega) (z_mem (ν := zup (zup μ 47 (zu1 q (6 + l) (3 : Int))) 53 b) (zup_sw _ (by decide) _ _ _) ?_)
              refine z_aload_n K dX9_goDay_77 rfl ?_
              refine z_bipush K dX9_goDay_78 (by decide +kernel) ?_
              refine z_dup2 K dX9_goDay_80 rfl rfl ?_
              refine z_iald (k := 47) (v := g 21) K dX9_goDay_81 21 rfl (by decide) (by omega) (by omega) ((zu1_ne _ _ (by omega)).trans hgr) ?_
              refine z_aload_n K dX9_goDay_82 rfl ?_
              refine z_bipush K dX9_goDay_83 (by decide +kernel) ?_
              refine z_iald (k := 47) (v := g 21) K dX9_goDay_85 21 rfl (by decide) (by omega) (by omega) ((zu1_ne _ _ (by omega)).trans hgr) ?_
              refine z_ifle (tgt := 93) K dX9_goDay_86 (by decide) (by omega) (fun h86 => ?_) (fun h86 => absurd h86 (by omega))
              refine z_iconst K dX9_goDay_93 ?_
              refine z_isub K dX9_goDay_94 ?_
              refine z_iast (k := 47) K dX9_goDay_95 21 rfl (by decide) (by omega) (by omega) (z_mem (ν := zup (zup μ 47 (zu1 (zu1 q (6 + l) (3 : Int)) 21 ((g 21) - (0 : Int)))) 53 b) (zup_sw _ (by decide) _ _ _) ?_)
              refine z_iincN (lv' := [(0, .ref (ad 39)), (1, .ref (ad 47)), (2, .int (zi (((zdayA n kd al nc an (c, a)).2 : Nat) : Int))), (3, .int (zi ((l + 1 : Nat) : Int)))]) K dX9_goDay_96 rfl (by decide) rfl ?_
              refine z_goto (tgt := 41) K dX9_goDay_99 (by decide) ?_
              exact ih (l + 1) (by omega) (by omega) (zu1 g (12 + l) 3) _ (by
                rw [zeat_s, hd, if_pos (by omega), if_neg (by omega)]) (zAg_same (zAg_fate hn6 hag (by omega) 3) 21 (by rw [zu1_ne _ _ (by omega), hag.2.2.1]; omega))
            · refine z_iconst K dX9_goDay_71 ?_
              refine z_goto (tgt := 76) K dX9_goDay_72 (by decide) ?_
              refine z_iast (k := 47) K dX9_goDay_76 (6 + l) rfl (by decide) (by omega) (by omega) (z_mem (ν := zup (zup μ 47 (zu1 q (6 + l) (2 : Int))) 53 b) (zup_sw _ (by decide) _ _ _) ?_)
              refine z_aload_n K dX9_goDay_77 rfl ?_
              refine z_bipush K dX9_goDay_78 (by decide +kernel) ?_
              refine z_dup2 K dX9_goDay_80 rfl rfl ?_
              refine z_iald (k := 47) (v := g 21) K dX9_goDay_81 21 rfl (by decide) (by omega) (by omega) ((zu1_ne _ _ (by omega)).trans hgr) ?_
              refine z_aload_n K dX9_goDay_82 rfl ?_
              refine z_bipush K dX9_goDay_83 (by decide +kernel) ?_
              refine z_iald (k := 47) (v := g 21) K dX9_goDay_85 21 rfl (by decide) (by omega) (by omega) ((zu1_ne _ _ (by omega)).trans hgr) ?_
              refine z_ifle (tgt := 93) K dX9_goDay_86 (by decide) (by omega) (fun h86 => absurd h86 (by omega)) (fun h86 => ?_)
              refine z_iconst K dX9_goDay_89 ?_
              refine z_goto (tgt := 94) K dX9_goDay_90 (by decide) ?_
              refine z_isub K dX9_goDay_94 ?_
              refine z_iast (k := 47) K dX9_goDay_95 21 rfl (by decide) (by omega) (by omega) (z_mem (ν := zup (zup μ 47 (zu1 (zu1 q (6 + l) (2 : Int)) 21 ((g 21) - (1 : Int)))) 53 b) (zup_sw _ (by decide) _ _ _) ?_)
              refine z_iincN (lv' := [(0, .ref (ad 39)), (1, .ref (ad 47)), (2, .int (zi (((zdayA n kd al nc an (c, a)).2 : Nat) : Int))), (3, .int (zi ((l + 1 : Nat) : Int)))]) K dX9_goDay_96 rfl (by decide) rfl ?_
              refine z_goto (tgt := 41) K dX9_goDay_99 (by decide) ?_
              exact ih (l + 1) (by omega) (by omega) (zu1 g 21 (g 21 - (1 : Int))) _ (by
                rw [zeat_s, hd, if_pos (by omega), if_pos (by omega)]) (zAg_one hn6 hnc3 (zAg_same hag (6 + l) (by omega)) (Or.inl rfl) _)
      exact L41 0 (by omega) _ q3 rfl hag3
    · refine z_aload_n K dX9_goDay_10 rfl ?_
      refine z_get (k := 39) (v := .int (zi (μ 39 24))) K dX9_goDay_11 fl_X9_141 rfl rfl rfl ?_
      rw [show (μ 39 24) = ((S : Nat) : Int) from hS]
      refine z_iload_n K dX9_goDay_14 rfl ?_
      refine z_callSd K hl1 hg1 (As := [.int (zi ((S : Nat) : Int)), .int (zi ((k : Nat) : Int))]) (rest := []) (cm_has la g0 ad (zup (zup μ 47 q) 53 b) S k hS6 (by omega)) (by decide) lk_X9_144 cd_X9_has rfl rfl (Nat.le_of_ble_eq_true rfl) dX9_goDay_15 ?_
      show zV χ 4 ad zSH 0 0 18 [(0, .ref (ad 39)), (1, .ref (ad 47)), (2, .int (zi ((k : Nat) : Int)))] [.int (zi ((zbit S k : Nat) : Int))] (zup (zup μ 47 q) 53 b)
      refine z_ifeq (tgt := 27) K dX9_goDay_18 (by decide) (by omega) (fun h18 => ?_) (fun h18 => ?_)
      · refine z_iincN (lv' := [(0, .ref (ad 39)), (1, .ref (ad 47)), (2, .int (zi ((k + 1 : Nat) : Int)))]) K dX9_goDay_27 rfl (by decide) rfl ?_
        refine z_goto (tgt := 2) K dX9_goDay_30 (by decide) ?_
        exact ih (k + 1) (by omega) (by omega) d b q (by
          rw [zcl_s, hF, zca_no]
          show (zmp n kd al d (d (18 + k)) n).1 = -9
          rw [(hag.2.1 k (by omega)).2 (by omega)]
          exact zmp_3 hwv.1) hag
      · refine z_aload_n K dX9_goDay_21 rfl ?_
        refine z_aload_n K dX9_goDay_22 rfl ?_
        refine z_iload_n K dX9_goDay_23 rfl ?_
        refine z_callVv K hl1 hg1 (kb := 39) (As := [.ref (ad 47), .int (zi ((k : Nat) : Int))]) (rest := []) (cm_answer_r la g0 ad μ n nc S kd al wt an q d b hm hwv.1 hag k (by omega) (by omega)) (by decide) lk_X9_148 cd_X9_answer rfl rfl rfl rfl (Nat.le_of_ble_eq_true rfl) dX9_goDay_24 (fun ν h24 => ?_)
        obtain ⟨q2, hν, hag2⟩ := h24
        subst hν
        refine z_iincN (lv' := [(0, .ref (ad 39)), (1, .ref (ad 47)), (2, .int (zi ((k + 1 : Nat) : Int)))]) K dX9_goDay_27 rfl (by decide) rfl ?_
        refine z_goto (tgt := 2) K dX9_goDay_30 (by decide) ?_
        exact ih (k + 1) (by omega) (by omega) _ _ _ (by rw [zcl_s, hF]) hag2
  exact L2 0 (by omega) c a p rfl hg
