theorem zup_swd (μ : zMem) {k i : Nat} (h : i ≠ k) (a d : Nat → Int) : zup (zup μ i a) k d = zup (zup μ k d) i a := by
  funext q; unfold zup
  by_cases h1 : q = k
  · subst h1; simp [Ne.symm h]
  · simp [h1]
theorem zup_in {X Y : zMem} {k i : Nat} {a d : Nat → Int} (e : zup X k d = Y) (h : i ≠ k) : zup (zup X i a) k d = zup Y i a := by rw [zup_swd X h, e]
theorem zflt_inv {y : Nat → Int} {t : Nat} : ∀ r j, j + r = t → zflt y t r j = -9 → (zpre y t).1 = 2 ∧ ∀ i, j < i → i ≤ t → ¬ (zpre y i).1 = -1 := by
  intro r
  induction r with
  | zero =>
    intro j hj h
    have h : (if (zpre y t).1 = 2 then (-9 : Int) else (t : Int)) = -9 := h
    refine ⟨?_, fun i h1 h2 => absurd h1 (by omega)⟩
    by_cases e : (zpre y t).1 = 2
    · exact e
    · rw [if_neg e] at h; omega
  | succ r ih =>
    intro j hj h
    rw [zflt_s] at h
    by_cases e : (zpre y (j + 1)).1 = -1
    · rw [if_pos e] at h; omega
    · rw [if_neg e] at h
      obtain ⟨a, b⟩ := ih (j + 1) (by omega) h
      refine ⟨a, fun i h1 h2 => ?_⟩
      by_cases e2 : i = j + 1
      · subst e2; exact e
      · exact b i (by omega) h2
theorem zpre_0 (y : Nat → Int) : ∀ j, j ≤ 0 → ¬ (zpre y j).1 = -1 := by
  intro j hj
  have : j = 0 := by omega
  subst this
  show ¬ (0 : Int) = -1
  decide
theorem zfault_inv {y : Nat → Int} {t : Nat} (h : zfault y t = -9) : (zpre y t).1 = 2 ∧ ∀ i, i ≤ t → ¬ (zpre y i).1 = -1 := by
  obtain ⟨a, b⟩ := zflt_inv t 0 (by omega) h
  refine ⟨a, fun i hi => ?_⟩
  by_cases e : i = 0
  · subst e; exact zpre_0 y 0 (Nat.le_refl _)
  · exact b i (by omega) hi
def zRR (μ : zMem) (h : Nat → Int) (t : Nat) (r : Int) (ν : zMem) : Prop := r = zfault (μ 40) t ∧ ∃ g u v, ν = zup (zup (zup μ 39 g) 44 u) 45 v ∧ (∀ j, j ≠ 3 → j ≠ 9 → j ≠ 10 → j ≠ 12 → g j = h j) ∧ (r = -9 → zMR g u v t (zpre (μ 40) t).2)
set_option maxHeartbeats 4000000 in
set_option maxRecDepth 100000 in
theorem cm_readRoom (la : Launch) (g0 : zG) (ad : Nat → Nat) (μ : zMem) (h u v : Nat → Int) (t : Nat) (ht : h 2 = (t : Int)) (ht48 : t ≤ 48) (hx : ∀ j, j < 48 → 0 ≤ μ 40 j ∧ μ 40 j ≤ 255) : zCon la g0 yX9_readRoom cX9_readRoom 1 (some .int) 4 ad zSH [.ref (ad 39)] (zup (zup (zup μ 39 h) 44 u) 45 v) (zPi (zRR μ h t)) := by
  refine zCon_of (by decide +kernel) (Nat.le_of_ble_eq_true rfl) ?_
  intro χ K T hl1 hg1
  have K : zOk χ cX9_readRoom RX9 1 4 (some .int) := K
  have hx0 := hx 0 (by omega)
  have hx1 := hx 1 (by omega)
  show zV χ 1 ad zSH 0 0 0 [(0, .ref (ad 39))] [] (zup (zup (zup μ 39 h) 44 u) 45 v)
  refine z_aload_n K dX9_readRoom_0 rfl ?_
  refine z_iconst K dX9_readRoom_1 ?_
  refine z_puti (k := 39) K dX9_readRoom_2 fp_X9_78 rfl rfl (z_mem (ν := zup (zup (zup μ 39 (zu1 h 3 (0 : Int))) 44 u) 45 v) (zup_sw3 _ (by decide) (by decide) _ _ _ _) ?_)
  refine z_aload_n K dX9_readRoom_5 rfl ?_
  refine z_iconst K dX9_readRoom_6 ?_
  refine z_puti (k := 39) K dX9_readRoom_7 fp_X9_81 rfl rfl (z_mem (ν := zup (zup (zup μ 39 (zu1 (zu1 h 3 (0 : Int)) 10 (0 : Int))) 44 u) 45 v) (zup_sw3 _ (by decide) (by decide) _ _ _ _) ?_)
  refine z_aload_n K dX9_readRoom_10 rfl ?_
  refine z_iconst K dX9_readRoom_11 ?_
  refine z_puti (k := 39) K dX9_readRoom_12 fp_X9_92 rfl rfl (z_mem (ν := zup (zup (zup μ 39 (zu1 (zu1 (zu1 h 3 (0 : Int)) 10 (0 : Int)) 12 (0 : Int))) 44 u) 45 v) (zup_sw3 _ (by decide) (by decide) _ _ _ _) ?_)
  refine z_aload_n K dX9_readRoom_15 rfl ?_
  refine z_get (k := 39) (v := .int (zi ((zu1 (zu1 (zu1 h 3 (0 : Int)) 10 (0 : Int)) 12 (0 : Int)) 2))) K dX9_readRoom_16 fl_X9_75 rfl rfl rfl ?_
  rw [show ((zu1 (zu1 (zu1 h 3 (0 : Int)) 10 (0 : Int)) 12 (0 : Int)) 2) = ((t : Nat) : Int) from ht]
  refine z_ifeq (tgt := 33) K dX9_readRoom_19 (by decide) (by omega) (fun h19 => ?_) (fun h19 => ?_)
  · refine z_iconst K dX9_readRoom_33 ?_
    exact z_ireti K T rfl dX9_readRoom_34 ⟨(zFt_is (zFt_of (y := μ 40) (t := t) (i := 0) (a := 0) (P := zp0) rfl (by omega) (by decide) (zpre_0 _) (fun q => by rw [zstep_0, if_neg (by omega)]))).symm, _, u, v, rfl, (fun j a1 a2 a3 a4 => by repeat (first | rfl | rw [zu1_ne _ _ a1] | rw [zu1_ne _ _ a2] | rw [zu1_ne _ _ a3] | rw [zu1_ne _ _ a4])), fun e => absurd e (by decide)⟩
  · refine z_aload_n K dX9_readRoom_22 rfl ?_
    refine z_get (k := 39) (v := .ref (ad 40)) K dX9_readRoom_23 fl_X9_7 rfl rfl rfl ?_
    refine z_iconst K dX9_readRoom_26 ?_
    refine z_iald (k := 40) (v := μ 40 0) K dX9_readRoom_27 0 rfl (by decide) (by omega) (by omega) rfl ?_
    refine z_bipush K dX9_readRoom_28 (by decide +kernel) ?_
    refine z_icmpeq (tgt := 35) K dX9_readRoom_30 (by decide) (by omega) ⟨by decide, by decide⟩ (fun h30 => ?_) (fun h30 => ?_)
    · obtain ⟨hz1, hok1⟩ := zok_s (y := μ 40) (i := 0) (a := 0) (P := zp0) rfl (zpre_0 _) (show zstep 0 zp0 (μ 40 0) = (1, zp0) by rw [zstep_0, if_pos (by omega)]) (by decide)
      have hz1 : zpre (μ 40) 1 = (1, zp0) := hz1
      refine z_aload_n K dX9_readRoom_35 rfl ?_
      refine z_iconst K dX9_readRoom_36 ?_
      refine z_puti (k := 39) K dX9_readRoom_37 fp_X9_78 rfl rfl (z_mem (ν := zup (zup (zup μ 39 (zu1 (zu1 (zu1 (zu1 h 3 (0 : Int)) 10 (0 : Int)) 12 (0 : Int)) 3 (1 : Int))) 44 u) 45 v) (zup_sw3 _ (by decide) (by decide) _ _ _ _) ?_)
      refine z_aload_n K dX9_readRoom_40 rfl ?_
      refine z_aload_n K dX9_readRoom_41 rfl ?_
      refine z_bipush K dX9_readRoom_42 (by decide +kernel) ?_
      refine z_iconst K dX9_readRoom_44 ?_
      refine z_bipush K dX9_readRoom_45 (by decide +kernel) ?_
      refine z_callVd K hl1 hg1 (kb := 39) (As := [.int (zi (48 : Int)), .int (zi (0 : Int)), .int (zi (9 : Int))]) (rest := [.ref (ad 39)]) (cm_fromd la g0 ad μ (zu1 (zu1 (zu1 (zu1 h 3 (0 : Int)) 10 (0 : Int)) 12 (0 : Int)) 3 (1 : Int)) u v 1 t rfl ht (by omega) ht48 hx (48 : Int) (0 : Int) (9 : Int) (by omega) ⟨by omega, by omega⟩ ⟨by omega, by omega⟩) (by decide) lk_X9_84 cd_X9_from rfl rfl rfl rfl (Nat.le_of_ble_eq_true rfl) dX9_readRoom_47 ?_
      show zV χ 1 ad zSH 0 0 50 [(0, .ref (ad 39))] [.int (zi (if (1 < t ∧ (0 : Int) ≤ μ 40 1 - (48 : Int) ∧ μ 40 1 - (48 : Int) ≤ (9 : Int)) then μ 40 1 - (48 : Int) else -9)), .ref (ad 39)] (zup (zup (zup μ 39 (if (1 < t ∧ (0 : Int) ≤ μ 40 1 - (48 : Int) ∧ μ 40 1 - (48 : Int) ≤ (9 : Int)) then zu1 (zu1 (zu1 (zu1 (zu1 h 3 (0 : Int)) 10 (0 : Int)) 12 (0 : Int)) 3 (1 : Int)) 3 ((1 + 1 : Nat) : Int) else zu1 (zu1 (zu1 (zu1 h 3 (0 : Int)) 10 (0 : Int)) 12 (0 : Int)) 3 (1 : Int))) 44 u) 45 v)
      refine z_puti (k := 39) K dX9_readRoom_50 fp_X9_102 rfl rfl (z_mem (ν := zup (zup (zup μ 39 (zu1 (if (1 < t ∧ (0 : Int) ≤ μ 40 1 - (48 : Int) ∧ μ 40 1 - (48 : Int) ≤ (9 : Int)) then zu1 (zu1 (zu1 (zu1 (zu1 h 3 (0 : Int)) 10 (0 : Int)) 12 (0 : Int)) 3 (1 : Int)) 3 ((1 + 1 : Nat) : Int) else zu1 (zu1 (zu1 (zu1 h 3 (0 : Int)) 10 (0 : Int)) 12 (0 : Int)) 3 (1 : Int)) 9 (if (1 < t ∧ (0 : Int) ≤ μ 40 1 - (48 : Int) ∧ μ 40 1 - (48 : Int) ≤ (9 : Int)) then μ 40 1 - (48 : Int) else -9))) 44 u) 45 v) (zup_sw3 _ (by decide) (by decide) _ _ _ _) ?_)
      refine z_aload_n K dX9_readRoom_53 rfl ?_
      refine z_get (k := 39) (v := .int (zi ((zu1 (if (1 < t ∧ (0 : Int) ≤ μ 40 1 - (48 : Int) ∧ μ 40 1 - (48 : Int) ≤ (9 : Int)) then zu1 (zu1 (zu1 (zu1 (zu1 h 3 (0 : Int)) 10 (0 : Int)) 12 (0 : Int)) 3 (1 : Int)) 3 ((1 + 1 : Nat) : Int) else zu1 (zu1 (zu1 (zu1 h 3 (0 : Int)) 10 (0 : Int)) 12 (0 : Int)) 3 (1 : Int)) 9 (if (1 < t ∧ (0 : Int) ≤ μ 40 1 - (48 : Int) ∧ μ 40 1 - (48 : Int) ≤ (9 : Int)) then μ 40 1 - (48 : Int) else -9)) 9))) K dX9_readRoom_54 fl_X9_102 rfl rfl rfl ?_
      rw [show ((zu1 (if (1 < t ∧ (0 : Int) ≤ μ 40 1 - (48 : Int) ∧ μ 40 1 - (48 : Int) ≤ (9 : Int)) then zu1 (zu1 (zu1 (zu1 (zu1 h 3 (0 : Int)) 10 (0 : Int)) 12 (0 : Int)) 3 (1 : Int)) 3 ((1 + 1 : Nat) : Int) else zu1 (zu1 (zu1 (zu1 h 3 (0 : Int)) 10 (0 : Int)) 12 (0 : Int)) 3 (1 : Int)) 9 (if (1 < t ∧ (0 : Int) ≤ μ 40 1 - (48 : Int) ∧ μ 40 1 - (48 : Int) ≤ (9 : Int)) then μ 40 1 - (48 : Int) else -9)) 9) = if (1 < t ∧ (0 : Int) ≤ μ 40 1 - (48 : Int) ∧ μ 40 1 - (48 : Int) ≤ (9 : Int)) then μ 40 1 - (48 : Int) else -9 from (zu1_eq _ _ _)]
      refine z_bipush K dX9_readRoom_57 (by decide +kernel) ?_
      refine z_icmpne (tgt := 67) K dX9_readRoom_59 (by decide) (by omega) ⟨by decide, by decide⟩ (fun h59 => ?_) (fun h59 => ?_)
      · have L67 : ∀ i, i ≤ t → ∀ (g u2 v2 : Nat → Int), (∀ j, j ≠ 3 → j ≠ 9 → j ≠ 10 → j ≠ 12 → g j = h j) → (zpre (μ 40) i).1 = 2 → (∀ j, j ≤ i → ¬ (zpre (μ 40) j).1 = -1) → zMR g u2 v2 i (zpre (μ 40) i).2 → zV χ 1 ad zSH 0 0 67 [(0, .ref (ad 39))] [] (zup (zup (zup μ 39 g) 44 u2) 45 v2) := by
          refine zfor ?_
          intro i hi ih g u2 v2 hgf hst hok hR
          have hg2 : g 2 = (t : Int) := (hgf 2 (by decide) (by decide) (by decide) (by decide)).trans ht
          refine z_aload_n K dX9_readRoom_67 rfl ?_
          refine z_get (k := 39) (v := .int (zi (g 3))) K dX9_readRoom_68 fl_X9_78 rfl rfl rfl ?_
          rw [show (g 3) = ((i : Nat) : Int) from hR.1]
          refine z_aload_n K dX9_readRoom_71 rfl ?_
          refine z_get (k := 39) (v := .int (zi (g 2))) K dX9_readRoom_72 fl_X9_75 rfl rfl rfl ?_
          rw [show (g 2) = ((t : Nat) : Int) from hg2]
          refine z_icmpge (tgt := 90) K dX9_readRoom_75 (by decide) (by omega) (by omega) (fun h75 => ?_) (fun h75 => ?_)
          · have hit : i = t := by omega
            rw [hit] at hst hok hR
            refine z_bipush K dX9_readRoom_90 (by decide +kernel) ?_
            exact z_ireti K T rfl dX9_readRoom_92 ⟨(zfault_no hst hok).symm, g, u2, v2, rfl, hgf, fun _ => hR⟩
          · refine z_aload_n K dX9_readRoom_78 rfl ?_
            refine z_callVi K hl1 hg1 (kb := 39) (As := []) (rest := []) (cm_readThing la g0 ad μ g u2 v2 i t hg2 (by omega) ht48 hx (zpre (μ 40) i).2 hok hR (Prod.ext hst rfl)) (by decide) lk_X9_105 cd_X9_readThing rfl rfl rfl rfl (Nat.le_of_ble_eq_true rfl) dX9_readRoom_79 (fun r ν h79 => ?_)
            obtain ⟨g3, u3, v3, i3, hν, hf3, hp3, hd3⟩ := h79
            subst hν
            have hr01 : r = 0 ∨ r = 1 := by
              rcases hd3 with k | k
              · exact Or.inr k.1
              · exact Or.inl k.1
            refine z_ifne (tgt := 67) K dX9_readRoom_82 (by decide) (by omega) (fun h82 => ?_) (fun h82 => ?_)
            · rcases hd3 with ⟨_, k1, k2, k3, k4, k5⟩ | ⟨k1, _⟩
              · exact ih i3 k1 k2 g3 u3 v3 (fun j a1 a2 a3 a4 => (hf3 j a1 a3 a4).trans (hgf j a1 a2 a3 a4)) k3 k4 k5
              · exact absurd k1 h82
            · have hF : zFt (μ 40) t i3 := by
                rcases hd3 with k | k
                · exact absurd h82 (by omega)
                · exact k.2
              refine z_aload_n K dX9_readRoom_85 rfl ?_
              refine z_get (k := 39) (v := .int (zi (g3 3))) K dX9_readRoom_86 fl_X9_78 rfl rfl rfl ?_
              rw [show (g3 3) = ((i3 : Nat) : Int) from hp3]
              exact z_ireti K T rfl dX9_readRoom_89 ⟨(zFt_is hF).symm, g3, u3, v3, rfl, (fun j a1 a2 a3 a4 => (hf3 j a1 a3 a4).trans (hgf j a1 a2 a3 a4)), fun e => absurd e (by omega)⟩
        have hC : (1 < t ∧ (0 : Int) ≤ μ 40 1 - (48 : Int) ∧ μ 40 1 - (48 : Int) ≤ (9 : Int)) := by omega
        rw [if_pos hC, if_pos hC]
        obtain ⟨hz2, hok2⟩ := zok_s hz1 hok1 (show zstep 1 zp0 (μ 40 1) = (2, (0, 0, μ 40 1 - 48, zz0, zz0, zz0, zz0, zz0)) by rw [zstep_1, if_pos ⟨by omega, by omega⟩]; rfl) (by decide)
        exact L67 2 (by omega) _ u v (fun j a1 a2 a3 a4 => by repeat (first | rfl | rw [zu1_ne _ _ a1] | rw [zu1_ne _ _ a2] | rw [zu1_ne _ _ a3] | rw [zu1_ne _ _ a4])) (by rw [hz2]) hok2 (by rw [hz2]; exact ⟨rfl, rfl, rfl, rfl, fun l hl => absurd hl (Nat.not_lt_zero _), fun l hl => absurd hl (Nat.not_lt_zero _)⟩)
      · have hC : ¬ (1 < t ∧ (0 : Int) ≤ μ 40 1 - (48 : Int) ∧ μ 40 1 - (48 : Int) ≤ (9 : Int)) := by omega
        rw [if_neg hC, if_neg hC]
        refine z_aload_n K dX9_readRoom_62 rfl ?_
        refine z_get (k := 39) (v := .int (zi ((zu1 (zu1 (zu1 (zu1 (zu1 h 3 (0 : Int)) 10 (0 : Int)) 12 (0 : Int)) 3 (1 : Int)) 9 (-9 : Int)) 3))) K dX9_readRoom_63 fl_X9_78 rfl rfl rfl ?_
        rw [show ((zu1 (zu1 (zu1 (zu1 (zu1 h 3 (0 : Int)) 10 (0 : Int)) 12 (0 : Int)) 3 (1 : Int)) 9 (-9 : Int)) 3) = ((1 : Nat) : Int) from rfl]
        exact z_ireti K T rfl dX9_readRoom_66 ⟨(zFt_is (zFt_of hz1 (by omega) (by decide) hok1 (fun q => by rw [zstep_1, if_neg (by omega)]))).symm, _, u, v, rfl, (fun j a1 a2 a3 a4 => by repeat (first | rfl | rw [zu1_ne _ _ a1] | rw [zu1_ne _ _ a2] | rw [zu1_ne _ _ a3] | rw [zu1_ne _ _ a4])), fun e => absurd e (by decide)⟩
    · refine z_iconst K dX9_readRoom_33 ?_
      exact z_ireti K T rfl dX9_readRoom_34 ⟨(zFt_is (zFt_of (y := μ 40) (t := t) (i := 0) (a := 0) (P := zp0) rfl (by omega) (by decide) (zpre_0 _) (fun q => by rw [zstep_0, if_neg (by omega)]))).symm, _, u, v, rfl, (fun j a1 a2 a3 a4 => by repeat (first | rfl | rw [zu1_ne _ _ a1] | rw [zu1_ne _ _ a2] | rw [zu1_ne _ _ a3] | rw [zu1_ne _ _ a4])), fun e => absurd e (by decide)⟩
set_option maxHeartbeats 4000000 in
set_option maxRecDepth 100000 in
theorem cq_fault (la : Launch) (g0 : zG) (ad : Nat → Nat) (μ : zMem) (t : Nat) (ht : μ 39 2 = (t : Int)) (ht48 : t ≤ 48) (hx : ∀ j, j < 48 → 0 ≤ μ 40 j ∧ μ 40 j ≤ 255) : zCon la g0 yX9_fault cX9_fault 1 (some .int) 5 ad zSH [.ref (ad 39)] μ (zPi (zQm μ (zfault (μ 40) t))) := by
  refine zCon_of (by decide +kernel) (Nat.le_of_ble_eq_true rfl) ?_
  intro χ K T hl1 hg1
  have K : zOk χ cX9_fault RX9 1 5 (some .int) := K
  refine z_mem (ν := zup (zup (zup μ 39 (μ 39)) 44 (μ 44)) 45 (μ 45)) (zup_id3 μ 39 44 45 (by decide) (by decide) (by decide)) ?_
  show zV χ 1 ad zSH 0 0 0 [(0, .ref (ad 39))] [] (zup (zup (zup μ 39 (μ 39)) 44 (μ 44)) 45 (μ 45))
  refine z_aload_n K dX9_fault_0 rfl ?_
  refine z_iconst K dX9_fault_1 ?_
  refine z_puti (k := 39) K dX9_fault_2 fp_X9_59 rfl rfl (z_mem (ν := zup (zup (zup μ 39 (zu1 (μ 39) 0 (0 : Int))) 44 (μ 44)) 45 (μ 45)) (zup_sw3 _ (by decide) (by decide) _ _ _ _) ?_)
  refine z_aload_n K dX9_fault_5 rfl ?_
  refine z_callVi K hl1 hg1 (kb := 39) (As := []) (rest := []) (cm_readRoom la g0 ad μ (zu1 (μ 39) 0 (0 : Int)) (μ 44) (μ 45) t ht ht48 hx) (by decide) lk_X9_108 cd_X9_readRoom rfl rfl rfl rfl (Nat.le_of_ble_eq_true rfl) dX9_fault_6 (fun r ν h6 => ?_)
  obtain ⟨hr, g, u2, v2, hν, hgf, hR⟩ := h6
  subst hν
  exact z_ireti K T rfl dX9_fault_9 ⟨hr, zFr_c (zFr_c (zFr_h (zFr_0 μ) (fun j hj => by
      have hj : j = 2 ∨ j = 4 ∨ j = 7 ∨ j = 17 ∨ j = 20 ∨ j = 23 := hj
      rw [hgf j (by omega) (by omega) (by omega) (by omega), zu1_ne _ _ (by omega)])) (by decide) _) (by decide) _⟩
