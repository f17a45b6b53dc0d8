/-- noted: the book behind (acts k before) -/
def zNt (μ : zMem) (h b : Nat → Int) (k : Nat) (ν : zMem) : Prop := ∃ g u, ν = zup (zup μ 39 g) 48 u ∧ g 17 = (if k < 14 then (k : Int) + 1 else 14) ∧ (∀ j, j ≠ 17 → g j = h j) ∧ (k < 14 → (∀ j, j < 23 * k → u j = b j) ∧ ∀ j, j < 23 → u (23 * k + j) = μ 46 j) ∧ (k = 14 → (∀ j, j < 299 → u j = b (j + 23)) ∧ ∀ j, j < 23 → u (299 + j) = μ 46 j)
set_option maxHeartbeats 4000000 in
set_option maxRecDepth 100000 in
theorem cm_note_lt (la : Launch) (g0 : zG) (ad : Nat → Nat) (μ : zMem) (h b : Nat → Int) (k : Nat) (hk : h 17 = (k : Int)) (hk14 : k < 14) : zCon la g0 yX9_note cX9_note 2 none 0 ad zSH [.ref (ad 39)] (zup (zup μ 39 h) 48 b) (zPv (zNt μ h b k)) := by
  refine zCon_of (by decide +kernel) (Nat.le_of_ble_eq_true rfl) ?_
  intro χ K T hl1 hg1
  have K : zOk χ cX9_note RX9 2 0 none := K
  show zV χ 2 ad zSH 0 0 0 [(0, .ref (ad 39))] [] (zup (zup μ 39 h) 48 b)
  refine z_aload_n K dX9_note_0 rfl ?_
  refine z_get (k := 39) (v := .int (zi (h 17))) K dX9_note_1 fl_X9_112 rfl rfl rfl ?_
  rw [show (h 17) = ((k : Nat) : Int) from hk]
  refine z_bipush K dX9_note_4 (by decide +kernel) ?_
  refine z_icmpne (tgt := 49) K dX9_note_6 (by decide) (by omega) ⟨by decide, by decide⟩ (fun h6 => ?_) (fun h6 => absurd h6 (by omega))
  refine z_iconst K dX9_note_49 ?_
  refine z_istore_n (lv' := [(0, .ref (ad 39)), (1, .int (zi (0 : Int)))]) K dX9_note_50 (by decide) rfl ?_
  have L51 : ∀ i, i ≤ 23 → ∀ (u : Nat → Int), (∀ j, j < i → u (23 * k + j) = μ 46 j) → (∀ j, j < 23 * k → u j = b j) → zV χ 2 ad zSH 0 0 51 [(0, .ref (ad 39)), (1, .int (zi ((i : Nat) : Int)))] [] (zup (zup μ 39 h) 48 u) := by
    refine zfor ?_
    intro i hi ih u hu1 hu2
    refine z_iload_n K dX9_note_51 rfl ?_
    refine z_bipush K dX9_note_52 (by decide +kernel) ?_
    refine z_icmpge (tgt := 83) K dX9_note_54 (by decide) (by omega) ⟨by decide, by decide⟩ (fun h54 => ?_) (fun h54 => ?_)
    · refine z_aload_n K dX9_note_83 rfl ?_
      refine z_dup K dX9_note_84 rfl ?_
      refine z_get (k := 39) (v := .int (zi (h 17))) K dX9_note_85 fl_X9_112 rfl rfl rfl ?_
      rw [show (h 17) = ((k : Nat) : Int) from hk]
      refine z_iconst K dX9_note_88 ?_
      refine z_iadd K dX9_note_89 ?_
      refine z_puti (k := 39) K dX9_note_90 fp_X9_112 rfl rfl (z_mem (ν := zup (zup μ 39 (zu1 h 17 (((k : Nat) : Int) + (1 : Int)))) 48 u) (zup_sw _ (by decide) _ _ _) ?_)
      exact z_vreti K T rfl dX9_note_93 ⟨_, u, rfl, by rw [zu1_eq, if_pos hk14], fun j hj => zu1_ne _ _ hj, fun _ => ⟨hu2, fun j hj => hu1 j (by omega)⟩, fun e => absurd hk14 (by omega)⟩
    · refine z_aload_n K dX9_note_57 rfl ?_
      refine z_get (k := 39) (v := .ref (ad 48)) K dX9_note_58 fl_X9_34 rfl rfl rfl ?_
      refine z_bipush K dX9_note_61 (by decide +kernel) ?_
      refine z_aload_n K dX9_note_63 rfl ?_
      refine z_get (k := 39) (v := .int (zi (h 17))) K dX9_note_64 fl_X9_112 rfl rfl rfl ?_
      rw [show (h 17) = ((k : Nat) : Int) from hk]
      refine z_imul K dX9_note_67 ?_
      refine z_iload_n K dX9_note_68 rfl ?_
      refine z_iadd K dX9_note_69 ?_
      refine z_aload_n K dX9_note_70 rfl ?_
      refine z_get (k := 39) (v := .ref (ad 46)) K dX9_note_71 fl_X9_28 rfl rfl rfl ?_
      refine z_iload_n K dX9_note_74 rfl ?_
      refine z_iald (k := 46) (v := μ 46 i) K dX9_note_75 i rfl (by decide) (by omega) (by omega) rfl ?_
      refine z_iast (k := 48) K dX9_note_76 (23 * k + i) rfl (by decide) (by omega) (by omega) (z_mem (ν := zup (zup μ 39 h) 48 (zu1 u (23 * k + i) (μ 46 i))) (zup_same _ _ _ _) ?_)
      refine z_iincN (lv' := [(0, .ref (ad 39)), (1, .int (zi ((i + 1 : Nat) : Int)))]) K dX9_note_77 rfl (by decide) rfl ?_
      refine z_goto (tgt := 51) K dX9_note_80 (by decide) ?_
      exact ih (i + 1) (by omega) (by omega) _ (fun j hj => by
        by_cases e : j = i
        · rw [e]; exact zu1_eq _ _ _
        · rw [zu1_ne _ _ (by omega)]; exact hu1 j (by omega)) (fun j hj => by
        rw [zu1_ne _ _ (by omega)]; exact hu2 j hj)
  exact L51 0 (by omega) b (fun j hj => absurd hj (by omega)) (fun _ _ => rfl)
set_option maxHeartbeats 4000000 in
set_option maxRecDepth 100000 in
theorem cm_note_14 (la : Launch) (g0 : zG) (ad : Nat → Nat) (μ : zMem) (h b : Nat → Int) (k : Nat) (hk : h 17 = (k : Int)) (hk14 : k = 14) : zCon la g0 yX9_note cX9_note 2 none 0 ad zSH [.ref (ad 39)] (zup (zup μ 39 h) 48 b) (zPv (zNt μ h b k)) := by
  refine zCon_of (by decide +kernel) (Nat.le_of_ble_eq_true rfl) ?_
  intro χ K T hl1 hg1
  have K : zOk χ cX9_note RX9 2 0 none := K
  show zV χ 2 ad zSH 0 0 0 [(0, .ref (ad 39))] [] (zup (zup μ 39 h) 48 b)
  refine z_aload_n K dX9_note_0 rfl ?_
  refine z_get (k := 39) (v := .int (zi (h 17))) K dX9_note_1 fl_X9_112 rfl rfl rfl ?_
  rw [show (h 17) = ((k : Nat) : Int) from hk]
  refine z_bipush K dX9_note_4 (by decide +kernel) ?_
  refine z_icmpne (tgt := 49) K dX9_note_6 (by decide) (by omega) ⟨by decide, by decide⟩ (fun h6 => absurd h6 (by omega)) (fun h6 => ?_)
  refine z_iconst K dX9_note_9 ?_
  refine z_istore_n (lv' := [(0, .ref (ad 39)), (1, .int (zi (0 : Int)))]) K dX9_note_10 (by decide) rfl ?_
  have L11 : ∀ i, i ≤ 299 → ∀ (u : Nat → Int), (∀ j, j < i → u j = b (j + 23)) → (∀ j, i ≤ j → u j = b j) → zV χ 2 ad zSH 0 0 11 [(0, .ref (ad 39)), (1, .int (zi ((i : Nat) : Int)))] [] (zup (zup μ 39 h) 48 u) := by
    refine zfor ?_
    intro i hi ih u hs ht
    refine z_iload_n K dX9_note_11 rfl ?_
    refine z_sipush K dX9_note_12 (by decide +kernel) ?_
    refine z_icmpge (tgt := 39) K dX9_note_15 (by decide) (by omega) ⟨by decide, by decide⟩ (fun h15 => ?_) (fun h15 => ?_)
    · refine z_aload_n K dX9_note_39 rfl ?_
      refine z_dup K dX9_note_40 rfl ?_
      refine z_get (k := 39) (v := .int (zi (h 17))) K dX9_note_41 fl_X9_112 rfl rfl rfl ?_
      rw [show (h 17) = ((k : Nat) : Int) from hk]
      refine z_iconst K dX9_note_44 ?_
      refine z_isub K dX9_note_45 ?_
      rw [show (((k : Nat) : Int) - (1 : Int)) = (13 : Int) from (by omega)]
      refine z_puti (k := 39) K dX9_note_46 fp_X9_112 rfl rfl (z_mem (ν := zup (zup μ 39 (zu1 h 17 (13 : Int))) 48 u) (zup_sw _ (by decide) _ _ _) ?_)
      refine z_iconst K dX9_note_49 ?_
      refine z_istore_n (lv' := [(0, .ref (ad 39)), (1, .int (zi (0 : Int)))]) K dX9_note_50 (by decide) rfl ?_
      have L51 : ∀ i, i ≤ 23 → ∀ (u : Nat → Int), (∀ j, j < i → u (299 + j) = μ 46 j) → (∀ j, j < 299 → u j = (fun j => b (j + 23)) j) → zV χ 2 ad zSH 0 0 51 [(0, .ref (ad 39)), (1, .int (zi ((i : Nat) : Int)))] [] (zup (zup μ 39 (zu1 h 17 (13 : Int))) 48 u) := by
        refine zfor ?_
        intro i hi ih u hu1 hu2
        refine z_iload_n K dX9_note_51 rfl ?_
        refine z_bipush K dX9_note_52 (by decide +kernel) ?_
        refine z_icmpge (tgt := 83) K dX9_note_54 (by decide) (by omega) ⟨by decide, by decide⟩ (fun h54 => ?_) (fun h54 => ?_)
        · refine z_aload_n K dX9_note_83 rfl ?_
          refine z_dup K dX9_note_84 rfl ?_
          refine z_get (k := 39) (v := .int (zi ((zu1 h 17 (13 : Int)) 17))) K dX9_note_85 fl_X9_112 rfl rfl rfl ?_
          rw [show ((zu1 h 17 (13 : Int)) 17) = (13 : Int) from rfl]
          refine z_iconst K dX9_note_88 ?_
          refine z_iadd K dX9_note_89 ?_
          refine z_puti (k := 39) K dX9_note_90 fp_X9_112 rfl rfl (z_mem (ν := zup (zup μ 39 (zu1 (zu1 h 17 (13 : Int)) 17 ((13 : Int) + (1 : Int)))) 48 u) (zup_sw _ (by decide) _ _ _) ?_)
          exact z_vreti K T rfl dX9_note_93 ⟨_, u, rfl, by rw [zu1_eq, if_neg (by omega)]; rfl, fun j hj => by rw [zu1_ne _ _ hj, zu1_ne _ _ hj], fun e => absurd e (by omega), fun _ => ⟨hu2, fun j hj => hu1 j (by omega)⟩⟩
        · refine z_aload_n K dX9_note_57 rfl ?_
          refine z_get (k := 39) (v := .ref (ad 48)) K dX9_note_58 fl_X9_34 rfl rfl rfl ?_
          refine z_bipush K dX9_note_61 (by decide +kernel) ?_
          refine z_aload_n K dX9_note_63 rfl ?_
          refine z_get (k := 39) (v := .int (zi ((zu1 h 17 (13 : Int)) 17))) K dX9_note_64 fl_X9_112 rfl rfl rfl ?_
          rw [show ((zu1 h 17 (13 : Int)) 17) = (13 : Int) from rfl]
          refine z_imul K dX9_note_67 ?_
          refine z_iload_n K dX9_note_68 rfl ?_
          refine z_iadd K dX9_note_69 ?_
          refine z_aload_n K dX9_note_70 rfl ?_
          refine z_get (k := 39) (v := .ref (ad 46)) K dX9_note_71 fl_X9_28 rfl rfl rfl ?_
          refine z_iload_n K dX9_note_74 rfl ?_
          refine z_iald (k := 46) (v := μ 46 i) K dX9_note_75 i rfl (by decide) (by omega) (by omega) rfl ?_
          refine z_iast (k := 48) K dX9_note_76 (299 + i) rfl (by decide) (by omega) (by omega) (z_mem (ν := zup (zup μ 39 (zu1 h 17 (13 : Int))) 48 (zu1 u (299 + i) (μ 46 i))) (zup_same _ _ _ _) ?_)
          refine z_iincN (lv' := [(0, .ref (ad 39)), (1, .int (zi ((i + 1 : Nat) : Int)))]) K dX9_note_77 rfl (by decide) rfl ?_
          refine z_goto (tgt := 51) K dX9_note_80 (by decide) ?_
          exact ih (i + 1) (by omega) (by omega) _ (fun j hj => by
            by_cases e : j = i
            · rw [e]; exact zu1_eq _ _ _
            · rw [zu1_ne _ _ (by omega)]; exact hu1 j (by omega)) (fun j hj => by
            rw [zu1_ne _ _ (by omega)]; exact hu2 j hj)
      exact L51 0 (by omega) u (fun j hj => absurd hj (by omega)) (fun j hj => hs j (by omega))
    · refine z_aload_n K dX9_note_18 rfl ?_
      refine z_get (k := 39) (v := .ref (ad 48)) K dX9_note_19 fl_X9_34 rfl rfl rfl ?_
      refine z_iload_n K dX9_note_22 rfl ?_
      refine z_aload_n K dX9_note_23 rfl ?_
      refine z_get (k := 39) (v := .ref (ad 48)) K dX9_note_24 fl_X9_34 rfl rfl rfl ?_
      refine z_iload_n K dX9_note_27 rfl ?_
      refine z_bipush K dX9_note_28 (by decide +kernel) ?_
      refine z_iadd K dX9_note_30 ?_
      refine z_iald (k := 48) (v := b (i + 23)) K dX9_note_31 (i + 23) rfl (by decide) (by omega) (by omega) (ht _ (by omega)) ?_
      refine z_iast (k := 48) K dX9_note_32 i rfl (by decide) (by omega) (by omega) (z_mem (ν := zup (zup μ 39 h) 48 (zu1 u i (b (i + 23)))) (zup_same _ _ _ _) ?_)
      refine z_iincN (lv' := [(0, .ref (ad 39)), (1, .int (zi ((i + 1 : Nat) : Int)))]) K dX9_note_33 rfl (by decide) rfl ?_
      refine z_goto (tgt := 11) K dX9_note_36 (by decide) ?_
      exact ih (i + 1) (by omega) (by omega) _ (fun j hj => by
        by_cases e : j = i
        · rw [e]; exact zu1_eq _ _ _
        · rw [zu1_ne _ _ e]; exact hs j (by omega)) (fun j hj => by
        rw [zu1_ne _ _ (by omega)]; exact ht j (by omega))
  exact L11 0 (by omega) b (fun j hj => absurd hj (by omega)) (fun _ _ => rfl)
theorem cm_note (la : Launch) (g0 : zG) (ad : Nat → Nat) (μ : zMem) (h b : Nat → Int) (k : Nat) (hk : h 17 = (k : Int)) (hk14 : k ≤ 14) : zCon la g0 yX9_note cX9_note 2 none 0 ad zSH [.ref (ad 39)] (zup (zup μ 39 h) 48 b) (zPv (zNt μ h b k)) := by
  by_cases e : k < 14
  · exact cm_note_lt la g0 ad μ h b k hk e
  · exact cm_note_14 la g0 ad μ h b k hk (by omega)
