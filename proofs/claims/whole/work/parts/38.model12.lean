theorem zdo_fst (n : Nat) (kd al : Nat → Int) (nc : Nat) (an : Nat → Int) (D : Nat) (s t : zS) (h : s.1 = t.1) : (zdo n kd al nc an D s).2 = (zdo n kd al nc an D t).2 ∧ (zdo n kd al nc an D s).1.1 = (zdo n kd al nc an D t).1.1 := by
  unfold zdo
  by_cases h0 : D = 0
  · rw [if_pos h0, if_pos h0]; exact ⟨rfl, zday_fst' n kd al nc an s t h⟩
  · rw [if_neg h0, if_neg h0]
    by_cases h1 : D / 1000 = 1
    · rw [if_pos h1, if_pos h1, h]; exact ⟨rfl, rfl⟩
    · rw [if_neg h1, if_neg h1]
      by_cases h2 : D / 1000 = 2
      · rw [if_pos h2, if_pos h2]
        split
        · rw [h]; exact ⟨rfl, rfl⟩
        · exact ⟨rfl, h⟩
      · rw [if_neg h2, if_neg h2]
        by_cases h3 : D / 1000 = 3
        · rw [if_pos h3, if_pos h3]
          split
          · rw [h]; exact ⟨rfl, rfl⟩
          · exact ⟨rfl, h⟩
        · rw [if_neg h3, if_neg h3, h]
          split
          · exact ⟨rfl, h⟩
          · exact ⟨rfl, h⟩
theorem zju_fst (n : Nat) (kd al : Nat → Int) (nc : Nat) (an f : Nat → Int) : ∀ (r i : Nat) (s t : zS), s.1 = t.1 → zju n kd al nc an f r i s = zju n kd al nc an f r i t := by
  intro r
  induction r with
  | zero => intro i s t _; rfl
  | succ r ih =>
    intro i s t h
    obtain ⟨h1, h2⟩ := zdo_fst n kd al nc an (f i).toNat s t h
    rw [zju_s, zju_s, h1, ih (i + 1) _ _ h2]
theorem zpw_le : ∀ m, m ≤ 4 → 1 ≤ zpw 10000 m ∧ zpw 10000 m ≤ 10000000000000000 := by decide
theorem zfd_dg (y m : Nat) (h1 : 1 ≤ m) (h4 : m ≤ 4) : ((zfd m (zz0, y)).2 = 0 ↔ (y : Int) ≤ zpw 10000 m - 1) ∧ ∀ i, i < m → (zfd m (zz0, y)).1 i = (y : Int) / zpw 10000 (m - 1 - i) % 10000 := by
  rcases (show m = 1 ∨ m = 2 ∨ m = 3 ∨ m = 4 by omega) with e | e | e | e <;> subst e
  · refine ⟨by simp only [zfd, zpw]; omega, fun i hi => ?_⟩
    have : i = 0 := by omega
    subst this
    simp [zfd, zpw, zu1]
  · refine ⟨by simp only [zfd, zpw]; omega, fun i hi => ?_⟩
    rcases (show i = 0 ∨ i = 1 by omega) with e | e <;> subst e <;> simp [zfd, zpw, zu1]
  · refine ⟨by simp only [zfd, zpw]; omega, fun i hi => ?_⟩
    rcases (show i = 0 ∨ i = 1 ∨ i = 2 by omega) with e | e | e <;> subst e <;> simp [zfd, zpw, zu1] <;> omega
  · refine ⟨by simp only [zfd, zpw]; omega, fun i hi => ?_⟩
    rcases (show i = 0 ∨ i = 1 ∨ i = 2 ∨ i = 3 by omega) with e | e | e | e <;> subst e <;> simp [zfd, zpw, zu1] <;> omega
set_option maxHeartbeats 4000000 in
set_option maxRecDepth 100000 in
theorem cm_longPower (la : Launch) (g0 : zG) (ad : Nat → Nat) (μ : zMem) (x : Int) (m : Nat) (hm : m ≤ 100) : zCon la g0 yX9_longPower cX9_longPower 6 (some .long) 0 ad zSH [.long (zl x), .int (zi ((m : Nat) : Int))] μ (zPl (fun r ν => r = zpw x m ∧ ν = μ)) := by
  refine zCon_of (by decide +kernel) (Nat.le_of_ble_eq_true rfl) ?_
  intro χ K T hl1 hg1
  have K : zOk χ cX9_longPower RX9 6 0 (some .long) := K
  show zV χ 6 ad zSH 0 0 0 [(0, .long (zl x)), (2, .int (zi ((m : Nat) : Int)))] [] μ
  refine z_lconst (z := 1) K dX9_longPower_0 rfl ?_
  refine z_lstore_n (lv' := [(0, .long (zl x)), (2, .int (zi ((m : Nat) : Int))), (3, .long (zl (1 : Int)))]) K dX9_longPower_1 (by decide) rfl ?_
  refine z_iconst K dX9_longPower_2 ?_
  refine z_istore (lv' := [(0, .long (zl x)), (2, .int (zi ((m : Nat) : Int))), (3, .long (zl (1 : Int))), (5, .int (zi (0 : Int)))]) K dX9_longPower_3 (by decide) rfl ?_
  have L5 : ∀ k, k ≤ m → zV χ 6 ad zSH 0 0 5 [(0, .long (zl x)), (2, .int (zi ((m : Nat) : Int))), (3, .long (zl (zpw x k))), (5, .int (zi ((k : Nat) : Int)))] [] μ := by
    refine zfor ?_
    intro k hk ih
    refine z_iload K dX9_longPower_5 rfl ?_
    refine z_iload_n K dX9_longPower_7 rfl ?_
    refine z_icmpge (tgt := 21) K dX9_longPower_8 (by decide) (by omega) (by omega) (fun h8 => ?_) (fun h8 => ?_)
    · refine z_lload_n K dX9_longPower_21 rfl ?_
      exact z_lreti K T rfl dX9_longPower_22 ⟨by rw [show k = m by omega], rfl⟩
    · refine z_lload_n K dX9_longPower_11 rfl ?_
      refine z_lload_n K dX9_longPower_12 rfl ?_
      refine z_lmul K dX9_longPower_13 ?_
      refine z_lstore_n (lv' := [(0, .long (zl x)), (2, .int (zi ((m : Nat) : Int))), (3, .long (zl ((zpw x k) * x))), (5, .int (zi ((k : Nat) : Int)))]) K dX9_longPower_14 (by decide) rfl ?_
      refine z_iincN (lv' := [(0, .long (zl x)), (2, .int (zi ((m : Nat) : Int))), (3, .long (zl ((zpw x k) * x))), (5, .int (zi ((k + 1 : Nat) : Int)))]) K dX9_longPower_15 rfl (by decide) rfl ?_
      refine z_goto (tgt := 5) K dX9_longPower_18 (by decide) ?_
      exact ih (k + 1) (by omega) (by omega)
  exact L5 0 (by omega)

