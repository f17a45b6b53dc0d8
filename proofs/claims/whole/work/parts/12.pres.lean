-- what can be stays so
theorem zHW_fate {n nc : Nat} {c : Nat → Int} (hn : n ≤ 6) (h : zHW n nc c) {l : Nat} (hl : l < n) {v : Int} (hv : 0 ≤ v ∧ v ≤ 3) : zHW n nc (zu1 c (12 + l) v) := by
  obtain ⟨h1, h2, h3, h4⟩ := h
  refine ⟨fun l' hl' => ?_, fun k hk => ?_, ?_, ?_⟩
  · have := h1 l' hl'; simp only [zu1]; omega
  · have := h2 k hk; simp only [zu1]; omega
  · simp only [zu1]; omega
  · simp only [zu1]; omega
theorem zHW_hole {n nc : Nat} {c : Nat → Int} (hn : n ≤ 6) (h : zHW n nc c) {l : Nat} (hl : l < n) {v : Int} (hv : 0 ≤ v ∧ v < 12) : zHW n nc (zu1 c l v) := by
  obtain ⟨h1, h2, h3, h4⟩ := h
  refine ⟨fun l' hl' => ?_, fun k hk => ?_, ?_, ?_⟩
  · have := h1 l' hl'; simp only [zu1]; omega
  · have := h2 k hk; simp only [zu1]; omega
  · simp only [zu1]; omega
  · simp only [zu1]; omega
theorem zHW_wait {n nc : Nat} {c : Nat → Int} (hn : n ≤ 6) (h : zHW n nc c) {l : Nat} (hl : l < n) {v : Int} (hv : 0 ≤ v ∧ v ≤ 15) : zHW n nc (zu1 c (6 + l) v) := by
  obtain ⟨h1, h2, h3, h4⟩ := h
  refine ⟨fun l' hl' => ?_, fun k hk => ?_, ?_, ?_⟩
  · have := h1 l' hl'; simp only [zu1]; omega
  · have := h2 k hk; simp only [zu1]; omega
  · simp only [zu1]; omega
  · simp only [zu1]; omega
theorem zHW_row {n nc : Nat} {c : Nat → Int} (hn : n ≤ 6) (hc : nc ≤ 3) (h : zHW n nc c) {l : Nat} (hl : l < nc) {v : Int} (hv : 0 ≤ v ∧ v ≤ 3) : zHW n nc (zu1 c (18 + l) v) := by
  obtain ⟨h1, h2, h3, h4⟩ := h
  refine ⟨fun l' hl' => ?_, fun k hk => ?_, ?_, ?_⟩
  · have := h1 l' hl'; simp only [zu1]; omega
  · have := h2 k hk; simp only [zu1]; omega
  · simp only [zu1]; omega
  · simp only [zu1]; omega
theorem zHW_grain {n nc : Nat} {c : Nat → Int} (hn : n ≤ 6) (hc : nc ≤ 3) (h : zHW n nc c) {v : Int} (hv : 0 ≤ v ∧ v ≤ 99) : zHW n nc (zu1 c 21 v) := by
  obtain ⟨h1, h2, h3, h4⟩ := h
  refine ⟨fun l' hl' => ?_, fun k hk => ?_, ?_, ?_⟩
  · have := h1 l' hl'; simp only [zu1]; omega
  · have := h2 k hk; simp only [zu1]; omega
  · simp only [zu1]; omega
  · simp only [zu1]; omega
theorem zHW_day {n nc : Nat} {c : Nat → Int} (hn : n ≤ 6) (hc : nc ≤ 3) (h : zHW n nc c) {v : Int} : zHW n nc (zu1 c 22 v) := by
  obtain ⟨h1, h2, h3, h4⟩ := h
  refine ⟨fun l' hl' => ?_, fun k hk => ?_, ?_, ?_⟩
  · have := h1 l' hl'; simp only [zu1]; omega
  · have := h2 k hk; simp only [zu1]; omega
  · simp only [zu1]; omega
  · simp only [zu1]; omega
-- what a plan's functions must be
def zPK (n nc : Nat) (kd al an : Nat → Int) : Prop := n ≤ 6 ∧ nc ≤ 3 ∧ (∀ l, l < n → 0 ≤ kd l ∧ kd l ≤ 3 ∧ 1 ≤ al l ∧ al l ≤ 9) ∧ ∀ k, k < nc → 1 ≤ an k ∧ an k ≤ 3
theorem zPlan.pk {μ : zMem} {n nc : Nat} (h : zPlan μ n nc) : zPK n nc (μ 13) (μ 14) (μ 16) := ⟨h.2.1, h.2.2.2.1, h.2.2.2.2.1, h.2.2.2.2.2⟩
theorem zdl_rg {n nc : Nat} {kd al an c : Nat → Int} (hp : zPK n nc kd al an) (h : zHW n nc c) {l : Nat} (hl : l < n) : 0 ≤ zdl n kd al c l ∧ zdl n kd al c l ≤ 15 := by
  have h1 := hp.2.2.1 l hl
  have h2 := h.1 l hl
  have h3 := zcnt_le c l n
  have h4 := hp.1
  unfold zdl
  split <;> omega
theorem zmp_rg {n nc : Nat} {kd al an c : Nat → Int} (hp : zPK n nc kd al an) (h : zHW n nc c) (row : Int) : ∀ i, i ≤ n → ((zmp n kd al c row i).1 = -9 ∨ (0 ≤ (zmp n kd al c row i).1 ∧ (zmp n kd al c row i).1 < i ∧ c (12 + (zmp n kd al c row i).1.toNat) = 0)) ∧ 0 ≤ (zmp n kd al c row i).2 ∧ (zmp n kd al c row i).2 ≤ 15 := by
  intro i
  induction i with
  | zero => intro _; simp [zmp]
  | succ i ih =>
    intro hi
    have h1 := ih (by omega)
    have h2 := zdl_rg hp h (l := i) (by omega)
    rw [zmp_s]
    split
    · rename_i hc
      refine ⟨Or.inr ⟨?_, ?_, ?_⟩, ?_, ?_⟩
      · show (0 : Int) ≤ (i : Int); omega
      · show (i : Int) < ((i + 1 : Nat) : Int); omega
      · show c (12 + ((i : Int)).toNat) = 0
        rw [Int.toNat_natCast]; exact hc.1
      · exact h2.1
      · exact h2.2
    · obtain ⟨h1, h3⟩ := h1
      refine ⟨?_, h3⟩
      rcases h1 with h1 | h1
      · exact Or.inl h1
      · exact Or.inr ⟨h1.1, by have := h1.2.1; omega, h1.2.2⟩
theorem zca_ok {n nc : Nat} {kd al an : Nat → Int} (hp : zPK n nc kd al an) (k : Nat) : ∀ (r : Nat) (s : zS), zHW n nc s.1 → zHW n nc (zca n kd al k r s).1 := by
  intro r
  induction r with
  | zero => intro s h; exact h
  | succ r ih =>
    intro s h
    rw [zca_s]
    split
    · exact h
    · rename_i hne
      have h1 := zmp_rg hp h (s.1 (18 + k)) n (Nat.le_refl _)
      exact ih _ (zHW_fate hp.1 h (by omega) ⟨by decide, by decide⟩)
theorem zcl_ok {n nc : Nat} {kd al an : Nat → Int} (hp : zPK n nc kd al an) : ∀ (k : Nat) (s : zS), zHW n nc s.1 → zHW n nc (zcl n kd al an k s).1 := by
  intro k
  induction k with
  | zero => intro s h; exact h
  | succ k ih => intro s h; rw [zcl_s]; exact zca_ok hp k _ _ (ih s h)
/-- a state in which the letters from l on have yet to wait their day -/
theorem zwt_ok {n nc : Nat} {c : Nat → Int} (hn : n ≤ 6) (h : zHV n nc c) : ∀ l, l ≤ n → zHW n nc (zwt c l) ∧ (∀ o, l ≤ o → o < n → zwt c l (12 + o) = 0 → zwt c l (6 + o) ≤ 14) := by
  intro l
  induction l with
  | zero => intro _; exact ⟨h.1, fun o _ h1 => h.2 o h1⟩
  | succ l ih =>
    intro hl
    obtain ⟨h1, h2⟩ := ih (by omega)
    have h3 := h1.1 l (by omega)
    rw [zwt_s]
    split
    · rename_i hz
      have h4 := h2 l (by omega) (by omega) hz
      refine ⟨zHW_wait hn h1 (by omega) ⟨by omega, by omega⟩, fun o h5 h6 h7 => ?_⟩
      have h8 := h2 o (by omega) h6
      simp only [zu1] at h7 ⊢
      rw [if_neg (by omega)] at h7
      rw [if_neg (by omega)]
      exact h8 h7
    · exact ⟨h1, fun o h5 h6 h7 => h2 o (by omega) h6 h7⟩
theorem zpo_ok {n nc : Nat} {c : Nat → Int} (hn : n ≤ 6) (h : zHW n nc c) {x : Int} (hx : 4 ≤ x ∧ x < 12) : ∀ o, o ≤ n → zHW n nc (zpo c x o) := by
  intro o
  induction o with
  | zero => intro _; exact h
  | succ o ih =>
    intro ho
    rw [zpo_s]
    split
    · exact zHW_hole hn (ih (by omega)) (by omega) ⟨by omega, by omega⟩
    · exact ih (by omega)
theorem zhat_ok {n nc : Nat} {kd c : Nat → Int} (hn : n ≤ 6) (h : zHW n nc c) {l : Nat} (hl : l < n) : zHW n nc (zhat n kd c l) := by
  have h1 := h.1 l hl
  unfold zhat
  split
  · exact zpo_ok hn (zHW_fate hn h hl ⟨by decide, by decide⟩) ⟨by omega, by omega⟩ n (Nat.le_refl _)
  · exact zHW_fate hn h hl ⟨by decide, by decide⟩
theorem zpo_keep (c : Nat → Int) (x : Int) (n : Nat) (hn : n ≤ 6) : ∀ o, o ≤ n → ∀ j, 6 ≤ j → zpo c x o j = c j := by
  intro o
  induction o with
  | zero => intro _ j _; rfl
  | succ o ih =>
    intro ho j hj
    rw [zpo_s]
    split
    · rw [zu1_ne _ _ (by omega)]; exact ih (by omega) j hj
    · exact ih (by omega) j hj
theorem zhat_keep {n : Nat} {kd c : Nat → Int} (hn : n ≤ 6) (l : Nat) {j : Nat} (hj : 6 ≤ j) (hne : j ≠ 12 + l) : zhat n kd c l j = c j := by
  unfold zhat
  split
  · rw [zpo_keep _ _ n hn n (Nat.le_refl _) j hj, zu1_ne _ _ hne]
  · rw [zu1_ne _ _ hne]
theorem zhat_at {n : Nat} {kd c : Nat → Int} (hn : n ≤ 6) (l : Nat) : zhat n kd c l (12 + l) = 2 := by
  unfold zhat
  split
  · rw [zpo_keep _ _ n hn n (Nat.le_refl _) _ (by omega), zu1_eq]
  · rw [zu1_eq]
theorem zht_ok {n nc : Nat} {kd al an c : Nat → Int} (hp : zPK n nc kd al an) (h : zHW n nc c) : ∀ l, l ≤ n → zHW n nc (zht n kd al c l).1 ∧ (∀ o, o < l → (zht n kd al c l).1 (12 + o) = 0 → (zht n kd al c l).1 (6 + o) ≤ 14) ∧ (zht n kd al c l).2 ≤ l := by
  intro l
  induction l with
  | zero => intro _; exact ⟨h, fun o h1 => absurd h1 (by omega), Nat.le_refl _⟩
  | succ l ih =>
    intro hl
    obtain ⟨h1, h2, h3⟩ := ih (by omega)
    rw [zht_s]
    split
    · refine ⟨zhat_ok hp.1 h1 (by omega), fun o h4 h5 => ?_, by show _ + 1 ≤ l + 1; omega⟩
      have h5 : zhat n kd (zht n kd al c l).1 l (12 + o) = 0 := h5
      show zhat n kd (zht n kd al c l).1 l (6 + o) ≤ 14
      by_cases ho : o = l
      · subst ho
        rw [zhat_at hp.1] at h5
        exact absurd h5 (by decide)
      · rw [zhat_keep hp.1 l (by omega) (by omega)] at h5 ⊢
        exact h2 o (by omega) h5
    · rename_i hne
      refine ⟨h1, fun o h4 h5 => ?_, by omega⟩
      by_cases ho : o = l
      · subst ho
        have h6 : ¬ zdl n kd al (zht n kd al c o).1 o = 0 := fun q => hne ⟨h5, q⟩
        have h7 := hp.2.2.1 o (by omega)
        have h8 := zcnt_le (zht n kd al c o).1 o n
        have h9 := hp.1
        unfold zdl at h6
        split at h6 <;> omega
      · exact h2 o (by omega) h5
theorem zeat_ok {n nc : Nat} {c : Nat → Int} (hn : n ≤ 6) (hc : nc ≤ 3) (h : zHV n nc c) : ∀ l, l ≤ n → zHV n nc (zeat c l) := by
  intro l
  induction l with
  | zero => intro _; exact h
  | succ l ih =>
    intro hl
    have h1 := ih (by omega)
    rw [zeat_s]
    split
    · rename_i h2
      split
      · rename_i h3
        have h4 := h1.1.2.2
        refine ⟨zHW_grain hn hc h1.1 ⟨by omega, by omega⟩, fun o ho h5 => ?_⟩
        rw [zu1_ne _ _ (by omega)] at h5 ⊢
        exact h1.2 o ho h5
      · refine ⟨zHW_fate hn h1.1 (by omega) ⟨by decide, by decide⟩, fun o ho h5 => ?_⟩
        by_cases ho2 : o = l
        · subst ho2
          rw [zu1_eq] at h5
          exact absurd h5 (by decide)
        · rw [zu1_ne _ _ (by omega)] at h5 ⊢
          exact h1.2 o ho h5
    · exact h1
theorem zca_wait {n : Nat} {kd al : Nat → Int} (k : Nat) {nc : Nat} {an : Nat → Int} (hp : zPK n nc kd al an) : ∀ (r : Nat) (s : zS), zHV n nc s.1 → zHV n nc (zca n kd al k r s).1 := by
  intro r
  induction r with
  | zero => intro s h; exact h
  | succ r ih =>
    intro s h
    rw [zca_s]
    split
    · exact h
    · rename_i hne
      have h1 := zmp_rg hp h.1 (s.1 (18 + k)) n (Nat.le_refl _)
      have h9 := hp.1
      refine ih _ ⟨zHW_fate hp.1 h.1 (by omega) ⟨by decide, by decide⟩, fun o ho h5 => ?_⟩
      simp only [zu1] at h5 ⊢
      rw [if_neg (by omega)]
      split at h5
      · exact absurd h5 (by decide)
      · exact h.2 o ho h5
theorem zcl_wait {n nc : Nat} {kd al an : Nat → Int} (hp : zPK n nc kd al an) : ∀ (k : Nat) (s : zS), zHV n nc s.1 → zHV n nc (zcl n kd al an k s).1 := by
  intro k
  induction k with
  | zero => intro s h; exact h
  | succ k ih => intro s h; rw [zcl_s]; exact zca_wait k hp _ _ (ih s h)
theorem zdayA_ok {n nc : Nat} {kd al an : Nat → Int} (hp : zPK n nc kd al an) {s : zS} (h : zHV n nc s.1) : zHV n nc (zdayA n kd al nc an s).1 ∧ (zdayA n kd al nc an s).2 ≤ n := by
  have h1 := zcl_wait hp nc s h
  have h2 := (zwt_ok hp.1 h1 n (Nat.le_refl _)).1
  have h3 := zht_ok hp h2 n (Nat.le_refl _)
  exact ⟨⟨h3.1, h3.2.1⟩, h3.2.2⟩
theorem zday_ok {n nc : Nat} {kd al an : Nat → Int} (hp : zPK n nc kd al an) {s : zS} (h : zHV n nc s.1) : zHV n nc (zday n kd al nc an s).1 := by
  have h1 := zeat_ok hp.1 hp.2.1 (zdayA_ok hp h).1 n (Nat.le_refl _)
  refine ⟨zHW_day hp.1 hp.2.1 h1.1, fun o ho h5 => ?_⟩
  have h9 := hp.1
  have h5 : zu1 (zeat (zdayA n kd al nc an s).1 n) 22 (zeat (zdayA n kd al nc an s).1 n 22 + 1) (12 + o) = 0 := h5
  show zu1 (zeat (zdayA n kd al nc an s).1 n) 22 (zeat (zdayA n kd al nc an s).1 n 22 + 1) (6 + o) ≤ 14
  rw [zu1_ne _ _ (by omega)] at h5 ⊢
  exact h1.2 o ho h5
