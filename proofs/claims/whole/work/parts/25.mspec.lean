-- THE REFERENCE: its page p beside the class's cells c (fates and waits stand the other way round; a clerk that is not in S is away)
def zAg (n nc S : Nat) (p c : Nat → Int) : Prop := (∀ l, l < n → p l = c l ∧ p (6 + l) = c (12 + l) ∧ p (12 + l) = c (6 + l)) ∧ (∀ k, k < nc → (zbit S k = 1 → p (18 + k) = c (18 + k)) ∧ (zbit S k = 0 → c (18 + k) = 3)) ∧ p 21 = c 21 ∧ p 22 = c 22
def zMP (μ : zMem) (n nc : Nat) (kd al wt an : Nat → Int) : Prop := μ 39 4 = (n : Int) ∧ μ 39 7 = (nc : Int) ∧ (∀ l, l < n → μ 41 l = wt l ∧ μ 42 l = kd l ∧ al l = zal (wt l) (kd l) ∧ 1 ≤ wt l ∧ wt l ≤ 9) ∧ (∀ k, k < nc → μ 43 k = an k) ∧ zPK n nc kd al an
def znd (n : Nat) (kd al c : Nat → Int) (l : Nat) : Int := if kd l = 3 then al l + (zcnt c l n : Int) else al l
theorem zdl_nd (n : Nat) (kd al c : Nat → Int) (l : Nat) : zdl n kd al c l = max 0 (znd n kd al c l - c (6 + l)) := by
  unfold zdl znd
  split <;> omega
def zpw (a : Int) : Nat → Int
  | 0 => 1
  | k + 1 => zpw a k * a
theorem zbit_lt (b l : Nat) : zbit b l < 2 := Nat.mod_lt _ (by decide)
theorem zpop_bits : ∀ x, x < 64 → zpop x = zbit x 0 + zbit x 1 + zbit x 2 + zbit x 3 + zbit x 4 + zbit x 5 := by decide +kernel
def zmn (x : Nat) : Nat → Nat
  | 0 => 0
  | k + 1 => zmn x k + zbit x k
theorem zmn_6 {x : Nat} (h : x < 64) : zmn x 6 = zpop x := by rw [zpop_bits x h]; simp only [zmn]; omega
/-- one that a clerk of a row may answer -/
def zel (c : Nat → Int) (row : Int) (l : Nat) : Prop := c (12 + l) = 0 ∧ c l / 4 = row
/-- found: the least of those with the fewest days to wait, among i .. n - 1 -/
def znx (n : Nat) (kd al c : Nat → Int) (row : Int) (i : Nat) (f : Int) : Prop :=
  (f = -9 ∧ ∀ j, i ≤ j → j < n → ¬ zel c row j) ∨ ∃ b : Nat, f = (b : Int) ∧ i ≤ b ∧ b < n ∧ zel c row b ∧ (∀ j, i ≤ j → j < n → zel c row j → zdl n kd al c b ≤ zdl n kd al c j) ∧ ∀ j, i ≤ j → j < b → zel c row j → zdl n kd al c b < zdl n kd al c j
theorem zmp_is (n : Nat) (kd al c : Nat → Int) (row : Int) : ∀ i, ((zmp n kd al c row i).1 = -9 ∧ ∀ j, j < i → ¬ zel c row j) ∨ ∃ b : Nat, (zmp n kd al c row i).1 = (b : Int) ∧ (zmp n kd al c row i).2 = zdl n kd al c b ∧ b < i ∧ zel c row b ∧ (∀ j, j < i → zel c row j → zdl n kd al c b ≤ zdl n kd al c j) ∧ ∀ j, j < b → zel c row j → zdl n kd al c b < zdl n kd al c j := by
  intro i
  induction i with
  | zero => exact Or.inl ⟨rfl, fun j hj => absurd hj (by omega)⟩
  | succ i ih =>
    rw [zmp_s]
    by_cases he : zel c row i
    · rcases ih with ⟨h1, h2⟩ | ⟨b, h1, h2, h3, h4, h5, h6⟩
      · rw [if_pos ⟨he.1, he.2, Or.inl h1⟩]
        exact Or.inr ⟨i, rfl, rfl, by omega, he, fun j hj hj2 => by
          by_cases e : j = i
          · subst e; exact Int.le_refl _
          · exact absurd hj2 (h2 j (by omega)), fun j hj hj2 => absurd hj2 (h2 j hj)⟩
      · by_cases hlt : zdl n kd al c i < (zmp n kd al c row i).2
        · rw [if_pos ⟨he.1, he.2, Or.inr hlt⟩]
          rw [h2] at hlt
          exact Or.inr ⟨i, rfl, rfl, by omega, he, fun j hj hj2 => by
            by_cases e : j = i
            · subst e; exact Int.le_refl _
            · have := h5 j (by omega) hj2; omega, fun j hj hj2 => by have := h5 j hj hj2; omega⟩
        · rw [if_neg (fun q => by rcases q.2.2 with q | q; rw [h1] at q; omega; exact hlt q)]
          rw [h2] at hlt
          exact Or.inr ⟨b, h1, h2, by omega, h4, fun j hj hj2 => by
            by_cases e : j = i
            · subst e; omega
            · exact h5 j (by omega) hj2, h6⟩
    · rw [if_neg (fun q => he ⟨q.1, q.2.1⟩)]
      rcases ih with ⟨h1, h2⟩ | ⟨b, h1, h2, h3, h4, h5, h6⟩
      · exact Or.inl ⟨h1, fun j hj => by
          by_cases e : j = i
          · subst e; exact he
          · exact h2 j (by omega)⟩
      · exact Or.inr ⟨b, h1, h2, by omega, h4, fun j hj hj2 => by
          by_cases e : j = i
          · subst e; exact absurd hj2 he
          · exact h5 j (by omega) hj2, h6⟩
theorem znx_mp {n : Nat} {kd al c : Nat → Int} {row : Int} {f : Int} (h : znx n kd al c row 0 f) : f = (zmp n kd al c row n).1 := by
  rcases zmp_is n kd al c row n with ⟨h1, h2⟩ | ⟨b, h1, h2, h3, h4, h5, h6⟩
  · rcases h with ⟨g1, g2⟩ | ⟨b', g1, g2, g3, g4, g5, g6⟩
    · rw [g1, h1]
    · exact absurd g4 (h2 b' g3)
  · rcases h with ⟨g1, g2⟩ | ⟨b', g1, g2, g3, g4, g5, g6⟩
    · exact absurd h4 (g2 b (by omega) h3)
    · have k1 := h5 b' g3 g4
      have k2 := g5 b (by omega) h3 h4
      rcases Nat.lt_trichotomy b b' with e | e | e
      · have := g6 b (by omega) e h4; omega
      · rw [g1, h1, e]
      · have := h6 b' e g4; omega
theorem zmp_3 {n nc : Nat} {kd al c : Nat → Int} (h : zHW n nc c) : (zmp n kd al c 3 n).1 = -9 := by
  rcases zmp_is n kd al c 3 n with ⟨h1, h2⟩ | ⟨b, h1, h2, h3, h4, h5, h6⟩
  · exact h1
  · have := h.1 b h3
    have h9 := h4.2
    omega
theorem zca_no {n : Nat} {kd al : Nat → Int} {k : Nat} {s : zS} (h : (zmp n kd al s.1 (s.1 (18 + k)) n).1 = -9) : ∀ r, zca n kd al k r s = s := by
  intro r
  cases r
  · rfl
  · rw [zca_s, if_pos h]
theorem zca_row {n nc : Nat} {kd al an : Nat → Int} (hp : zPK n nc kd al an) (k : Nat) : ∀ (r : Nat) (s : zS), zHW n nc s.1 → ∀ j, 18 ≤ j → (zca n kd al k r s).1 j = s.1 j := by
  intro r
  induction r with
  | zero => intro s _ j _; rfl
  | succ r ih =>
    intro s h j hj
    rw [zca_s]
    split
    · rfl
    · rename_i hne
      have h1 := zmp_rg hp h (s.1 (18 + k)) n (Nat.le_refl _)
      have h9 := hp.1
      rw [ih _ (zHW_fate hp.1 h (by omega) ⟨by decide, by decide⟩) j hj]
      exact zu1_ne _ _ (by omega)
-- agreement stays
theorem zAg_fate {n nc S : Nat} {p c : Nat → Int} (hn : n ≤ 6) (h : zAg n nc S p c) {l : Nat} (hl : l < n) (v : Int) : zAg n nc S (zu1 p (6 + l) v) (zu1 c (12 + l) v) := by
  obtain ⟨h1, h2, h3, h4⟩ := h
  refine ⟨fun j hj => ?_, fun k hk => ?_, ?_, ?_⟩
  · have := h1 j hj
    by_cases e : j = l
    · subst e; exact ⟨by rw [zu1_ne _ _ (by omega), zu1_ne _ _ (by omega)]; exact this.1, by rw [zu1_eq, zu1_eq], by rw [zu1_ne _ _ (by omega), zu1_ne _ _ (by omega)]; exact this.2.2⟩
    · exact ⟨by rw [zu1_ne _ _ (by omega), zu1_ne _ _ (by omega)]; exact this.1, by rw [zu1_ne _ _ (by omega), zu1_ne _ _ (by omega)]; exact this.2.1, by rw [zu1_ne _ _ (by omega), zu1_ne _ _ (by omega)]; exact this.2.2⟩
  · rw [zu1_ne _ _ (by omega), zu1_ne _ _ (by omega)]; exact h2 k hk
  · rw [zu1_ne _ _ (by omega), zu1_ne _ _ (by omega)]; exact h3
  · rw [zu1_ne _ _ (by omega), zu1_ne _ _ (by omega)]; exact h4
theorem zAg_hole {n nc S : Nat} {p c : Nat → Int} (hn : n ≤ 6) (h : zAg n nc S p c) {l : Nat} (hl : l < n) (v : Int) : zAg n nc S (zu1 p l v) (zu1 c l v) := by
  obtain ⟨h1, h2, h3, h4⟩ := h
  refine ⟨fun j hj => ?_, fun k hk => ?_, ?_, ?_⟩
  · have := h1 j hj
    by_cases e : j = l
    · subst e; exact ⟨by rw [zu1_eq, zu1_eq], by rw [zu1_ne _ _ (by omega), zu1_ne _ _ (by omega)]; exact this.2.1, by rw [zu1_ne _ _ (by omega), zu1_ne _ _ (by omega)]; exact this.2.2⟩
    · exact ⟨by rw [zu1_ne _ _ (by omega), zu1_ne _ _ (by omega)]; exact this.1, by rw [zu1_ne _ _ (by omega), zu1_ne _ _ (by omega)]; exact this.2.1, by rw [zu1_ne _ _ (by omega), zu1_ne _ _ (by omega)]; exact this.2.2⟩
  · rw [zu1_ne _ _ (by omega), zu1_ne _ _ (by omega)]; exact h2 k hk
  · rw [zu1_ne _ _ (by omega), zu1_ne _ _ (by omega)]; exact h3
  · rw [zu1_ne _ _ (by omega), zu1_ne _ _ (by omega)]; exact h4
theorem zAg_wait {n nc S : Nat} {p c : Nat → Int} (hn : n ≤ 6) (h : zAg n nc S p c) {l : Nat} (hl : l < n) (v : Int) : zAg n nc S (zu1 p (12 + l) v) (zu1 c (6 + l) v) := by
  obtain ⟨h1, h2, h3, h4⟩ := h
  refine ⟨fun j hj => ?_, fun k hk => ?_, ?_, ?_⟩
  · have := h1 j hj
    by_cases e : j = l
    · subst e; exact ⟨by rw [zu1_ne _ _ (by omega), zu1_ne _ _ (by omega)]; exact this.1, by rw [zu1_ne _ _ (by omega), zu1_ne _ _ (by omega)]; exact this.2.1, by rw [zu1_eq, zu1_eq]⟩
    · exact ⟨by rw [zu1_ne _ _ (by omega), zu1_ne _ _ (by omega)]; exact this.1, by rw [zu1_ne _ _ (by omega), zu1_ne _ _ (by omega)]; exact this.2.1, by rw [zu1_ne _ _ (by omega), zu1_ne _ _ (by omega)]; exact this.2.2⟩
  · rw [zu1_ne _ _ (by omega), zu1_ne _ _ (by omega)]; exact h2 k hk
  · rw [zu1_ne _ _ (by omega), zu1_ne _ _ (by omega)]; exact h3
  · rw [zu1_ne _ _ (by omega), zu1_ne _ _ (by omega)]; exact h4
theorem zAg_one {n nc S : Nat} {p c : Nat → Int} (hn : n ≤ 6) (hc : nc ≤ 3) (h : zAg n nc S p c) {i : Nat} (hi : i = 21 ∨ i = 22) (v : Int) : zAg n nc S (zu1 p i v) (zu1 c i v) := by
  obtain ⟨h1, h2, h3, h4⟩ := h
  refine ⟨fun j hj => ?_, fun k hk => ?_, ?_, ?_⟩
  · have := h1 j hj
    rw [zu1_ne _ _ (by omega), zu1_ne _ _ (by omega), zu1_ne _ _ (by omega), zu1_ne _ _ (by omega), zu1_ne _ _ (by omega), zu1_ne _ _ (by omega)]; exact this
  · rw [zu1_ne _ _ (by omega), zu1_ne _ _ (by omega)]; exact h2 k hk
  · simp only [zu1]; split <;> simp_all
  · simp only [zu1]; split <;> simp_all
theorem zAg_row {n nc S : Nat} {p c : Nat → Int} (hn : n ≤ 6) (hc : nc ≤ 3) (h : zAg n nc S p c) {k : Nat} (hk : k < nc) (v : Int) (hb : zbit S k = 1) : zAg n nc S (zu1 p (18 + k) v) (zu1 c (18 + k) v) := by
  obtain ⟨h1, h2, h3, h4⟩ := h
  refine ⟨fun j hj => ?_, fun j hj => ?_, ?_, ?_⟩
  · have := h1 j hj
    rw [zu1_ne _ _ (by omega), zu1_ne _ _ (by omega), zu1_ne _ _ (by omega), zu1_ne _ _ (by omega), zu1_ne _ _ (by omega), zu1_ne _ _ (by omega)]; exact this
  · by_cases e : j = k
    · subst e; rw [zu1_eq, zu1_eq]; exact ⟨fun _ => rfl, fun h0 => absurd h0 (by omega)⟩
    · rw [zu1_ne _ _ (by omega), zu1_ne _ _ (by omega)]; exact h2 j hj
  · rw [zu1_ne _ _ (by omega), zu1_ne _ _ (by omega)]; exact h3
  · rw [zu1_ne _ _ (by omega), zu1_ne _ _ (by omega)]; exact h4
theorem zAg_same {n nc S : Nat} {p c : Nat → Int} (h : zAg n nc S p c) (i : Nat) {v : Int} (hv : v = p i) : zAg n nc S (zu1 p i v) c := by
  have e : zu1 p i v = p := by
    funext j; unfold zu1; split
    · rename_i hj; rw [hj, hv]
    · rfl
  rw [e]; exact h
