-- the reference's frame: what a question leaves as it was
abbrev zMs (q : Nat) : Prop := q = 44 ∨ q = 45 ∨ q = 47 ∨ q = 53 ∨ q = 54 ∨ q = 55
abbrev zMf (j : Nat) : Prop := j = 2 ∨ j = 4 ∨ j = 7 ∨ j = 17 ∨ j = 20 ∨ j = 23
def zFh (h0 h : Nat → Int) : Prop := ∀ j, zMf j → h j = h0 j
theorem zFh_0 (h : Nat → Int) : zFh h h := fun _ _ => rfl
theorem zFh_u {h0 h : Nat → Int} (q : zFh h0 h) {j : Nat} (hj : ¬ zMf j) (v : Int) : zFh h0 (zu1 h j v) := by
  intro i hi
  have hne : i ≠ j := fun e => hj (by rw [← e]; exact hi)
  rw [zu1_ne _ _ hne]
  exact q i hi
def zFr (μ ν : zMem) : Prop := (∀ q, q ≠ 39 → ¬ zMs q → ν q = μ q) ∧ zFh (μ 39) (ν 39)
theorem zFr_0 (μ : zMem) : zFr μ μ := ⟨fun _ _ _ => rfl, zFh_0 _⟩
theorem zFr_c {μ ν : zMem} (h : zFr μ ν) {k : Nat} (hk : zMs k) (f : Nat → Int) : zFr μ (zup ν k f) := by
  refine ⟨fun q h1 h2 => ?_, ?_⟩
  · have hne : ¬ q = k := fun e => h2 (by rw [e]; exact hk)
    unfold zup; rw [if_neg hne]; exact h.1 q h1 h2
  · show zFh (μ 39) (zup ν k f 39)
    unfold zup
    rw [if_neg (fun e => by rcases hk with e1 | e1 | e1 | e1 | e1 | e1 <;> omega)]
    exact h.2
theorem zFr_h {μ ν : zMem} (h : zFr μ ν) {g : Nat → Int} (hg : zFh (μ 39) g) : zFr μ (zup ν 39 g) := by
  refine ⟨fun q h1 h2 => ?_, ?_⟩
  · unfold zup; rw [if_neg h1]; exact h.1 q h1 h2
  · show zFh (μ 39) (zup ν 39 g 39)
    unfold zup
    rw [if_pos rfl]
    exact hg
def zQm (μ : zMem) (X r : Int) (ν : zMem) : Prop := r = X ∧ zFr μ ν
theorem zMP_fr {μ ν : zMem} {n nc : Nat} {kd al wt an : Nat → Int} (hm : zMP μ n nc kd al wt an) (h : zFr μ ν) : zMP ν n nc kd al wt an := by
  obtain ⟨h1, h2, h3, h4, h5⟩ := hm
  refine ⟨by rw [h.2 4 (by decide)]; exact h1, by rw [h.2 7 (by decide)]; exact h2, ?_, ?_, h5⟩
  · rw [h.1 41 (by decide) (by decide), h.1 42 (by decide) (by decide)]; exact h3
  · rw [h.1 43 (by decide) (by decide)]; exact h4
-- a day's hall does not look at what was answered before
theorem zca_fst (n : Nat) (kd al : Nat → Int) (k : Nat) : ∀ (r : Nat) (c a b : Nat → Int), (zca n kd al k r (c, a)).1 = (zca n kd al k r (c, b)).1 := by
  intro r
  induction r with
  | zero => intro c a b; rfl
  | succ r ih =>
    intro c a b
    rw [zca_s, zca_s]
    dsimp only
    split
    · rfl
    · exact ih _ _ _
theorem zcl_fst (n : Nat) (kd al an : Nat → Int) (c a b : Nat → Int) : ∀ k, (zcl n kd al an k (c, a)).1 = (zcl n kd al an k (c, b)).1 := by
  intro k
  induction k with
  | zero => rfl
  | succ k ih =>
    rw [zcl_s, zcl_s]
    have h := zca_fst n kd al k (an k).toNat (zcl n kd al an k (c, a)).1 (zcl n kd al an k (c, a)).2 (zcl n kd al an k (c, b)).2
    rw [show (zcl n kd al an k (c, b)) = ((zcl n kd al an k (c, a)).1, (zcl n kd al an k (c, b)).2) by rw [ih]]
    exact h
theorem zdayA_fst (n : Nat) (kd al : Nat → Int) (nc : Nat) (an : Nat → Int) (c a b : Nat → Int) : zdayA n kd al nc an (c, a) = zdayA n kd al nc an (c, b) := by
  unfold zdayA
  rw [zcl_fst n kd al an c a b nc]
theorem zday_fst (n : Nat) (kd al : Nat → Int) (nc : Nat) (an : Nat → Int) (c a b : Nat → Int) : (zday n kd al nc an (c, a)).1 = (zday n kd al nc an (c, b)).1 := by
  unfold zday
  dsimp only
  rw [zdayA_fst n kd al nc an c a b]
theorem zday_fst' (n : Nat) (kd al : Nat → Int) (nc : Nat) (an : Nat → Int) (s t : zS) (h : s.1 = t.1) : (zday n kd al nc an s).1 = (zday n kd al nc an t).1 := by
  obtain ⟨c, a⟩ := s
  obtain ⟨d, b⟩ := t
  dsimp only at h
  subst h
  exact zday_fst n kd al nc an c a b
theorem zdayM_fst' (n : Nat) (kd al : Nat → Int) (nc : Nat) (an : Nat → Int) (s t : zS) (h : s.1 = t.1) : zdayM n kd al nc an s = zdayM n kd al nc an t := by
  obtain ⟨c, a⟩ := s
  obtain ⟨d, b⟩ := t
  dsimp only at h
  subst h
  unfold zdayM
  rw [zdayA_fst n kd al nc an c a b]
theorem zdays_fst (n : Nat) (kd al : Nat → Int) (nc : Nat) (an : Nat → Int) (s t : zS) (h : s.1 = t.1) : ∀ j, (zdays n kd al nc an j s).1 = (zdays n kd al nc an j t).1 := by
  intro j
  induction j with
  | zero => exact h
  | succ j ih => exact zday_fst' n kd al nc an _ _ ih
theorem zdt_fst (n : Nat) (kd al : Nat → Int) (nc : Nat) (an : Nat → Int) (l : Nat) : ∀ (r d : Nat) (s t : zS), s.1 = t.1 → zdt n kd al nc an l r d s = zdt n kd al nc an l r d t := by
  intro r
  induction r with
  | zero => intro d s t _; rfl
  | succ r ih =>
    intro d s t h
    rw [zdt_s, zdt_s, h, ih (d + 1) _ _ (zday_fst' n kd al nc an _ _ h)]
-- an answered one stays answered
theorem zca_one {n nc : Nat} {kd al an : Nat → Int} (hp : zPK n nc kd al an) (k l : Nat) : ∀ (r : Nat) (s : zS), zHW n nc s.1 → s.1 (12 + l) = 1 → (zca n kd al k r s).1 (12 + l) = 1 := by
  intro r
  induction r with
  | zero => intro s _ h; exact h
  | succ r ih =>
    intro s hw h
    rw [zca_s]
    split
    · exact h
    · rename_i hne
      have h1 := zmp_rg hp hw (s.1 (18 + k)) n (Nat.le_refl _)
      refine ih _ (zHW_fate hp.1 hw (by omega) ⟨by decide, by decide⟩) ?_
      dsimp only
      unfold zu1
      split
      · rfl
      · exact h
theorem zcl_one {n nc : Nat} {kd al an : Nat → Int} (hp : zPK n nc kd al an) (l : Nat) (s : zS) (hw : zHW n nc s.1) (h : s.1 (12 + l) = 1) : ∀ k, (zcl n kd al an k s).1 (12 + l) = 1 := by
  intro k
  induction k with
  | zero => exact h
  | succ k ih => rw [zcl_s]; exact zca_one hp k l _ _ (zcl_ok hp k s hw) ih
theorem zwt_keep (c : Nat → Int) (n : Nat) (hn : n ≤ 6) (j : Nat) (hj : 12 ≤ j) : ∀ l, l ≤ n → zwt c l j = c j := by
  intro l
  induction l with
  | zero => intro _; rfl
  | succ l ih =>
    intro hl
    rw [zwt_s]
    split
    · rw [zu1_ne _ _ (by omega)]; exact ih (by omega)
    · exact ih (by omega)
theorem zht_one {n : Nat} {kd al c : Nat → Int} (hn : n ≤ 6) (l : Nat) (h : c (12 + l) = 1) : ∀ o, (zht n kd al c o).1 (12 + l) = 1 := by
  intro o
  induction o with
  | zero => exact h
  | succ o ih =>
    rw [zht_s]
    split
    · rename_i hq
      have hne : o ≠ l := by
        intro e; subst e; omega
      dsimp only
      rw [zhat_keep hn o (by omega) (by omega)]
      exact ih
    · exact ih
theorem zeat_one {c : Nat → Int} (l : Nat) (n : Nat) (hl6 : l < 6) (hn : n ≤ 6) (h : c (12 + l) = 1) : ∀ o, o ≤ n → zeat c o (12 + l) = 1 := by
  intro o
  induction o with
  | zero => intro _; exact h
  | succ o ih =>
    intro ho
    have i := ih (by omega)
    rw [zeat_s]
    split
    · rename_i hq
      have hne : o ≠ l := by
        intro e; subst e; omega
      split
      · rw [zu1_ne _ _ (by omega)]; exact i
      · rw [zu1_ne _ _ (by omega)]; exact i
    · exact i
theorem zday_one {n nc : Nat} {kd al an : Nat → Int} (hp : zPK n nc kd al an) {s : zS} (hw : zHV n nc s.1) {l : Nat} (hl : l < n) (h : s.1 (12 + l) = 1) : (zday n kd al nc an s).1 (12 + l) = 1 := by
  have h6 := hp.1
  unfold zday zdayA
  dsimp only
  rw [zu1_ne _ _ (by omega)]
  refine zeat_one l n (by omega) h6 ?_ n (Nat.le_refl _)
  refine zht_one h6 l ?_ n
  rw [zwt_keep _ n h6 _ (by omega) n (Nat.le_refl _)]
  exact zcl_one hp l s hw.1 h nc
theorem zbit_or : ∀ x, x < 64 → ∀ l, l < 6 → ∀ o, o < 6 → zbit (x ||| 2 ^ o) l = if l = o then 1 else zbit x l := by decide +kernel
theorem zbit_who (c : Nat → Int) (f : Int) (l : Nat) (hl : l < 6) : ∀ n, n ≤ 6 → zbit (zwho c f n) l = if l < n ∧ c (12 + l) = f then 1 else 0 := by
  intro n
  induction n with
  | zero => intro _; rw [if_neg (by omega)]; show zbit 0 l = 0; unfold zbit; simp
  | succ n ih =>
    intro hn
    have hlt : zwho c f n < 64 := Nat.lt_of_lt_of_le (zwho_lt c f n) (Nat.pow_le_pow_right (by decide) (show n ≤ 6 by omega))
    rw [zwho_s]
    split
    · rename_i h
      rw [zbit_or _ hlt l hl n (by omega), ih (by omega)]
      by_cases e : l = n
      · subst e; rw [if_pos rfl, if_pos ⟨by omega, h⟩]
      · rw [if_neg e]
        by_cases h9 : c (12 + l) = f
        · by_cases h8 : l < n
          · rw [if_pos ⟨h8, h9⟩, if_pos ⟨by omega, h9⟩]
          · rw [if_neg (by omega), if_neg (by omega)]
        · rw [if_neg (fun q => h9 q.2), if_neg (fun q => h9 q.2)]
    · rename_i h
      rw [ih (by omega)]
      by_cases e : l = n
      · subst e; rw [if_neg (by omega), if_neg (fun q => h q.2)]
      · by_cases h9 : c (12 + l) = f
        · by_cases h8 : l < n
          · rw [if_pos ⟨h8, h9⟩, if_pos ⟨by omega, h9⟩]
          · rw [if_neg (by omega), if_neg (by omega)]
        · rw [if_neg (fun q => h9 q.2), if_neg (fun q => h9 q.2)]
theorem zbit_oror : ∀ x, x < 64 → ∀ y, y < 64 → ∀ l, l < 6 → zbit (x ||| y) l = if zbit x l = 1 ∨ zbit y l = 1 then 1 else 0 := by decide +kernel
theorem zbit_lost (c : Nat → Int) {n l : Nat} (hn : n ≤ 6) (hl : l < n) : zbit (zwho c 2 n ||| zwho c 3 n) l = if c (12 + l) = 2 ∨ c (12 + l) = 3 then 1 else 0 := by
  have h1 : zwho c 2 n < 64 := Nat.lt_of_lt_of_le (zwho_lt c 2 n) (Nat.pow_le_pow_right (by decide) hn)
  have h2 : zwho c 3 n < 64 := Nat.lt_of_lt_of_le (zwho_lt c 3 n) (Nat.pow_le_pow_right (by decide) hn)
  rw [zbit_oror _ h1 _ h2 l (by omega), zbit_who c 2 l (by omega) n hn, zbit_who c 3 l (by omega) n hn]
  by_cases e2 : c (12 + l) = 2
  · simp [hl, e2]
  · by_cases e3 : c (12 + l) = 3
    · simp [hl, e3]
    · simp [e2, e3]
