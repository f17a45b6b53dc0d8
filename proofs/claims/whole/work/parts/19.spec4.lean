-- shares, rests, told, chances: words
theorem zca_a {n : Nat} {kd al : Nat → Int} (k : Nat) : ∀ (r : Nat) (s : zS) (j : Nat), s.2 j ≤ (zca n kd al k r s).2 j ∧ (zca n kd al k r s).2 j ≤ s.2 j + (if j = k then (r : Int) else 0) := by
  intro r
  induction r with
  | zero => intro s j; show s.2 j ≤ s.2 j ∧ s.2 j ≤ _; split <;> omega
  | succ r ih =>
    intro s j
    rw [zca_s]
    split
    · split <;> omega
    · have h := ih (zu1 s.1 (12 + (zmp n kd al s.1 (s.1 (18 + k)) n).1.toNat) 1, zu1 s.2 k (s.2 k + 1)) j
      have h2 : zu1 s.2 k (s.2 k + 1) j = if j = k then s.2 k + 1 else s.2 j := rfl
      dsimp only at h
      rw [h2] at h
      by_cases e : j = k
      · subst e; simp only [if_true] at h ⊢; omega
      · simp only [e, if_false] at h ⊢; omega
theorem zcl_a {n nc : Nat} {kd al an : Nat → Int} (hp : zPK n nc kd al an) : ∀ (m : Nat), m ≤ nc → ∀ (s : zS) (j : Nat), s.2 j ≤ (zcl n kd al an m s).2 j ∧ (zcl n kd al an m s).2 j ≤ s.2 j + (if j < m then 3 else 0) := by
  intro m
  induction m with
  | zero => intro _ s j; show s.2 j ≤ s.2 j ∧ s.2 j ≤ _; rw [if_neg (by omega)]; omega
  | succ m ih =>
    intro hm s j
    have h1 := ih (by omega) s j
    have h2 := zca_a (n := n) (kd := kd) (al := al) m (an m).toNat (zcl n kd al an m s) j
    have h3 := hp.2.2.2 m (by omega)
    rw [zcl_s]
    by_cases e : j = m
    · subst e
      rw [if_neg (by omega)] at h1
      rw [if_pos rfl] at h2
      rw [if_pos (by omega)]
      omega
    · rw [if_neg e] at h2
      by_cases e2 : j < m
      · rw [if_pos e2] at h1; rw [if_pos (by omega)]; omega
      · rw [if_neg e2] at h1; rw [if_neg (by omega)]; omega
theorem zdays_a {n nc : Nat} {kd al an : Nat → Int} (hp : zPK n nc kd al an) (s : zS) (j : Nat) : ∀ i : Nat, s.2 j ≤ (zdays n kd al nc an i s).2 j ∧ (zdays n kd al nc an i s).2 j ≤ s.2 j + 3 * i := by
  intro i
  induction i with
  | zero => show s.2 j ≤ s.2 j ∧ s.2 j ≤ _; omega
  | succ i ih =>
    have h := zcl_a hp nc (Nat.le_refl _) (zdays n kd al nc an i s) j
    have h2 : (zcl n kd al an nc (zdays n kd al nc an i s)).2 j ≤ (zdays n kd al nc an i s).2 j + 3 := by
      have := h.2
      split at this <;> omega
    show s.2 j ≤ (zcl n kd al an nc (zdays n kd al nc an i s)).2 j ∧ (zcl n kd al an nc (zdays n kd al nc an i s)).2 j ≤ _
    omega
-- shares
theorem zsh_pop : ∀ nc, nc ≤ 3 → ∀ k, k < nc → ∀ b, b < 2 ^ nc → zbit b k = 0 → zpop b ≤ nc - 1 ∧ b ||| 2 ^ k < 8 := by decide +kernel
theorem zp2_le : ∀ nc, nc ≤ 3 → 2 ^ nc ≤ 8 := by decide
theorem zb_bit3 : ∀ b : Nat, b < 8 → ∀ l : Nat, l < 3 → (zi (b : Int) >>> (zi (l : Int) &&& 31)) &&& zi 1 = zi ((zbit b l : Nat) : Int) := by decide +kernel
theorem zsr_rg {nc k : Nat} (hc : nc ≤ 3) (hk : k < nc) (g : Nat → Int) (hg : ∀ b, b < 2 ^ nc → 0 ≤ g b ∧ g b ≤ 6) : -100 ≤ (zsr g nc k (2 ^ nc)).1 ∧ (zsr g nc k (2 ^ nc)).1 ≤ 100 ∧ (zsr g nc k (2 ^ nc)).2 = zfac nc := by
  have h0 := hg 0
  have h1 := hg 1
  have h2 := hg 2
  have h3 := hg 3
  have h4 := hg 4
  have h5 := hg 5
  have h6 := hg 6
  have h7 := hg 7
  rcases (show nc = 1 ∨ nc = 2 ∨ nc = 3 by omega) with rfl | rfl | rfl
  · have : k = 0 := by omega
    subst this
    simp [zsr, zbit, zsw, zfac, zpop] at *
    omega
  · rcases (show k = 0 ∨ k = 1 by omega) with rfl | rfl <;> (simp [zsr, zbit, zsw, zfac, zpop] at *; omega)
  · rcases (show k = 0 ∨ k = 1 ∨ k = 2 by omega) with rfl | rfl | rfl <;> (simp [zsr, zbit, zsw, zfac, zpop] at *; omega)
theorem zfac_rg : ∀ k, k ≤ 3 → 1 ≤ zfac k ∧ zfac k ≤ 6 := by decide
-- rests
def zrs (n : Nat) (kd al : Nat → Int) (nc : Nat) (an c : Nat → Int) (p q a b : Nat) : zS := zdays n kd al nc an 3 (zu1 (zu1 c (18 + p) (a : Int)) (18 + q) (b : Int), zz0)
def zg1 (n : Nat) (kd al : Nat → Int) (nc : Nat) (an c : Nat → Int) (p q a b : Nat) : Int := (zrs n kd al nc an c p q a b).2 p - (if (a : Int) = c (18 + p) then 0 else 1)
def zg2 (n : Nat) (kd al : Nat → Int) (nc : Nat) (an c : Nat → Int) (p q a b : Nat) : Int := (zrs n kd al nc an c p q a b).2 q - (if (b : Int) = c (18 + q) then 0 else 1)
theorem zg1_rg {n nc : Nat} {kd al an : Nat → Int} (hp : zPK n nc kd al an) (c : Nat → Int) (p q a b : Nat) : -1 ≤ zg1 n kd al nc an c p q a b ∧ zg1 n kd al nc an c p q a b ≤ 9 := by
  have h := zdays_a hp (zu1 (zu1 c (18 + p) (a : Int)) (18 + q) (b : Int), zz0) p 3
  have h2 : zz0 p = 0 := rfl
  unfold zg1 zrs
  dsimp only at h
  split <;> omega
theorem zg2_rg {n nc : Nat} {kd al an : Nat → Int} (hp : zPK n nc kd al an) (c : Nat → Int) (p q a b : Nat) : -1 ≤ zg2 n kd al nc an c p q a b ∧ zg2 n kd al nc an c p q a b ≤ 9 := by
  have h := zdays_a hp (zu1 (zu1 c (18 + p) (a : Int)) (18 + q) (b : Int), zz0) q 3
  have h2 : zz0 q = 0 := rfl
  unfold zg2 zrs
  dsimp only at h
  split <;> omega
def zir (g h : Nat → Int) (a b : Nat) : Nat → Int
  | 0 => 1
  | r + 1 => if zir g h a b r = 1 ∧ g (3 * r + b) ≤ g (3 * a + b) ∧ h (3 * a + r) ≤ h (3 * a + b) then 1 else 0
theorem zir_s (g h : Nat → Int) (a b r : Nat) : zir g h a b (r + 1) = if zir g h a b r = 1 ∧ g (3 * r + b) ≤ g (3 * a + b) ∧ h (3 * a + r) ≤ h (3 * a + b) then 1 else 0 := rfl
theorem zir_no (g h : Nat → Int) (a b : Nat) {r : Nat} (hr : ¬ (g (3 * r + b) ≤ g (3 * a + b) ∧ h (3 * a + r) ≤ h (3 * a + b))) : ∀ m, r < m → zir g h a b m = 0 := by
  intro m
  induction m with
  | zero => intro h; exact absurd h (by omega)
  | succ m ih =>
    intro h1
    rw [zir_s]
    by_cases e : r = m
    · subst e; rw [if_neg (fun q => hr q.2)]
    · rw [if_neg (fun q => by have := ih (by omega); rw [this] at q; exact absurd q.1 (by decide))]
def zrc (t : Nat → Nat → Int) : Nat → Int × Int
  | 0 => (0, -9)
  | k + 1 => if t (k / 3) (k % 3) = 0 then zrc t k else ((zrc t k).1 + 1, if (zrc t k).1 = 0 then ((10 * (k / 3) + k % 3 : Nat) : Int) else (zrc t k).2)
theorem zrc_s (t : Nat → Nat → Int) (k : Nat) : zrc t (k + 1) = if t (k / 3) (k % 3) = 0 then zrc t k else ((zrc t k).1 + 1, if (zrc t k).1 = 0 then ((10 * (k / 3) + k % 3 : Nat) : Int) else (zrc t k).2) := rfl
theorem zrc_rg (t : Nat → Nat → Int) : ∀ k, 0 ≤ (zrc t k).1 ∧ (zrc t k).1 ≤ k := by
  intro k
  induction k with
  | zero => show (0 : Int) ≤ 0 ∧ (0 : Int) ≤ ((0 : Nat) : Int); omega
  | succ k ih =>
    rw [zrc_s]
    split
    · omega
    · show 0 ≤ (zrc t k).1 + 1 ∧ (zrc t k).1 + 1 ≤ ((k + 1 : Nat) : Int); omega
-- told
def zal (w k : Int) : Int := if k = 2 then max 1 (w / 2) else w
def zfit (dy ha : Nat → Int) (x : Int) : Nat → Int
  | 0 => 1
  | i + 1 => if zfit dy ha x i = 1 ∧ (if dy i < x then (0 : Int) else 1) = ha i then 1 else 0
theorem zfit_s (dy ha : Nat → Int) (x : Int) (i : Nat) : zfit dy ha x (i + 1) = if zfit dy ha x i = 1 ∧ (if dy i < x then (0 : Int) else 1) = ha i then 1 else 0 := rfl
theorem zfit_no (dy ha : Nat → Int) (x : Int) {r : Nat} (hr : ¬ (if dy r < x then (0 : Int) else 1) = ha r) : ∀ m, r < m → zfit dy ha x m = 0 := by
  intro m
  induction m with
  | zero => intro h; exact absurd h (by omega)
  | succ m ih =>
    intro h1
    rw [zfit_s]
    by_cases e : r = m
    · subst e; rw [if_neg (fun q => hr q.2)]
    · rw [if_neg (fun q => by have := ih (by omega); rw [this] at q; exact absurd q.1 (by decide))]
theorem zfit_rg (dy ha : Nat → Int) (x : Int) : ∀ m, zfit dy ha x m = 0 ∨ zfit dy ha x m = 1 := by
  intro m
  cases m
  · exact Or.inr rfl
  · rw [zfit_s]; split <;> omega
/-- the (9 k + w - 1)th of the 36 kinds and waits: how many fit, and the first -/
def zmy (t : Int → Int) : Nat → Int × Int
  | 0 => (0, -9)
  | j + 1 => if t (zal ((j % 9 + 1 : Nat) : Int) ((j / 9 : Nat) : Int)) = 0 then zmy t j else ((zmy t j).1 + 1, if (zmy t j).1 = 0 then ((10 * (j / 9) + (j % 9 + 1) : Nat) : Int) else (zmy t j).2)
theorem zmy_s (t : Int → Int) (j : Nat) : zmy t (j + 1) = if t (zal ((j % 9 + 1 : Nat) : Int) ((j / 9 : Nat) : Int)) = 0 then zmy t j else ((zmy t j).1 + 1, if (zmy t j).1 = 0 then ((10 * (j / 9) + (j % 9 + 1) : Nat) : Int) else (zmy t j).2) := rfl
theorem zmy_rg (t : Int → Int) : ∀ j, 0 ≤ (zmy t j).1 ∧ (zmy t j).1 ≤ j := by
  intro k
  induction k with
  | zero => show (0 : Int) ≤ 0 ∧ (0 : Int) ≤ ((0 : Nat) : Int); omega
  | succ k ih =>
    rw [zmy_s]
    split
    · omega
    · show 0 ≤ (zmy t k).1 + 1 ∧ (zmy t k).1 + 1 ≤ ((k + 1 : Nat) : Int); omega
theorem zmy_first (t : Int → Int) {j : Nat} (h0 : (zmy t j).1 = 0) (hj : ¬ t (zal ((j % 9 + 1 : Nat) : Int) ((j / 9 : Nat) : Int)) = 0) : ∀ m, j < m → (zmy t m).2 = ((10 * (j / 9) + (j % 9 + 1) : Nat) : Int) ∧ 0 < (zmy t m).1 := by
  intro m
  induction m with
  | zero => intro h; exact absurd h (by omega)
  | succ m ih =>
    intro h
    rw [zmy_s]
    by_cases e : j = m
    · subst e
      rw [if_neg hj, h0]
      exact ⟨rfl, by show (0 : Int) < 0 + 1; decide⟩
    · obtain ⟨h1, h2⟩ := ih (by omega)
      split
      · exact ⟨h1, h2⟩
      · refine ⟨?_, ?_⟩
        · show (if (zmy t m).1 = 0 then _ else (zmy t m).2) = _
          rw [if_neg (by omega)]; exact h1
        · show 0 < (zmy t m).1 + 1; omega
theorem zmy_none (t : Int → Int) : ∀ j, (zmy t j).1 = 0 → (zmy t j).2 = -9 := by
  intro j
  induction j with
  | zero => intro _; rfl
  | succ j ih =>
    have h := zmy_rg t j
    rw [zmy_s]
    split
    · exact ih
    · intro h1
      have h1 : (zmy t j).1 + 1 = 0 := h1
      exact absurd h1 (by omega)
-- chances
def zrow (X : Int) : Nat → Nat → Int
  | 0, j => if j = 0 then 1 else 0
  | b + 1, j => zrow X b j * X + (if j = 0 then 0 else zrow X b (j - 1) * (10 - X))
theorem zrow_s (X : Int) (b j : Nat) : zrow X (b + 1) j = zrow X b j * X + (if j = 0 then 0 else zrow X b (j - 1) * (10 - X)) := rfl
def zten : Nat → Nat
  | 0 => 1
  | b + 1 => zten b * 10
def zsumr (X : Int) (b : Nat) (m : Nat) : Nat → Int
  | 0 => 0
  | i + 1 => zsumr X b m i + zrow X b (m + i)
theorem zsumr_rg : ∀ b, b ≤ 6 → ∀ x, x ≤ 10 → ∀ m, m ≤ 6 → 0 ≤ zsumr ((x : Nat) : Int) b m (7 - m) ∧ zsumr ((x : Nat) : Int) b m (7 - m) ≤ 1000000 ∧ 1 ≤ zten b ∧ zten b ≤ 1000000 := by decide +kernel
