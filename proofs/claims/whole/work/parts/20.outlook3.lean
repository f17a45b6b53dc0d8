set_option maxHeartbeats 4000000 in
set_option maxRecDepth 100000 in
theorem ct_factorial (la : Launch) (g0 : zG) (ad : Nat → Nat) (μ : zMem) (k : Nat) (hk : k ≤ 3) : zCon la g0 yX2_factorial cX2_factorial 3 (some .int) 0 ad zSH [.int (zi ((k : Nat) : Int))] μ (zPd μ ((zfac k : Nat) : Int)) := by
  refine zCon_of (by decide +kernel) (Nat.le_of_ble_eq_true rfl) ?_
  intro χ K T hl1 hg1
  have K : zOk χ cX2_factorial RX2 3 0 (some .int) := K
  show zV χ 3 ad zSH 0 0 0 [(0, .int (zi ((k : Nat) : Int)))] [] μ
  refine z_iconst K dX2_factorial_0 ?_
  refine z_istore_n (lv' := [(0, .int (zi ((k : Nat) : Int))), (1, .int (zi (1 : Int)))]) K dX2_factorial_1 (by decide) rfl ?_
  refine z_iconst K dX2_factorial_2 ?_
  refine z_istore_n (lv' := [(0, .int (zi ((k : Nat) : Int))), (1, .int (zi (1 : Int))), (2, .int (zi (2 : Int)))]) K dX2_factorial_3 (by decide) rfl ?_
  have L4 : ∀ i, i ≤ 4 → 2 ≤ i → i ≤ k + 1 ∨ i = 2 → zV χ 3 ad zSH 0 0 4 [(0, .int (zi ((k : Nat) : Int))), (1, .int (zi ((zfac (i - 1) : Nat) : Int))), (2, .int (zi ((i : Nat) : Int)))] [] μ := by
    refine zfor ?_
    intro i hi ih h2 hik
    refine z_iload_n K dX2_factorial_4 rfl ?_
    refine z_iload_n K dX2_factorial_5 rfl ?_
    refine z_icmpgt (tgt := 19) K dX2_factorial_6 (by decide) (by omega) (by omega) (fun h6 => ?_) (fun h6 => ?_)
    · refine z_iload_n K dX2_factorial_19 rfl ?_
      exact z_iretd K T rfl dX2_factorial_20 (by rcases (show i = k + 1 ∨ (k = 0 ∧ i = 2) by omega) with h | ⟨h, h3⟩; · rw [h]; rfl
          · rw [h, h3]; rfl) rfl
    · refine z_iload_n K dX2_factorial_9 rfl ?_
      refine z_iload_n K dX2_factorial_10 rfl ?_
      refine z_imul K dX2_factorial_11 ?_
      rw [show (((zfac (i - 1) : Nat) : Int) * ((i : Nat) : Int)) = ((zfac (i + 1 - 1) : Nat) : Int) from (by rw [show i + 1 - 1 = (i - 1) + 1 by omega]; show _ = (((i - 1 + 1) * zfac (i - 1) : Nat) : Int); rw [show i - 1 + 1 = i by omega, Nat.mul_comm]; push_cast; rfl)]
      refine z_istore_n (lv' := [(0, .int (zi ((k : Nat) : Int))), (1, .int (zi ((zfac (i + 1 - 1) : Nat) : Int))), (2, .int (zi ((i : Nat) : Int)))]) K dX2_factorial_12 (by decide) rfl ?_
      refine z_iincN (lv' := [(0, .int (zi ((k : Nat) : Int))), (1, .int (zi ((zfac (i + 1 - 1) : Nat) : Int))), (2, .int (zi ((i + 1 : Nat) : Int)))]) K dX2_factorial_13 rfl (by decide) rfl ?_
      refine z_goto (tgt := 4) K dX2_factorial_16 (by decide) ?_
      exact ih (i + 1) (by omega) (by omega) (by omega) (by omega)
  exact L4 2 (by omega) (by omega) (by omega)
def zScW (μ : zMem) (n : Nat) (kd al : Nat → Int) (nc : Nat) (an c : Nat → Int) : zMem → Prop := fun ν => ∃ w x y, ν = zup (zup (zup μ 22 w) 26 x) 27 y ∧ ∀ b, b < 2 ^ nc → w b = (zlw n kd al nc an c b : Int)
theorem zsh_or : ∀ nc, nc ≤ 3 → ∀ k, k < nc → ∀ b, b < 2 ^ nc → b ||| 2 ^ k < 2 ^ nc := by decide +kernel
def zScG (μ : zMem) (n : Nat) (kd al : Nat → Int) (nc : Nat) (an c : Nat → Int) (p q : Nat) : zMem → Prop := fun ν => ∃ g h x y, ν = zup (zup (zup (zup μ 23 g) 24 h) 26 x) 27 y ∧ ∀ i j, i < 3 → j < 3 → 3 * i + j < 9 → g (3 * i + j) = zg1 n kd al nc an c p q i j ∧ h (3 * i + j) = zg2 n kd al nc an c p q i j
def zSc4 (μ : zMem) (X : Int) : Int → zMem → Prop := fun r ν => r = X ∧ ∃ g h x y, ν = zup (zup (zup (zup μ 23 g) 24 h) 26 x) 27 y
theorem zir_cg {g h g' h' : Nat → Int} (hg : ∀ k, k < 9 → g k = g' k ∧ h k = h' k) {a b : Nat} (ha : a < 3) (hb : b < 3) : ∀ r, r ≤ 3 → zir g h a b r = zir g' h' a b r := by
  intro r
  induction r with
  | zero => intro _; rfl
  | succ r ih =>
    intro hr
    rw [zir_s, zir_s, ih (by omega), (hg (3 * r + b) (by omega)).1, (hg (3 * a + b) (by omega)).1, (hg (3 * a + r) (by omega)).2, (hg (3 * a + b) (by omega)).2]
theorem zrc_cg {t t' : Nat → Nat → Int} (h : ∀ a b, a < 3 → b < 3 → t a b = t' a b) : ∀ k, k ≤ 9 → zrc t k = zrc t' k := by
  intro k
  induction k with
  | zero => intro _; rfl
  | succ k ih => intro hk; rw [zrc_s, zrc_s, ih (by omega), h (k / 3) (k % 3) (by omega) (by omega)]
theorem zir_rg (g h : Nat → Int) (a b : Nat) : ∀ r, zir g h a b r = 0 ∨ zir g h a b r = 1 := by
  intro r
  cases r
  · exact Or.inr rfl
  · rw [zir_s]; split <;> omega
